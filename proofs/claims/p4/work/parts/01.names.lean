-- ===== PART A: goes FIRST, ahead of the names: the tables' words, and 'selects' of the private methods out of them =====
/-- a private method of a class that the tables say can be made, by its rows of tables_1 -/
def lw_okq (q : MethodName × Nat) : Prop := (q.1.cls ≠ "java/lang/invoke/MethodHandle" ∧ q.1.cls ≠ "java/lang/invoke/VarHandle") ∧ Cond.instantiable q.1.cls q.2 ∈ tables_1 ∧ Cond.privateMethod q.1 ∈ tables_1 ∧ Cond.instanceMethod q.1 ∈ tables_1
theorem lw_p0 : lw_okq (⟨"SpringSpaces", "forgetAnswers", "()V"⟩, 9) := ⟨⟨by decide +kernel, by decide +kernel⟩, List.mem_of_getElem? (i := 12) (by decide +kernel), List.mem_of_getElem? (i := 203) (by decide +kernel), List.mem_of_getElem? (i := 204) (by decide +kernel)⟩
theorem lw_p1 : lw_okq (⟨"SpringSpaces", "takeInHand", "(III)I"⟩, 9) := ⟨⟨by decide +kernel, by decide +kernel⟩, List.mem_of_getElem? (i := 12) (by decide +kernel), List.mem_of_getElem? (i := 341) (by decide +kernel), List.mem_of_getElem? (i := 342) (by decide +kernel)⟩
theorem lw_p2 : lw_okq (⟨"SpringSpaces$Needs", "gatherStaff", "(LSpringSpaces$Items;II)V"⟩, 4) := ⟨⟨by decide +kernel, by decide +kernel⟩, List.mem_of_getElem? (i := 88) (by decide +kernel), List.mem_of_getElem? (i := 353) (by decide +kernel), List.mem_of_getElem? (i := 354) (by decide +kernel)⟩
theorem lw_p3 : lw_okq (⟨"SpringSpaces$Needs", "note", "(III)V"⟩, 4) := ⟨⟨by decide +kernel, by decide +kernel⟩, List.mem_of_getElem? (i := 88) (by decide +kernel), List.mem_of_getElem? (i := 366) (by decide +kernel), List.mem_of_getElem? (i := 367) (by decide +kernel)⟩
theorem lw_p4 : lw_okq (⟨"SpringSpaces$Line", "meet", "(IIJ)V"⟩, 6) := ⟨⟨by decide +kernel, by decide +kernel⟩, List.mem_of_getElem? (i := 107) (by decide +kernel), List.mem_of_getElem? (i := 416) (by decide +kernel), List.mem_of_getElem? (i := 417) (by decide +kernel)⟩
theorem lw_p5 : lw_okq (⟨"SpringSpaces$Force", "fit", "([J[JIIJ)V"⟩, 2) := ⟨⟨by decide +kernel, by decide +kernel⟩, List.mem_of_getElem? (i := 113) (by decide +kernel), List.mem_of_getElem? (i := 428) (by decide +kernel), List.mem_of_getElem? (i := 429) (by decide +kernel)⟩
theorem lw_p6 : lw_okq (⟨"SpringSpaces$Line", "widthAbove", "(I)J"⟩, 6) := ⟨⟨by decide +kernel, by decide +kernel⟩, List.mem_of_getElem? (i := 107) (by decide +kernel), List.mem_of_getElem? (i := 506) (by decide +kernel), List.mem_of_getElem? (i := 507) (by decide +kernel)⟩
theorem lw_p7 : lw_okq (⟨"SpringSpaces$Line", "widthsAboveBefore", "(I)J"⟩, 6) := ⟨⟨by decide +kernel, by decide +kernel⟩, List.mem_of_getElem? (i := 107) (by decide +kernel), List.mem_of_getElem? (i := 531) (by decide +kernel), List.mem_of_getElem? (i := 532) (by decide +kernel)⟩
theorem lw_p8 : lw_okq (⟨"SpringSpaces$Breaks", "chooseFrom", "(ILSpringSpaces$Columns;LSpringSpaces$Needs;LSpringSpaces$Line;I)V"⟩, 5) := ⟨⟨by decide +kernel, by decide +kernel⟩, List.mem_of_getElem? (i := 146) (by decide +kernel), List.mem_of_getElem? (i := 565) (by decide +kernel), List.mem_of_getElem? (i := 566) (by decide +kernel)⟩
theorem lw_p9 : lw_okq (⟨"SpringSpaces$Breaks", "tellBegins", "(I)V"⟩, 5) := ⟨⟨by decide +kernel, by decide +kernel⟩, List.mem_of_getElem? (i := 146) (by decide +kernel), List.mem_of_getElem? (i := 580) (by decide +kernel), List.mem_of_getElem? (i := 581) (by decide +kernel)⟩
theorem lw_p10 : lw_okq (⟨"SpringSpacesModel", "changed", "()V"⟩, 34) := ⟨⟨by decide +kernel, by decide +kernel⟩, List.mem_of_getElem? (i := 609) (by decide +kernel), List.mem_of_getElem? (i := 722) (by decide +kernel), List.mem_of_getElem? (i := 723) (by decide +kernel)⟩
theorem lw_p11 : lw_okq (⟨"SpringSpacesModel", "springOf", "(I)J"⟩, 34) := ⟨⟨by decide +kernel, by decide +kernel⟩, List.mem_of_getElem? (i := 609) (by decide +kernel), List.mem_of_getElem? (i := 740) (by decide +kernel), List.mem_of_getElem? (i := 741) (by decide +kernel)⟩
theorem lw_p12 : lw_okq (⟨"SpringSpacesModel", "isColumn", "(I)Z"⟩, 34) := ⟨⟨by decide +kernel, by decide +kernel⟩, List.mem_of_getElem? (i := 609) (by decide +kernel), List.mem_of_getElem? (i := 754) (by decide +kernel), List.mem_of_getElem? (i := 755) (by decide +kernel)⟩
theorem lw_p13 : lw_okq (⟨"SpringSpacesModel", "made", "(III)I"⟩, 34) := ⟨⟨by decide +kernel, by decide +kernel⟩, List.mem_of_getElem? (i := 609) (by decide +kernel), List.mem_of_getElem? (i := 778) (by decide +kernel), List.mem_of_getElem? (i := 779) (by decide +kernel)⟩
theorem lw_p14 : lw_okq (⟨"SpringSpacesModel", "settle", "(II)V"⟩, 34) := ⟨⟨by decide +kernel, by decide +kernel⟩, List.mem_of_getElem? (i := 609) (by decide +kernel), List.mem_of_getElem? (i := 782) (by decide +kernel), List.mem_of_getElem? (i := 783) (by decide +kernel)⟩
theorem lw_p15 : lw_okq (⟨"SpringSpacesModel", "need", "(IIIII)V"⟩, 34) := ⟨⟨by decide +kernel, by decide +kernel⟩, List.mem_of_getElem? (i := 609) (by decide +kernel), List.mem_of_getElem? (i := 786) (by decide +kernel), List.mem_of_getElem? (i := 787) (by decide +kernel)⟩
def lw_privs_1 : List (MethodName × Nat) := [(⟨"SpringSpaces", "forgetAnswers", "()V"⟩, 9), (⟨"SpringSpaces", "takeInHand", "(III)I"⟩, 9), (⟨"SpringSpaces$Needs", "gatherStaff", "(LSpringSpaces$Items;II)V"⟩, 4), (⟨"SpringSpaces$Needs", "note", "(III)V"⟩, 4), (⟨"SpringSpaces$Line", "meet", "(IIJ)V"⟩, 6), (⟨"SpringSpaces$Force", "fit", "([J[JIIJ)V"⟩, 2), (⟨"SpringSpaces$Line", "widthAbove", "(I)J"⟩, 6), (⟨"SpringSpaces$Line", "widthsAboveBefore", "(I)J"⟩, 6), (⟨"SpringSpaces$Breaks", "chooseFrom", "(ILSpringSpaces$Columns;LSpringSpaces$Needs;LSpringSpaces$Line;I)V"⟩, 5), (⟨"SpringSpaces$Breaks", "tellBegins", "(I)V"⟩, 5), (⟨"SpringSpacesModel", "changed", "()V"⟩, 34), (⟨"SpringSpacesModel", "springOf", "(I)J"⟩, 34), (⟨"SpringSpacesModel", "isColumn", "(I)Z"⟩, 34), (⟨"SpringSpacesModel", "made", "(III)I"⟩, 34), (⟨"SpringSpacesModel", "settle", "(II)V"⟩, 34), (⟨"SpringSpacesModel", "need", "(IIIII)V"⟩, 34)]
theorem lw_r1 : ∀ q ∈ lw_privs_1, lw_okq q := List.forall_mem_cons.mpr ⟨lw_p0, List.forall_mem_cons.mpr ⟨lw_p1, List.forall_mem_cons.mpr ⟨lw_p2, List.forall_mem_cons.mpr ⟨lw_p3, List.forall_mem_cons.mpr ⟨lw_p4, List.forall_mem_cons.mpr ⟨lw_p5, List.forall_mem_cons.mpr ⟨lw_p6, List.forall_mem_cons.mpr ⟨lw_p7, List.forall_mem_cons.mpr ⟨lw_p8, List.forall_mem_cons.mpr ⟨lw_p9, List.forall_mem_cons.mpr ⟨lw_p10, List.forall_mem_cons.mpr ⟨lw_p11, List.forall_mem_cons.mpr ⟨lw_p12, List.forall_mem_cons.mpr ⟨lw_p13, List.forall_mem_cons.mpr ⟨lw_p14, List.forall_mem_cons.mpr ⟨lw_p15, fun _ h => absurd h List.not_mem_nil⟩⟩⟩⟩⟩⟩⟩⟩⟩⟩⟩⟩⟩⟩⟩⟩
theorem lw_p16 : lw_okq (⟨"SpringSpacesModel", "sum", "(II)I"⟩, 34) := ⟨⟨by decide +kernel, by decide +kernel⟩, List.mem_of_getElem? (i := 609) (by decide +kernel), List.mem_of_getElem? (i := 790) (by decide +kernel), List.mem_of_getElem? (i := 791) (by decide +kernel)⟩
theorem lw_p17 : lw_okq (⟨"SpringSpacesModel", "hasSpring", "(II)Z"⟩, 34) := ⟨⟨by decide +kernel, by decide +kernel⟩, List.mem_of_getElem? (i := 609) (by decide +kernel), List.mem_of_getElem? (i := 794) (by decide +kernel), List.mem_of_getElem? (i := 795) (by decide +kernel)⟩
theorem lw_p18 : lw_okq (⟨"SpringSpacesModel", "findForce", "(III)V"⟩, 34) := ⟨⟨by decide +kernel, by decide +kernel⟩, List.mem_of_getElem? (i := 609) (by decide +kernel), List.mem_of_getElem? (i := 798) (by decide +kernel), List.mem_of_getElem? (i := 799) (by decide +kernel)⟩
theorem lw_p19 : lw_okq (⟨"SpringSpacesModel", "wide", "(I)J"⟩, 34) := ⟨⟨by decide +kernel, by decide +kernel⟩, List.mem_of_getElem? (i := 609) (by decide +kernel), List.mem_of_getElem? (i := 826) (by decide +kernel), List.mem_of_getElem? (i := 827) (by decide +kernel)⟩
theorem lw_p20 : lw_okq (⟨"SpringSpacesModel", "before", "(I)J"⟩, 34) := ⟨⟨by decide +kernel, by decide +kernel⟩, List.mem_of_getElem? (i := 609) (by decide +kernel), List.mem_of_getElem? (i := 838) (by decide +kernel), List.mem_of_getElem? (i := 839) (by decide +kernel)⟩
theorem lw_p21 : lw_okq (⟨"SpringSpacesModel", "naturalOf", "(II)I"⟩, 34) := ⟨⟨by decide +kernel, by decide +kernel⟩, List.mem_of_getElem? (i := 609) (by decide +kernel), List.mem_of_getElem? (i := 850) (by decide +kernel), List.mem_of_getElem? (i := 851) (by decide +kernel)⟩
theorem lw_p22 : lw_okq (⟨"SpringSpacesModel", "isBreak", "(I)Z"⟩, 34) := ⟨⟨by decide +kernel, by decide +kernel⟩, List.mem_of_getElem? (i := 609) (by decide +kernel), List.mem_of_getElem? (i := 858) (by decide +kernel), List.mem_of_getElem? (i := 859) (by decide +kernel)⟩
theorem lw_p23 : lw_okq (⟨"SpringSpacesModel", "costOf", "(III)J"⟩, 34) := ⟨⟨by decide +kernel, by decide +kernel⟩, List.mem_of_getElem? (i := 609) (by decide +kernel), List.mem_of_getElem? (i := 862) (by decide +kernel), List.mem_of_getElem? (i := 863) (by decide +kernel)⟩
def lw_privs_2 : List (MethodName × Nat) := [(⟨"SpringSpacesModel", "sum", "(II)I"⟩, 34), (⟨"SpringSpacesModel", "hasSpring", "(II)Z"⟩, 34), (⟨"SpringSpacesModel", "findForce", "(III)V"⟩, 34), (⟨"SpringSpacesModel", "wide", "(I)J"⟩, 34), (⟨"SpringSpacesModel", "before", "(I)J"⟩, 34), (⟨"SpringSpacesModel", "naturalOf", "(II)I"⟩, 34), (⟨"SpringSpacesModel", "isBreak", "(I)Z"⟩, 34), (⟨"SpringSpacesModel", "costOf", "(III)J"⟩, 34)]
theorem lw_r2 : ∀ q ∈ lw_privs_2, lw_okq q := List.forall_mem_cons.mpr ⟨lw_p16, List.forall_mem_cons.mpr ⟨lw_p17, List.forall_mem_cons.mpr ⟨lw_p18, List.forall_mem_cons.mpr ⟨lw_p19, List.forall_mem_cons.mpr ⟨lw_p20, List.forall_mem_cons.mpr ⟨lw_p21, List.forall_mem_cons.mpr ⟨lw_p22, List.forall_mem_cons.mpr ⟨lw_p23, fun _ h => absurd h List.not_mem_nil⟩⟩⟩⟩⟩⟩⟩⟩
def lw_privs : List (MethodName × Nat) := lw_privs_1 ++ (lw_privs_2)
def lw_tbl : List Cond := k2_sels lw_privs ++ tables_1
theorem lw_privs_ok : ∀ q ∈ lw_privs, lw_okq q := by
  show ∀ q ∈ lw_privs_1 ++ (lw_privs_2), lw_okq q
  exact List.forall_mem_append.mpr ⟨lw_r1, lw_r2⟩

def gtb : List Cond := lw_tbl.filter goodWord
theorem in_c {c : Cond} {L : List Cond} (h : ∀ w ∈ L, w ∈ gtb) : ∀ w ∈ L, w ∈ c :: gtb := fun w q => List.mem_cons_of_mem _ (h w q)
theorem gd_ {w : Cond} (h : w ∈ gtb) : (w.onTables && w.keeps) = true ∨ ∃ ty, w = .arrayClass ty := good_of_word (List.mem_filter.mp h).2
theorem gi_0 {c c1 : Cond} (h : c1 ∈ gtb) : GoodIn (c :: gtb) (c1 :: gtb) := fun w q => (List.mem_cons.mp q).elim (fun e => e ▸ ⟨List.mem_cons_of_mem _ h, gd_ h⟩) (fun q => ⟨List.mem_cons_of_mem _ q, gd_ q⟩)
theorem gi_L {c : Cond} {ws : List Cond} (h : ∀ w ∈ ws, w ∈ gtb) : GoodIn (c :: gtb) ws := fun w q => ⟨List.mem_cons_of_mem _ (h w q), gd_ (h w q)⟩
theorem gi_V {c c1 : Cond} {own C : String} {idx : Nat} {y : MethodName} (h1 : Cond.methodLink own idx y ∈ gtb) (h2 : Cond.instanceMethod y ∈ gtb) (h3 : Cond.selects C y y ∈ gtb) (h4 : Cond.initialized C ∈ gtb) (h5 : c1 ∈ gtb) : GoodIn (c :: gtb) (wsV own idx C y (c1 :: gtb)) := by
  refine gi_L ?_
  unfold wsV
  intro w h
  simp only [List.cons_append, List.nil_append, List.mem_cons] at h
  rcases h with rfl | rfl | rfl | rfl | rfl | h <;> assumption
theorem gi_S {c c1 : Cond} {own : String} {idx : Nat} {y : MethodName} (h1 : Cond.methodLink own idx y ∈ gtb) (h2 : Cond.static y ∈ gtb) (h3 : Cond.initialized y.cls ∈ gtb) (h5 : c1 ∈ gtb) : GoodIn (c :: gtb) (va_wsS own idx y (c1 :: gtb)) := by
  refine gi_L ?_
  unfold va_wsS
  intro w h
  simp only [List.cons_append, List.nil_append, List.mem_cons] at h
  rcases h with rfl | rfl | rfl | rfl | h <;> assumption
def RqX : String := "SpringSpaces"
def TqX : u_T := fun k => match k with
  | 0 => ("SpringSpaces", "columns", "LSpringSpaces$Columns;", true)
  | 1 => ("SpringSpaces", "items", "LSpringSpaces$Items;", true)
  | 2 => ("SpringSpaces", "rods", "LSpringSpaces$Rods;", true)
  | 3 => ("SpringSpaces", "needs", "LSpringSpaces$Needs;", true)
  | 4 => ("SpringSpaces", "hand", "LSpringSpaces$Line;", true)
  | 5 => ("SpringSpaces", "trial", "LSpringSpaces$Line;", true)
  | 6 => ("SpringSpaces", "breaks", "LSpringSpaces$Breaks;", true)
  | 7 => ("SpringSpaces", "atHand", "Z", false)
  | _ => ("SpringSpaces", "broken", "Z", false)
def tyqX : Nat → FieldType := fun k => match k with
  | 0 => .object "SpringSpaces$Columns"
  | 1 => .object "SpringSpaces$Items"
  | 2 => .object "SpringSpaces$Rods"
  | 3 => .object "SpringSpaces$Needs"
  | 4 => .object "SpringSpaces$Line"
  | 5 => .object "SpringSpaces$Line"
  | 6 => .object "SpringSpaces$Breaks"
  | 7 => .boolean
  | _ => .boolean
theorem nmqX : ∀ a, a < 9 → ∀ b, b < 9 → a ≠ b → (TqX a).2.1 ≠ (TqX b).2.1 := by decide +kernel
theorem tyqX_ok : ∀ k, k < 9 → parseFieldDescriptor (TqX k).2.2.1 = some (tyqX k) := by decide +kernel
set_option maxRecDepth 20000 in
theorem inqX : ∀ w ∈ u_ws RqX TqX 9, w ∈ gtb := by
  have h : ∀ w ∈ u_ws RqX TqX 9, w ∈ lw_tbl ∧ goodWord w = true := by decide +kernel
  exact fun w q => List.mem_filter.mpr (h w q)
def RqCo : String := "SpringSpaces$Columns"
def TqCo : u_T := fun k => match k with
  | 0 => ("SpringSpaces$Columns", "times", "[I", true)
  | 1 => ("SpringSpaces$Columns", "leasts", "[I", true)
  | 2 => ("SpringSpaces$Columns", "bars", "[Z", true)
  | 3 => ("SpringSpaces$Columns", "count", "I", false)
  | 4 => ("SpringSpaces$Columns", "base", "I", false)
  | _ => ("SpringSpaces$Columns", "more", "I", false)
def tyqCo : Nat → FieldType := fun k => match k with
  | 0 => .array .int
  | 1 => .array .int
  | 2 => .array .boolean
  | 3 => .int
  | 4 => .int
  | _ => .int
theorem nmqCo : ∀ a, a < 6 → ∀ b, b < 6 → a ≠ b → (TqCo a).2.1 ≠ (TqCo b).2.1 := by decide +kernel
theorem tyqCo_ok : ∀ k, k < 6 → parseFieldDescriptor (TqCo k).2.2.1 = some (tyqCo k) := by decide +kernel
set_option maxRecDepth 20000 in
theorem inqCo : ∀ w ∈ u_ws RqCo TqCo 6, w ∈ gtb := by
  have h : ∀ w ∈ u_ws RqCo TqCo 6, w ∈ lw_tbl ∧ goodWord w = true := by decide +kernel
  exact fun w q => List.mem_filter.mpr (h w q)
def RqIt : String := "SpringSpaces$Items"
def TqIt : u_T := fun k => match k with
  | 0 => ("SpringSpaces$Items", "there", "[Z", true)
  | 1 => ("SpringSpaces$Items", "lefts", "[I", true)
  | _ => ("SpringSpaces$Items", "rights", "[I", true)
def tyqIt : Nat → FieldType := fun k => match k with
  | 0 => .array .boolean
  | 1 => .array .int
  | _ => .array .int
theorem nmqIt : ∀ a, a < 3 → ∀ b, b < 3 → a ≠ b → (TqIt a).2.1 ≠ (TqIt b).2.1 := by decide +kernel
theorem tyqIt_ok : ∀ k, k < 3 → parseFieldDescriptor (TqIt k).2.2.1 = some (tyqIt k) := by decide +kernel
set_option maxRecDepth 20000 in
theorem inqIt : ∀ w ∈ u_ws RqIt TqIt 3, w ∈ gtb := by
  have h : ∀ w ∈ u_ws RqIt TqIt 3, w ∈ lw_tbl ∧ goodWord w = true := by decide +kernel
  exact fun w q => List.mem_filter.mpr (h w q)
def RqRo : String := "SpringSpaces$Rods"
def TqRo : u_T := fun k => match k with
  | 0 => ("SpringSpaces$Rods", "there", "[Z", true)
  | 1 => ("SpringSpaces$Rods", "froms", "[I", true)
  | 2 => ("SpringSpaces$Rods", "tos", "[I", true)
  | 3 => ("SpringSpaces$Rods", "widths", "[I", true)
  | 4 => ("SpringSpaces$Rods", "numbers", "I", false)
  | _ => ("SpringSpaces$Rods", "count", "I", false)
def tyqRo : Nat → FieldType := fun k => match k with
  | 0 => .array .boolean
  | 1 => .array .int
  | 2 => .array .int
  | 3 => .array .int
  | 4 => .int
  | _ => .int
theorem nmqRo : ∀ a, a < 6 → ∀ b, b < 6 → a ≠ b → (TqRo a).2.1 ≠ (TqRo b).2.1 := by decide +kernel
theorem tyqRo_ok : ∀ k, k < 6 → parseFieldDescriptor (TqRo k).2.2.1 = some (tyqRo k) := by decide +kernel
set_option maxRecDepth 20000 in
theorem inqRo : ∀ w ∈ u_ws RqRo TqRo 6, w ∈ gtb := by
  have h : ∀ w ∈ u_ws RqRo TqRo 6, w ∈ lw_tbl ∧ goodWord w = true := by decide +kernel
  exact fun w q => List.mem_filter.mpr (h w q)
def RqNe : String := "SpringSpaces$Needs"
def TqNe : u_T := fun k => match k with
  | 0 => ("SpringSpaces$Needs", "froms", "[I", true)
  | 1 => ("SpringSpaces$Needs", "tos", "[I", true)
  | 2 => ("SpringSpaces$Needs", "widths", "[I", true)
  | _ => ("SpringSpaces$Needs", "count", "I", false)
def tyqNe : Nat → FieldType := fun k => match k with
  | 0 => .array .int
  | 1 => .array .int
  | 2 => .array .int
  | _ => .int
theorem nmqNe : ∀ a, a < 4 → ∀ b, b < 4 → a ≠ b → (TqNe a).2.1 ≠ (TqNe b).2.1 := by decide +kernel
theorem tyqNe_ok : ∀ k, k < 4 → parseFieldDescriptor (TqNe k).2.2.1 = some (tyqNe k) := by decide +kernel
set_option maxRecDepth 20000 in
theorem inqNe : ∀ w ∈ u_ws RqNe TqNe 4, w ∈ gtb := by
  have h : ∀ w ∈ u_ws RqNe TqNe 4, w ∈ lw_tbl ∧ goodWord w = true := by decide +kernel
  exact fun w q => List.mem_filter.mpr (h w q)
def RqFo : String := "SpringSpaces$Force"
def TqFo : u_T := fun k => match k with
  | 0 => ("SpringSpaces$Force", "above", "J", false)
  | _ => ("SpringSpaces$Force", "below", "J", false)
def tyqFo : Nat → FieldType := fun k => match k with
  | 0 => .long
  | _ => .long
theorem nmqFo : ∀ a, a < 2 → ∀ b, b < 2 → a ≠ b → (TqFo a).2.1 ≠ (TqFo b).2.1 := by decide +kernel
theorem tyqFo_ok : ∀ k, k < 2 → parseFieldDescriptor (TqFo k).2.2.1 = some (tyqFo k) := by decide +kernel
set_option maxRecDepth 20000 in
theorem inqFo : ∀ w ∈ u_ws RqFo TqFo 2, w ∈ gtb := by
  have h : ∀ w ∈ u_ws RqFo TqFo 2, w ∈ lw_tbl ∧ goodWord w = true := by decide +kernel
  exact fun w q => List.mem_filter.mpr (h w q)
def RqLi : String := "SpringSpaces$Line"
def TqLi : u_T := fun k => match k with
  | 0 => ("SpringSpaces$Line", "leasts", "[J", true)
  | 1 => ("SpringSpaces$Line", "springs", "[J", true)
  | 2 => ("SpringSpaces$Line", "force", "LSpringSpaces$Force;", true)
  | 3 => ("SpringSpaces$Line", "first", "I", false)
  | 4 => ("SpringSpaces$Line", "last", "I", false)
  | _ => ("SpringSpaces$Line", "excess", "J", false)
def tyqLi : Nat → FieldType := fun k => match k with
  | 0 => .array .long
  | 1 => .array .long
  | 2 => .object "SpringSpaces$Force"
  | 3 => .int
  | 4 => .int
  | _ => .long
theorem nmqLi : ∀ a, a < 6 → ∀ b, b < 6 → a ≠ b → (TqLi a).2.1 ≠ (TqLi b).2.1 := by decide +kernel
theorem tyqLi_ok : ∀ k, k < 6 → parseFieldDescriptor (TqLi k).2.2.1 = some (tyqLi k) := by decide +kernel
set_option maxRecDepth 20000 in
theorem inqLi : ∀ w ∈ u_ws RqLi TqLi 6, w ∈ gtb := by
  have h : ∀ w ∈ u_ws RqLi TqLi 6, w ∈ lw_tbl ∧ goodWord w = true := by decide +kernel
  exact fun w q => List.mem_filter.mpr (h w q)
def RqBr : String := "SpringSpaces$Breaks"
def TqBr : u_T := fun k => match k with
  | 0 => ("SpringSpaces$Breaks", "costs", "[J", true)
  | 1 => ("SpringSpaces$Breaks", "counts", "[I", true)
  | 2 => ("SpringSpaces$Breaks", "nexts", "[I", true)
  | 3 => ("SpringSpaces$Breaks", "begins", "[I", true)
  | _ => ("SpringSpaces$Breaks", "size", "I", false)
def tyqBr : Nat → FieldType := fun k => match k with
  | 0 => .array .long
  | 1 => .array .int
  | 2 => .array .int
  | 3 => .array .int
  | _ => .int
theorem nmqBr : ∀ a, a < 5 → ∀ b, b < 5 → a ≠ b → (TqBr a).2.1 ≠ (TqBr b).2.1 := by decide +kernel
theorem tyqBr_ok : ∀ k, k < 5 → parseFieldDescriptor (TqBr k).2.2.1 = some (tyqBr k) := by decide +kernel
set_option maxRecDepth 20000 in
theorem inqBr : ∀ w ∈ u_ws RqBr TqBr 5, w ∈ gtb := by
  have h : ∀ w ∈ u_ws RqBr TqBr 5, w ∈ lw_tbl ∧ goodWord w = true := by decide +kernel
  exact fun w q => List.mem_filter.mpr (h w q)
def RqM : String := "SpringSpacesModel"
def TqM : u_T := fun k => match k with
  | 0 => ("SpringSpacesModel", "base", "I", false)
  | 1 => ("SpringSpacesModel", "more", "I", false)
  | 2 => ("SpringSpacesModel", "columns", "I", false)
  | 3 => ("SpringSpacesModel", "times", "[I", true)
  | 4 => ("SpringSpacesModel", "leasts", "[I", true)
  | 5 => ("SpringSpacesModel", "bars", "[Z", true)
  | 6 => ("SpringSpacesModel", "isItem", "[Z", true)
  | 7 => ("SpringSpacesModel", "lefts", "[I", true)
  | 8 => ("SpringSpacesModel", "rights", "[I", true)
  | 9 => ("SpringSpacesModel", "rods", "I", false)
  | 10 => ("SpringSpacesModel", "rodsLeft", "I", false)
  | 11 => ("SpringSpacesModel", "rodFrom", "[I", true)
  | 12 => ("SpringSpacesModel", "rodTo", "[I", true)
  | 13 => ("SpringSpacesModel", "rodWidth", "[I", true)
  | 14 => ("SpringSpacesModel", "isRod", "[Z", true)
  | 15 => ("SpringSpacesModel", "hasLine", "Z", false)
  | 16 => ("SpringSpacesModel", "first", "I", false)
  | 17 => ("SpringSpacesModel", "last", "I", false)
  | 18 => ("SpringSpacesModel", "over", "I", false)
  | 19 => ("SpringSpacesModel", "above", "J", false)
  | 20 => ("SpringSpacesModel", "below", "J", false)
  | 21 => ("SpringSpacesModel", "settled", "[I", true)
  | 22 => ("SpringSpacesModel", "springs", "[J", true)
  | 23 => ("SpringSpacesModel", "hasLines", "Z", false)
  | 24 => ("SpringSpacesModel", "lineCount", "I", false)
  | 25 => ("SpringSpacesModel", "cost", "J", false)
  | 26 => ("SpringSpacesModel", "begins", "[I", true)
  | 27 => ("SpringSpacesModel", "work", "[I", true)
  | 28 => ("SpringSpacesModel", "gives", "[Z", true)
  | 29 => ("SpringSpacesModel", "forceAbove", "J", false)
  | 30 => ("SpringSpacesModel", "forceBelow", "J", false)
  | 31 => ("SpringSpacesModel", "bestCost", "[J", true)
  | 32 => ("SpringSpacesModel", "bestLines", "[I", true)
  | _ => ("SpringSpacesModel", "bestEnd", "[I", true)
def tyqM : Nat → FieldType := fun k => match k with
  | 0 => .int
  | 1 => .int
  | 2 => .int
  | 3 => .array .int
  | 4 => .array .int
  | 5 => .array .boolean
  | 6 => .array .boolean
  | 7 => .array .int
  | 8 => .array .int
  | 9 => .int
  | 10 => .int
  | 11 => .array .int
  | 12 => .array .int
  | 13 => .array .int
  | 14 => .array .boolean
  | 15 => .boolean
  | 16 => .int
  | 17 => .int
  | 18 => .int
  | 19 => .long
  | 20 => .long
  | 21 => .array .int
  | 22 => .array .long
  | 23 => .boolean
  | 24 => .int
  | 25 => .long
  | 26 => .array .int
  | 27 => .array .int
  | 28 => .array .boolean
  | 29 => .long
  | 30 => .long
  | 31 => .array .long
  | 32 => .array .int
  | _ => .array .int
theorem nmqM : ∀ a, a < 34 → ∀ b, b < 34 → a ≠ b → (TqM a).2.1 ≠ (TqM b).2.1 := by decide +kernel
theorem tyqM_ok : ∀ k, k < 34 → parseFieldDescriptor (TqM k).2.2.1 = some (tyqM k) := by decide +kernel
set_option maxRecDepth 20000 in
theorem inqM : ∀ w ∈ u_ws RqM TqM 34, w ∈ gtb := by
  have h : ∀ w ∈ u_ws RqM TqM 34, w ∈ lw_tbl ∧ goodWord w = true := by decide +kernel
  exact fun w q => List.mem_filter.mpr (h w q)
def RqL : String := "SpringSpacesLaw"
def RqJ : String := "java/lang/Math"
abbrev cqX_init : ByteArray := prog_1_method_1_code
def yqX_init : MethodName := ⟨RqX, "<init>", "()V"⟩
abbrev wsqX_init : List Cond := Cond.code yqX_init cqX_init 1 (none) :: gtb
abbrev cqX_table : ByteArray := prog_1_method_2_code
def yqX_table : MethodName := ⟨RqX, "table", "(II)I"⟩
abbrev wsqX_table : List Cond := Cond.code yqX_table cqX_table 3 (some .int) :: gtb
abbrev cqX_column : ByteArray := prog_1_method_3_code
def yqX_column : MethodName := ⟨RqX, "column", "(I)I"⟩
abbrev wsqX_column : List Cond := Cond.code yqX_column cqX_column 2 (some .int) :: gtb
abbrev cqX_clear : ByteArray := prog_1_method_4_code
def yqX_clear : MethodName := ⟨RqX, "clear", "()I"⟩
abbrev wsqX_clear : List Cond := Cond.code yqX_clear cqX_clear 1 (some .int) :: gtb
abbrev cqX_spring : ByteArray := prog_1_method_5_code
def yqX_spring : MethodName := ⟨RqX, "spring", "(I)J"⟩
abbrev wsqX_spring : List Cond := Cond.code yqX_spring cqX_spring 2 (some .long) :: gtb
abbrev cqX_least : ByteArray := prog_1_method_6_code
def yqX_least : MethodName := ⟨RqX, "least", "(II)I"⟩
abbrev wsqX_least : List Cond := Cond.code yqX_least cqX_least 3 (some .int) :: gtb
abbrev cqX_item : ByteArray := prog_1_method_7_code
def yqX_item : MethodName := ⟨RqX, "item", "(IIII)I"⟩
abbrev wsqX_item : List Cond := Cond.code yqX_item cqX_item 5 (some .int) :: gtb
abbrev cqX_remove : ByteArray := prog_1_method_8_code
def yqX_remove : MethodName := ⟨RqX, "remove", "(II)I"⟩
abbrev wsqX_remove : List Cond := Cond.code yqX_remove cqX_remove 3 (some .int) :: gtb
abbrev cqX_rod : ByteArray := prog_1_method_9_code
def yqX_rod : MethodName := ⟨RqX, "rod", "(III)I"⟩
abbrev wsqX_rod : List Cond := Cond.code yqX_rod cqX_rod 4 (some .int) :: gtb
abbrev cqX_drop : ByteArray := prog_1_method_10_code
def yqX_drop : MethodName := ⟨RqX, "drop", "(I)I"⟩
abbrev wsqX_drop : List Cond := Cond.code yqX_drop cqX_drop 2 (some .int) :: gtb
abbrev cqX_bar : ByteArray := prog_1_method_11_code
def yqX_bar : MethodName := ⟨RqX, "bar", "(IZ)I"⟩
abbrev wsqX_bar : List Cond := Cond.code yqX_bar cqX_bar 3 (some .int) :: gtb
abbrev cqX_run : ByteArray := prog_1_method_12_code
def yqX_run : MethodName := ⟨RqX, "run", "(I)I"⟩
abbrev wsqX_run : List Cond := Cond.code yqX_run cqX_run 2 (some .int) :: gtb
abbrev cqX_line : ByteArray := prog_1_method_13_code
def yqX_line : MethodName := ⟨RqX, "line", "(III)I"⟩
abbrev wsqX_line : List Cond := Cond.code yqX_line cqX_line 4 (some .int) :: gtb
abbrev cqX_over : ByteArray := prog_1_method_14_code
def yqX_over : MethodName := ⟨RqX, "over", "()I"⟩
abbrev wsqX_over : List Cond := Cond.code yqX_over cqX_over 1 (some .int) :: gtb
abbrev cqX_force : ByteArray := prog_1_method_15_code
def yqX_force : MethodName := ⟨RqX, "force", "(I)J"⟩
abbrev wsqX_force : List Cond := Cond.code yqX_force cqX_force 2 (some .long) :: gtb
abbrev cqX_width : ByteArray := prog_1_method_16_code
def yqX_width : MethodName := ⟨RqX, "width", "(II)J"⟩
abbrev wsqX_width : List Cond := Cond.code yqX_width cqX_width 3 (some .long) :: gtb
abbrev cqX_settled : ByteArray := prog_1_method_17_code
def yqX_settled : MethodName := ⟨RqX, "settled", "(I)I"⟩
abbrev wsqX_settled : List Cond := Cond.code yqX_settled cqX_settled 2 (some .int) :: gtb
abbrev cqX_place : ByteArray := prog_1_method_18_code
def yqX_place : MethodName := ⟨RqX, "place", "(I)I"⟩
abbrev wsqX_place : List Cond := Cond.code yqX_place cqX_place 2 (some .int) :: gtb
abbrev cqX_level : ByteArray := prog_1_method_19_code
def yqX_level : MethodName := ⟨RqX, "level", "(I)I"⟩
abbrev wsqX_level : List Cond := Cond.code yqX_level cqX_level 2 (some .int) :: gtb
abbrev cqX_lines : ByteArray := prog_1_method_20_code
def yqX_lines : MethodName := ⟨RqX, "lines", "(I)I"⟩
abbrev wsqX_lines : List Cond := Cond.code yqX_lines cqX_lines 2 (some .int) :: gtb
abbrev cqX_begin : ByteArray := prog_1_method_21_code
def yqX_begin : MethodName := ⟨RqX, "begin", "(I)I"⟩
abbrev wsqX_begin : List Cond := Cond.code yqX_begin cqX_begin 2 (some .int) :: gtb
abbrev cqX_cost : ByteArray := prog_1_method_22_code
def yqX_cost : MethodName := ⟨RqX, "cost", "()J"⟩
abbrev wsqX_cost : List Cond := Cond.code yqX_cost cqX_cost 1 (some .long) :: gtb
abbrev cqX_natural : ByteArray := prog_1_method_23_code
def yqX_natural : MethodName := ⟨RqX, "natural", "(II)I"⟩
abbrev wsqX_natural : List Cond := Cond.code yqX_natural cqX_natural 3 (some .int) :: gtb
abbrev cqX_takeInHand : ByteArray := prog_1_method_24_code
def yqX_takeInHand : MethodName := ⟨RqX, "takeInHand", "(III)I"⟩
abbrev wsqX_takeInHand : List Cond := Cond.code yqX_takeInHand cqX_takeInHand 4 (some .int) :: gtb
abbrev cqX_forgetAnswers : ByteArray := prog_1_method_25_code
def yqX_forgetAnswers : MethodName := ⟨RqX, "forgetAnswers", "()V"⟩
abbrev wsqX_forgetAnswers : List Cond := Cond.code yqX_forgetAnswers cqX_forgetAnswers 1 (none) :: gtb
abbrev cqX_isStaff : ByteArray := prog_1_method_26_code
def yqX_isStaff : MethodName := ⟨RqX, "isStaff", "(I)Z"⟩
abbrev wsqX_isStaff : List Cond := Cond.code yqX_isStaff cqX_isStaff 1 (some .boolean) :: gtb
abbrev cqX_isExtent : ByteArray := prog_1_method_27_code
def yqX_isExtent : MethodName := ⟨RqX, "isExtent", "(I)Z"⟩
abbrev wsqX_isExtent : List Cond := Cond.code yqX_isExtent cqX_isExtent 1 (some .boolean) :: gtb
abbrev cqX_isPart : ByteArray := prog_1_method_28_code
def yqX_isPart : MethodName := ⟨RqX, "isPart", "(I)Z"⟩
abbrev wsqX_isPart : List Cond := Cond.code yqX_isPart cqX_isPart 1 (some .boolean) :: gtb
abbrev cqX_within : ByteArray := prog_1_method_29_code
def yqX_within : MethodName := ⟨RqX, "within", "(III)Z"⟩
abbrev wsqX_within : List Cond := Cond.code yqX_within cqX_within 3 (some .boolean) :: gtb
abbrev cqX_sumOf : ByteArray := prog_1_method_30_code
def yqX_sumOf : MethodName := ⟨RqX, "sumOf", "([JII)J"⟩
abbrev wsqX_sumOf : List Cond := Cond.code yqX_sumOf cqX_sumOf 6 (some .long) :: gtb
abbrev cqX_dividedDown : ByteArray := prog_1_method_31_code
def yqX_dividedDown : MethodName := ⟨RqX, "dividedDown", "(JJ)J"⟩
abbrev wsqX_dividedDown : List Cond := Cond.code yqX_dividedDown cqX_dividedDown 4 (some .long) :: gtb
abbrev cqX_dividedUp : ByteArray := prog_1_method_32_code
def yqX_dividedUp : MethodName := ⟨RqX, "dividedUp", "(JJ)J"⟩
abbrev wsqX_dividedUp : List Cond := Cond.code yqX_dividedUp cqX_dividedUp 4 (some .long) :: gtb
abbrev cqX_commonDivisor : ByteArray := prog_1_method_33_code
def yqX_commonDivisor : MethodName := ⟨RqX, "commonDivisor", "(JJ)J"⟩
abbrev wsqX_commonDivisor : List Cond := Cond.code yqX_commonDivisor cqX_commonDivisor 11 (some .long) :: gtb
abbrev cqM_init : ByteArray := prog_10_method_1_code
def yqM_init : MethodName := ⟨RqM, "<init>", "()V"⟩
abbrev wsqM_init : List Cond := Cond.code yqM_init cqM_init 1 (none) :: gtb
abbrev cqM_changed : ByteArray := prog_10_method_2_code
def yqM_changed : MethodName := ⟨RqM, "changed", "()V"⟩
abbrev wsqM_changed : List Cond := Cond.code yqM_changed cqM_changed 1 (none) :: gtb
abbrev cqM_table : ByteArray := prog_10_method_3_code
def yqM_table : MethodName := ⟨RqM, "table", "(II)I"⟩
abbrev wsqM_table : List Cond := Cond.code yqM_table cqM_table 3 (some .int) :: gtb
abbrev cqM_column : ByteArray := prog_10_method_4_code
def yqM_column : MethodName := ⟨RqM, "column", "(I)I"⟩
abbrev wsqM_column : List Cond := Cond.code yqM_column cqM_column 3 (some .int) :: gtb
abbrev cqM_clear : ByteArray := prog_10_method_5_code
def yqM_clear : MethodName := ⟨RqM, "clear", "()I"⟩
abbrev wsqM_clear : List Cond := Cond.code yqM_clear cqM_clear 2 (some .int) :: gtb
abbrev cqM_springOf : ByteArray := prog_10_method_6_code
def yqM_springOf : MethodName := ⟨RqM, "springOf", "(I)J"⟩
abbrev wsqM_springOf : List Cond := Cond.code yqM_springOf cqM_springOf 3 (some .long) :: gtb
abbrev cqM_spring : ByteArray := prog_10_method_7_code
def yqM_spring : MethodName := ⟨RqM, "spring", "(I)J"⟩
abbrev wsqM_spring : List Cond := Cond.code yqM_spring cqM_spring 2 (some .long) :: gtb
abbrev cqM_isColumn : ByteArray := prog_10_method_8_code
def yqM_isColumn : MethodName := ⟨RqM, "isColumn", "(I)Z"⟩
abbrev wsqM_isColumn : List Cond := Cond.code yqM_isColumn cqM_isColumn 2 (some .boolean) :: gtb
abbrev cqM_least : ByteArray := prog_10_method_9_code
def yqM_least : MethodName := ⟨RqM, "least", "(II)I"⟩
abbrev wsqM_least : List Cond := Cond.code yqM_least cqM_least 4 (some .int) :: gtb
abbrev cqM_item : ByteArray := prog_10_method_10_code
def yqM_item : MethodName := ⟨RqM, "item", "(IIII)I"⟩
abbrev wsqM_item : List Cond := Cond.code yqM_item cqM_item 7 (some .int) :: gtb
abbrev cqM_remove : ByteArray := prog_10_method_11_code
def yqM_remove : MethodName := ⟨RqM, "remove", "(II)I"⟩
abbrev wsqM_remove : List Cond := Cond.code yqM_remove cqM_remove 3 (some .int) :: gtb
abbrev cqM_rod : ByteArray := prog_10_method_12_code
def yqM_rod : MethodName := ⟨RqM, "rod", "(III)I"⟩
abbrev wsqM_rod : List Cond := Cond.code yqM_rod cqM_rod 4 (some .int) :: gtb
abbrev cqM_drop : ByteArray := prog_10_method_13_code
def yqM_drop : MethodName := ⟨RqM, "drop", "(I)I"⟩
abbrev wsqM_drop : List Cond := Cond.code yqM_drop cqM_drop 2 (some .int) :: gtb
abbrev cqM_bar : ByteArray := prog_10_method_14_code
def yqM_bar : MethodName := ⟨RqM, "bar", "(IZ)I"⟩
abbrev wsqM_bar : List Cond := Cond.code yqM_bar cqM_bar 4 (some .int) :: gtb
abbrev cqM_sum : ByteArray := prog_10_method_15_code
def yqM_sum : MethodName := ⟨RqM, "sum", "(II)I"⟩
abbrev wsqM_sum : List Cond := Cond.code yqM_sum cqM_sum 5 (some .int) :: gtb
abbrev cqM_hasSpring : ByteArray := prog_10_method_16_code
def yqM_hasSpring : MethodName := ⟨RqM, "hasSpring", "(II)Z"⟩
abbrev wsqM_hasSpring : List Cond := Cond.code yqM_hasSpring cqM_hasSpring 4 (some .boolean) :: gtb
abbrev cqM_findForce : ByteArray := prog_10_method_17_code
def yqM_findForce : MethodName := ⟨RqM, "findForce", "(III)V"⟩
abbrev wsqM_findForce : List Cond := Cond.code yqM_findForce cqM_findForce 11 (none) :: gtb
abbrev cqM_need : ByteArray := prog_10_method_18_code
def yqM_need : MethodName := ⟨RqM, "need", "(IIIII)V"⟩
abbrev wsqM_need : List Cond := Cond.code yqM_need cqM_need 9 (none) :: gtb
abbrev cqM_settle : ByteArray := prog_10_method_19_code
def yqM_settle : MethodName := ⟨RqM, "settle", "(II)V"⟩
abbrev wsqM_settle : List Cond := Cond.code yqM_settle cqM_settle 6 (none) :: gtb
abbrev cqM_run : ByteArray := prog_10_method_20_code
def yqM_run : MethodName := ⟨RqM, "run", "(I)I"⟩
abbrev wsqM_run : List Cond := Cond.code yqM_run cqM_run 2 (some .int) :: gtb
abbrev cqM_line : ByteArray := prog_10_method_21_code
def yqM_line : MethodName := ⟨RqM, "line", "(III)I"⟩
abbrev wsqM_line : List Cond := Cond.code yqM_line cqM_line 4 (some .int) :: gtb
abbrev cqM_made : ByteArray := prog_10_method_22_code
def yqM_made : MethodName := ⟨RqM, "made", "(III)I"⟩
abbrev wsqM_made : List Cond := Cond.code yqM_made cqM_made 6 (some .int) :: gtb
abbrev cqM_common : ByteArray := prog_10_method_23_code
def yqM_common : MethodName := ⟨RqM, "common", "(JJ)J"⟩
abbrev wsqM_common : List Cond := Cond.code yqM_common cqM_common 10 (some .long) :: gtb
abbrev cqM_part : ByteArray := prog_10_method_24_code
def yqM_part : MethodName := ⟨RqM, "part", "(JJI)J"⟩
abbrev wsqM_part : List Cond := Cond.code yqM_part cqM_part 5 (some .long) :: gtb
abbrev cqM_over : ByteArray := prog_10_method_25_code
def yqM_over : MethodName := ⟨RqM, "over", "()I"⟩
abbrev wsqM_over : List Cond := Cond.code yqM_over cqM_over 1 (some .int) :: gtb
abbrev cqM_force : ByteArray := prog_10_method_26_code
def yqM_force : MethodName := ⟨RqM, "force", "(I)J"⟩
abbrev wsqM_force : List Cond := Cond.code yqM_force cqM_force 2 (some .long) :: gtb
abbrev cqM_wide : ByteArray := prog_10_method_27_code
def yqM_wide : MethodName := ⟨RqM, "wide", "(I)J"⟩
abbrev wsqM_wide : List Cond := Cond.code yqM_wide cqM_wide 6 (some .long) :: gtb
abbrev cqM_width : ByteArray := prog_10_method_28_code
def yqM_width : MethodName := ⟨RqM, "width", "(II)J"⟩
abbrev wsqM_width : List Cond := Cond.code yqM_width cqM_width 3 (some .long) :: gtb
abbrev cqM_settled : ByteArray := prog_10_method_29_code
def yqM_settled : MethodName := ⟨RqM, "settled", "(I)I"⟩
abbrev wsqM_settled : List Cond := Cond.code yqM_settled cqM_settled 2 (some .int) :: gtb
abbrev cqM_before : ByteArray := prog_10_method_30_code
def yqM_before : MethodName := ⟨RqM, "before", "(I)J"⟩
abbrev wsqM_before : List Cond := Cond.code yqM_before cqM_before 5 (some .long) :: gtb
abbrev cqM_place : ByteArray := prog_10_method_31_code
def yqM_place : MethodName := ⟨RqM, "place", "(I)I"⟩
abbrev wsqM_place : List Cond := Cond.code yqM_place cqM_place 2 (some .int) :: gtb
abbrev cqM_level : ByteArray := prog_10_method_32_code
def yqM_level : MethodName := ⟨RqM, "level", "(I)I"⟩
abbrev wsqM_level : List Cond := Cond.code yqM_level cqM_level 15 (some .int) :: gtb
abbrev cqM_naturalOf : ByteArray := prog_10_method_33_code
def yqM_naturalOf : MethodName := ⟨RqM, "naturalOf", "(II)I"⟩
abbrev wsqM_naturalOf : List Cond := Cond.code yqM_naturalOf cqM_naturalOf 6 (some .int) :: gtb
abbrev cqM_natural : ByteArray := prog_10_method_34_code
def yqM_natural : MethodName := ⟨RqM, "natural", "(II)I"⟩
abbrev wsqM_natural : List Cond := Cond.code yqM_natural cqM_natural 3 (some .int) :: gtb
abbrev cqM_costOf : ByteArray := prog_10_method_35_code
def yqM_costOf : MethodName := ⟨RqM, "costOf", "(III)J"⟩
abbrev wsqM_costOf : List Cond := Cond.code yqM_costOf cqM_costOf 7 (some .long) :: gtb
abbrev cqM_isBreak : ByteArray := prog_10_method_36_code
def yqM_isBreak : MethodName := ⟨RqM, "isBreak", "(I)Z"⟩
abbrev wsqM_isBreak : List Cond := Cond.code yqM_isBreak cqM_isBreak 2 (some .boolean) :: gtb
abbrev cqM_lines : ByteArray := prog_10_method_37_code
def yqM_lines : MethodName := ⟨RqM, "lines", "(I)I"⟩
abbrev wsqM_lines : List Cond := Cond.code yqM_lines cqM_lines 7 (some .int) :: gtb
abbrev cqM_begin : ByteArray := prog_10_method_38_code
def yqM_begin : MethodName := ⟨RqM, "begin", "(I)I"⟩
abbrev wsqM_begin : List Cond := Cond.code yqM_begin cqM_begin 2 (some .int) :: gtb
abbrev cqM_cost : ByteArray := prog_10_method_39_code
def yqM_cost : MethodName := ⟨RqM, "cost", "()J"⟩
abbrev wsqM_cost : List Cond := Cond.code yqM_cost cqM_cost 1 (some .long) :: gtb
abbrev cqBr_init : ByteArray := prog_2_method_1_code
def yqBr_init : MethodName := ⟨RqBr, "<init>", "()V"⟩
abbrev wsqBr_init : List Cond := Cond.code yqBr_init cqBr_init 1 (none) :: gtb
abbrev cqBr_choose : ByteArray := prog_2_method_2_code
def yqBr_choose : MethodName := ⟨RqBr, "choose", "(LSpringSpaces$Columns;LSpringSpaces$Needs;LSpringSpaces$Line;I)V"⟩
abbrev wsqBr_choose : List Cond := Cond.code yqBr_choose cqBr_choose 7 (none) :: gtb
abbrev cqBr_chooseFrom : ByteArray := prog_2_method_3_code
def yqBr_chooseFrom : MethodName := ⟨RqBr, "chooseFrom", "(ILSpringSpaces$Columns;LSpringSpaces$Needs;LSpringSpaces$Line;I)V"⟩
abbrev wsqBr_chooseFrom : List Cond := Cond.code yqBr_chooseFrom cqBr_chooseFrom 12 (none) :: gtb
abbrev cqBr_costOf : ByteArray := prog_2_method_4_code
def yqBr_costOf : MethodName := ⟨RqBr, "costOf", "(LSpringSpaces$Line;IZ)J"⟩
abbrev wsqBr_costOf : List Cond := Cond.code yqBr_costOf cqBr_costOf 7 (some .long) :: gtb
abbrev cqBr_tellBegins : ByteArray := prog_2_method_5_code
def yqBr_tellBegins : MethodName := ⟨RqBr, "tellBegins", "(I)V"⟩
abbrev wsqBr_tellBegins : List Cond := Cond.code yqBr_tellBegins cqBr_tellBegins 4 (none) :: gtb
abbrev cqBr_size : ByteArray := prog_2_method_6_code
def yqBr_size : MethodName := ⟨RqBr, "size", "()I"⟩
abbrev wsqBr_size : List Cond := Cond.code yqBr_size cqBr_size 1 (some .int) :: gtb
abbrev cqBr_beginOf : ByteArray := prog_2_method_7_code
def yqBr_beginOf : MethodName := ⟨RqBr, "beginOf", "(I)I"⟩
abbrev wsqBr_beginOf : List Cond := Cond.code yqBr_beginOf cqBr_beginOf 2 (some .int) :: gtb
abbrev cqBr_wholeCost : ByteArray := prog_2_method_8_code
def yqBr_wholeCost : MethodName := ⟨RqBr, "wholeCost", "()J"⟩
abbrev wsqBr_wholeCost : List Cond := Cond.code yqBr_wholeCost cqBr_wholeCost 1 (some .long) :: gtb
abbrev cqCo_init : ByteArray := prog_3_method_1_code
def yqCo_init : MethodName := ⟨RqCo, "<init>", "()V"⟩
abbrev wsqCo_init : List Cond := Cond.code yqCo_init cqCo_init 1 (none) :: gtb
abbrev cqCo_useTable : ByteArray := prog_3_method_2_code
def yqCo_useTable : MethodName := ⟨RqCo, "useTable", "(II)V"⟩
abbrev wsqCo_useTable : List Cond := Cond.code yqCo_useTable cqCo_useTable 3 (none) :: gtb
abbrev cqCo_size : ByteArray := prog_3_method_3_code
def yqCo_size : MethodName := ⟨RqCo, "size", "()I"⟩
abbrev wsqCo_size : List Cond := Cond.code yqCo_size cqCo_size 1 (some .int) :: gtb
abbrev cqCo_lastOne : ByteArray := prog_3_method_4_code
def yqCo_lastOne : MethodName := ⟨RqCo, "lastOne", "()I"⟩
abbrev wsqCo_lastOne : List Cond := Cond.code yqCo_lastOne cqCo_lastOne 1 (some .int) :: gtb
abbrev cqCo_areFull : ByteArray := prog_3_method_5_code
def yqCo_areFull : MethodName := ⟨RqCo, "areFull", "()Z"⟩
abbrev wsqCo_areFull : List Cond := Cond.code yqCo_areFull cqCo_areFull 1 (some .boolean) :: gtb
abbrev cqCo_have : ByteArray := prog_3_method_6_code
def yqCo_have : MethodName := ⟨RqCo, "have", "(I)Z"⟩
abbrev wsqCo_have : List Cond := Cond.code yqCo_have cqCo_have 2 (some .boolean) :: gtb
abbrev cqCo_haveGap : ByteArray := prog_3_method_7_code
def yqCo_haveGap : MethodName := ⟨RqCo, "haveGap", "(I)Z"⟩
abbrev wsqCo_haveGap : List Cond := Cond.code yqCo_haveGap cqCo_haveGap 2 (some .boolean) :: gtb
abbrev cqCo_mayFollow : ByteArray := prog_3_method_8_code
def yqCo_mayFollow : MethodName := ⟨RqCo, "mayFollow", "(I)Z"⟩
abbrev wsqCo_mayFollow : List Cond := Cond.code yqCo_mayFollow cqCo_mayFollow 2 (some .boolean) :: gtb
abbrev cqCo_append : ByteArray := prog_3_method_9_code
def yqCo_append : MethodName := ⟨RqCo, "append", "(I)I"⟩
abbrev wsqCo_append : List Cond := Cond.code yqCo_append cqCo_append 3 (some .int) :: gtb
abbrev cqCo_takeAll : ByteArray := prog_3_method_10_code
def yqCo_takeAll : MethodName := ⟨RqCo, "takeAll", "()I"⟩
abbrev wsqCo_takeAll : List Cond := Cond.code yqCo_takeAll cqCo_takeAll 2 (some .int) :: gtb
abbrev cqCo_setLeast : ByteArray := prog_3_method_11_code
def yqCo_setLeast : MethodName := ⟨RqCo, "setLeast", "(II)I"⟩
abbrev wsqCo_setLeast : List Cond := Cond.code yqCo_setLeast cqCo_setLeast 4 (some .int) :: gtb
abbrev cqCo_setBar : ByteArray := prog_3_method_12_code
def yqCo_setBar : MethodName := ⟨RqCo, "setBar", "(IZ)Z"⟩
abbrev wsqCo_setBar : List Cond := Cond.code yqCo_setBar cqCo_setBar 4 (some .boolean) :: gtb
abbrev cqCo_timeOf : ByteArray := prog_3_method_13_code
def yqCo_timeOf : MethodName := ⟨RqCo, "timeOf", "(I)I"⟩
abbrev wsqCo_timeOf : List Cond := Cond.code yqCo_timeOf cqCo_timeOf 2 (some .int) :: gtb
abbrev cqCo_toldLeastOf : ByteArray := prog_3_method_14_code
def yqCo_toldLeastOf : MethodName := ⟨RqCo, "toldLeastOf", "(I)I"⟩
abbrev wsqCo_toldLeastOf : List Cond := Cond.code yqCo_toldLeastOf cqCo_toldLeastOf 2 (some .int) :: gtb
abbrev cqCo_durationOf : ByteArray := prog_3_method_15_code
def yqCo_durationOf : MethodName := ⟨RqCo, "durationOf", "(I)I"⟩
abbrev wsqCo_durationOf : List Cond := Cond.code yqCo_durationOf cqCo_durationOf 2 (some .int) :: gtb
abbrev cqCo_mayBreakAt : ByteArray := prog_3_method_16_code
def yqCo_mayBreakAt : MethodName := ⟨RqCo, "mayBreakAt", "(I)Z"⟩
abbrev wsqCo_mayBreakAt : List Cond := Cond.code yqCo_mayBreakAt cqCo_mayBreakAt 2 (some .boolean) :: gtb
abbrev cqCo_springFor : ByteArray := prog_3_method_17_code
def yqCo_springFor : MethodName := ⟨RqCo, "springFor", "(I)J"⟩
abbrev wsqCo_springFor : List Cond := Cond.code yqCo_springFor cqCo_springFor 7 (some .long) :: gtb
abbrev cqFo_init : ByteArray := prog_4_method_1_code
def yqFo_init : MethodName := ⟨RqFo, "<init>", "()V"⟩
abbrev wsqFo_init : List Cond := Cond.code yqFo_init cqFo_init 1 (none) :: gtb
abbrev cqFo_above : ByteArray := prog_4_method_2_code
def yqFo_above : MethodName := ⟨RqFo, "above", "()J"⟩
abbrev wsqFo_above : List Cond := Cond.code yqFo_above cqFo_above 1 (some .long) :: gtb
abbrev cqFo_below : ByteArray := prog_4_method_3_code
def yqFo_below : MethodName := ⟨RqFo, "below", "()J"⟩
abbrev wsqFo_below : List Cond := Cond.code yqFo_below cqFo_below 1 (some .long) :: gtb
abbrev cqFo_find : ByteArray := prog_4_method_4_code
def yqFo_find : MethodName := ⟨RqFo, "find", "([J[JIIJ)Z"⟩
abbrev wsqFo_find : List Cond := Cond.code yqFo_find cqFo_find 11 (some .boolean) :: gtb
abbrev cqFo_fit : ByteArray := prog_4_method_5_code
def yqFo_fit : MethodName := ⟨RqFo, "fit", "([J[JIIJ)V"⟩
abbrev wsqFo_fit : List Cond := Cond.code yqFo_fit cqFo_fit 12 (none) :: gtb
abbrev cqFo_bringToLowestTerms : ByteArray := prog_4_method_6_code
def yqFo_bringToLowestTerms : MethodName := ⟨RqFo, "bringToLowestTerms", "()V"⟩
abbrev wsqFo_bringToLowestTerms : List Cond := Cond.code yqFo_bringToLowestTerms cqFo_bringToLowestTerms 3 (none) :: gtb
abbrev cqIt_init : ByteArray := prog_5_method_1_code
def yqIt_init : MethodName := ⟨RqIt, "<init>", "()V"⟩
abbrev wsqIt_init : List Cond := Cond.code yqIt_init cqIt_init 1 (none) :: gtb
abbrev cqIt_seat : ByteArray := prog_5_method_2_code
def yqIt_seat : MethodName := ⟨RqIt, "seat", "(II)I"⟩
abbrev wsqIt_seat : List Cond := Cond.code yqIt_seat cqIt_seat 2 (some .int) :: gtb
abbrev cqIt_have : ByteArray := prog_5_method_3_code
def yqIt_have : MethodName := ⟨RqIt, "have", "(II)Z"⟩
abbrev wsqIt_have : List Cond := Cond.code yqIt_have cqIt_have 3 (some .boolean) :: gtb
abbrev cqIt_leftOf : ByteArray := prog_5_method_4_code
def yqIt_leftOf : MethodName := ⟨RqIt, "leftOf", "(II)I"⟩
abbrev wsqIt_leftOf : List Cond := Cond.code yqIt_leftOf cqIt_leftOf 3 (some .int) :: gtb
abbrev cqIt_rightOf : ByteArray := prog_5_method_5_code
def yqIt_rightOf : MethodName := ⟨RqIt, "rightOf", "(II)I"⟩
abbrev wsqIt_rightOf : List Cond := Cond.code yqIt_rightOf cqIt_rightOf 3 (some .int) :: gtb
abbrev cqIt_put : ByteArray := prog_5_method_6_code
def yqIt_put : MethodName := ⟨RqIt, "put", "(IIII)Z"⟩
abbrev wsqIt_put : List Cond := Cond.code yqIt_put cqIt_put 7 (some .boolean) :: gtb
abbrev cqIt_take : ByteArray := prog_5_method_7_code
def yqIt_take : MethodName := ⟨RqIt, "take", "(II)V"⟩
abbrev wsqIt_take : List Cond := Cond.code yqIt_take cqIt_take 3 (none) :: gtb
abbrev cqIt_takeAll : ByteArray := prog_5_method_8_code
def yqIt_takeAll : MethodName := ⟨RqIt, "takeAll", "()V"⟩
abbrev wsqIt_takeAll : List Cond := Cond.code yqIt_takeAll cqIt_takeAll 2 (none) :: gtb
abbrev cqLi_init : ByteArray := prog_6_method_1_code
def yqLi_init : MethodName := ⟨RqLi, "<init>", "()V"⟩
abbrev wsqLi_init : List Cond := Cond.code yqLi_init cqLi_init 1 (none) :: gtb
abbrev cqLi_settle : ByteArray := prog_6_method_2_code
def yqLi_settle : MethodName := ⟨RqLi, "settle", "(LSpringSpaces$Columns;LSpringSpaces$Needs;II)V"⟩
abbrev wsqLi_settle : List Cond := Cond.code yqLi_settle cqLi_settle 6 (none) :: gtb
abbrev cqLi_meet : ByteArray := prog_6_method_3_code
def yqLi_meet : MethodName := ⟨RqLi, "meet", "(IIJ)V"⟩
abbrev wsqLi_meet : List Cond := Cond.code yqLi_meet cqLi_meet 10 (none) :: gtb
abbrev cqLi_stretch : ByteArray := prog_6_method_4_code
def yqLi_stretch : MethodName := ⟨RqLi, "stretch", "(I)I"⟩
abbrev wsqLi_stretch : List Cond := Cond.code yqLi_stretch cqLi_stretch 3 (some .int) :: gtb
abbrev cqLi_sumOfLeasts : ByteArray := prog_6_method_5_code
def yqLi_sumOfLeasts : MethodName := ⟨RqLi, "sumOfLeasts", "()J"⟩
abbrev wsqLi_sumOfLeasts : List Cond := Cond.code yqLi_sumOfLeasts cqLi_sumOfLeasts 1 (some .long) :: gtb
abbrev cqLi_naturalWidth : ByteArray := prog_6_method_6_code
def yqLi_naturalWidth : MethodName := ⟨RqLi, "naturalWidth", "()J"⟩
abbrev wsqLi_naturalWidth : List Cond := Cond.code yqLi_naturalWidth cqLi_naturalWidth 4 (some .long) :: gtb
abbrev cqLi_hasGap : ByteArray := prog_6_method_7_code
def yqLi_hasGap : MethodName := ⟨RqLi, "hasGap", "(I)Z"⟩
abbrev wsqLi_hasGap : List Cond := Cond.code yqLi_hasGap cqLi_hasGap 2 (some .boolean) :: gtb
abbrev cqLi_hasColumn : ByteArray := prog_6_method_8_code
def yqLi_hasColumn : MethodName := ⟨RqLi, "hasColumn", "(I)Z"⟩
abbrev wsqLi_hasColumn : List Cond := Cond.code yqLi_hasColumn cqLi_hasColumn 2 (some .boolean) :: gtb
abbrev cqLi_spans : ByteArray := prog_6_method_9_code
def yqLi_spans : MethodName := ⟨RqLi, "spans", "(LSpringSpaces$Columns;I)Z"⟩
abbrev wsqLi_spans : List Cond := Cond.code yqLi_spans cqLi_spans 3 (some .boolean) :: gtb
abbrev cqLi_excess : ByteArray := prog_6_method_10_code
def yqLi_excess : MethodName := ⟨RqLi, "excess", "()I"⟩
abbrev wsqLi_excess : List Cond := Cond.code yqLi_excess cqLi_excess 1 (some .int) :: gtb
abbrev cqLi_leastOf : ByteArray := prog_6_method_11_code
def yqLi_leastOf : MethodName := ⟨RqLi, "leastOf", "(I)I"⟩
abbrev wsqLi_leastOf : List Cond := Cond.code yqLi_leastOf cqLi_leastOf 2 (some .int) :: gtb
abbrev cqLi_forcePart : ByteArray := prog_6_method_12_code
def yqLi_forcePart : MethodName := ⟨RqLi, "forcePart", "(I)J"⟩
abbrev wsqLi_forcePart : List Cond := Cond.code yqLi_forcePart cqLi_forcePart 2 (some .long) :: gtb
abbrev cqLi_widthPart : ByteArray := prog_6_method_13_code
def yqLi_widthPart : MethodName := ⟨RqLi, "widthPart", "(II)J"⟩
abbrev wsqLi_widthPart : List Cond := Cond.code yqLi_widthPart cqLi_widthPart 7 (some .long) :: gtb
abbrev cqLi_placeOf : ByteArray := prog_6_method_14_code
def yqLi_placeOf : MethodName := ⟨RqLi, "placeOf", "(I)I"⟩
abbrev wsqLi_placeOf : List Cond := Cond.code yqLi_placeOf cqLi_placeOf 2 (some .int) :: gtb
abbrev cqLi_placeAt : ByteArray := prog_6_method_15_code
def yqLi_placeAt : MethodName := ⟨RqLi, "placeAt", "(LSpringSpaces$Columns;I)I"⟩
abbrev wsqLi_placeAt : List Cond := Cond.code yqLi_placeAt cqLi_placeAt 10 (some .int) :: gtb
abbrev cqLi_widthAbove : ByteArray := prog_6_method_16_code
def yqLi_widthAbove : MethodName := ⟨RqLi, "widthAbove", "(I)J"⟩
abbrev wsqLi_widthAbove : List Cond := Cond.code yqLi_widthAbove cqLi_widthAbove 2 (some .long) :: gtb
abbrev cqLi_widthsAboveBefore : ByteArray := prog_6_method_17_code
def yqLi_widthsAboveBefore : MethodName := ⟨RqLi, "widthsAboveBefore", "(I)J"⟩
abbrev wsqLi_widthsAboveBefore : List Cond := Cond.code yqLi_widthsAboveBefore cqLi_widthsAboveBefore 5 (some .long) :: gtb
abbrev cqNe_init : ByteArray := prog_7_method_1_code
def yqNe_init : MethodName := ⟨RqNe, "<init>", "()V"⟩
abbrev wsqNe_init : List Cond := Cond.code yqNe_init cqNe_init 1 (none) :: gtb
abbrev cqNe_gather : ByteArray := prog_7_method_2_code
def yqNe_gather : MethodName := ⟨RqNe, "gather", "(LSpringSpaces$Items;LSpringSpaces$Rods;I)V"⟩
abbrev wsqNe_gather : List Cond := Cond.code yqNe_gather cqNe_gather 5 (none) :: gtb
abbrev cqNe_gatherStaff : ByteArray := prog_7_method_3_code
def yqNe_gatherStaff : MethodName := ⟨RqNe, "gatherStaff", "(LSpringSpaces$Items;II)V"⟩
abbrev wsqNe_gatherStaff : List Cond := Cond.code yqNe_gatherStaff cqNe_gatherStaff 7 (none) :: gtb
abbrev cqNe_note : ByteArray := prog_7_method_4_code
def yqNe_note : MethodName := ⟨RqNe, "note", "(III)V"⟩
abbrev wsqNe_note : List Cond := Cond.code yqNe_note cqNe_note 4 (none) :: gtb
abbrev cqNe_size : ByteArray := prog_7_method_5_code
def yqNe_size : MethodName := ⟨RqNe, "size", "()I"⟩
abbrev wsqNe_size : List Cond := Cond.code yqNe_size cqNe_size 1 (some .int) :: gtb
abbrev cqNe_fromOf : ByteArray := prog_7_method_6_code
def yqNe_fromOf : MethodName := ⟨RqNe, "fromOf", "(I)I"⟩
abbrev wsqNe_fromOf : List Cond := Cond.code yqNe_fromOf cqNe_fromOf 2 (some .int) :: gtb
abbrev cqNe_toOf : ByteArray := prog_7_method_7_code
def yqNe_toOf : MethodName := ⟨RqNe, "toOf", "(I)I"⟩
abbrev wsqNe_toOf : List Cond := Cond.code yqNe_toOf cqNe_toOf 2 (some .int) :: gtb
abbrev cqNe_widthOf : ByteArray := prog_7_method_8_code
def yqNe_widthOf : MethodName := ⟨RqNe, "widthOf", "(I)I"⟩
abbrev wsqNe_widthOf : List Cond := Cond.code yqNe_widthOf cqNe_widthOf 2 (some .int) :: gtb
abbrev cqRo_init : ByteArray := prog_8_method_1_code
def yqRo_init : MethodName := ⟨RqRo, "<init>", "()V"⟩
abbrev wsqRo_init : List Cond := Cond.code yqRo_init cqRo_init 1 (none) :: gtb
abbrev cqRo_areUsedUp : ByteArray := prog_8_method_2_code
def yqRo_areUsedUp : MethodName := ⟨RqRo, "areUsedUp", "()Z"⟩
abbrev wsqRo_areUsedUp : List Cond := Cond.code yqRo_areUsedUp cqRo_areUsedUp 1 (some .boolean) :: gtb
abbrev cqRo_numbersGiven : ByteArray := prog_8_method_3_code
def yqRo_numbersGiven : MethodName := ⟨RqRo, "numbersGiven", "()I"⟩
abbrev wsqRo_numbersGiven : List Cond := Cond.code yqRo_numbersGiven cqRo_numbersGiven 1 (some .int) :: gtb
abbrev cqRo_have : ByteArray := prog_8_method_4_code
def yqRo_have : MethodName := ⟨RqRo, "have", "(I)Z"⟩
abbrev wsqRo_have : List Cond := Cond.code yqRo_have cqRo_have 2 (some .boolean) :: gtb
abbrev cqRo_put : ByteArray := prog_8_method_5_code
def yqRo_put : MethodName := ⟨RqRo, "put", "(III)I"⟩
abbrev wsqRo_put : List Cond := Cond.code yqRo_put cqRo_put 5 (some .int) :: gtb
abbrev cqRo_take : ByteArray := prog_8_method_6_code
def yqRo_take : MethodName := ⟨RqRo, "take", "(I)I"⟩
abbrev wsqRo_take : List Cond := Cond.code yqRo_take cqRo_take 2 (some .int) :: gtb
abbrev cqRo_takeAll : ByteArray := prog_8_method_7_code
def yqRo_takeAll : MethodName := ⟨RqRo, "takeAll", "()V"⟩
abbrev wsqRo_takeAll : List Cond := Cond.code yqRo_takeAll cqRo_takeAll 2 (none) :: gtb
abbrev cqRo_fromOf : ByteArray := prog_8_method_8_code
def yqRo_fromOf : MethodName := ⟨RqRo, "fromOf", "(I)I"⟩
abbrev wsqRo_fromOf : List Cond := Cond.code yqRo_fromOf cqRo_fromOf 2 (some .int) :: gtb
abbrev cqRo_toOf : ByteArray := prog_8_method_9_code
def yqRo_toOf : MethodName := ⟨RqRo, "toOf", "(I)I"⟩
abbrev wsqRo_toOf : List Cond := Cond.code yqRo_toOf cqRo_toOf 2 (some .int) :: gtb
abbrev cqRo_widthOf : ByteArray := prog_8_method_10_code
def yqRo_widthOf : MethodName := ⟨RqRo, "widthOf", "(I)I"⟩
abbrev wsqRo_widthOf : List Cond := Cond.code yqRo_widthOf cqRo_widthOf 2 (some .int) :: gtb
abbrev cqL_law : ByteArray := code
def yqL_law : MethodName := ⟨RqL, "law", "([I)Z"⟩
abbrev cqJ_floorDiv : ByteArray := prog_11_method_49_code
def yqJ_floorDiv : MethodName := ⟨RqJ, "floorDiv", "(JJ)J"⟩
abbrev wsqJ_floorDiv : List Cond := Cond.code yqJ_floorDiv cqJ_floorDiv 6 (some .long) :: gtb
abbrev vwCl : List vw_C := [(RqX, TqX, 9), (RqCo, TqCo, 6), (RqIt, TqIt, 3), (RqRo, TqRo, 6), (RqNe, TqNe, 4), (RqFo, TqFo, 2), (RqLi, TqLi, 6), (RqBr, TqBr, 5), (RqM, TqM, 34)]
