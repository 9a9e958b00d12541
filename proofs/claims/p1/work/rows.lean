section
-- ===== PART A: goes FIRST, ahead of the names: the tables' words, and 'selects' of the private methods out of them =====
/-- a private method of a class that the tables say can be made, by its rows of tables_1 -/
def lw_okq (q : MethodName × Nat) : Prop := (q.1.cls ≠ "java/lang/invoke/MethodHandle" ∧ q.1.cls ≠ "java/lang/invoke/VarHandle") ∧ Cond.instantiable q.1.cls q.2 ∈ tables_1 ∧ Cond.privateMethod q.1 ∈ tables_1 ∧ Cond.instanceMethod q.1 ∈ tables_1
theorem lw_p0 : lw_okq (⟨"SpringSpaces", "forgetAnswers", "()V"⟩, 9) := ⟨⟨by decide +kernel, by decide +kernel⟩, List.mem_of_getElem? (i := 12) (by decide +kernel), List.mem_of_getElem? (i := 203) (by decide +kernel), List.mem_of_getElem? (i := 204) (by decide +kernel)⟩
theorem lw_p1 : lw_okq (⟨"SpringSpaces", "takeInHand", "(III)I"⟩, 9) := ⟨⟨by decide +kernel, by decide +kernel⟩, List.mem_of_getElem? (i := 12) (by decide +kernel), List.mem_of_getElem? (i := 341) (by decide +kernel), List.mem_of_getElem? (i := 342) (by decide +kernel)⟩
theorem lw_p2 : lw_okq (⟨"SpringSpaces$Needs", "gatherStaff", "(LSpringSpaces$Items;II)V"⟩, 4) := ⟨⟨by decide +kernel, by decide +kernel⟩, List.mem_of_getElem? (i := 88) (by decide +kernel), List.mem_of_getElem? (i := 353) (by decide +kernel), List.mem_of_getElem? (i := 354) (by decide +kernel)⟩
theorem lw_p3 : lw_okq (⟨"SpringSpaces$Needs", "note", "(III)V"⟩, 4) := ⟨⟨by decide +kernel, by decide +kernel⟩, List.mem_of_getElem? (i := 88) (by decide +kernel), List.mem_of_getElem? (i := 366) (by decide +kernel), List.mem_of_getElem? (i := 367) (by decide +kernel)⟩
theorem lw_p4 : lw_okq (⟨"SpringSpaces$Line", "meet", "(IIJ)V"⟩, 6) := ⟨⟨by decide +kernel, by decide +kernel⟩, List.mem_of_getElem? (i := 107) (by decide +kernel), List.mem_of_getElem? (i := 416) (by decide +kernel), List.mem_of_getElem? (i := 417) (by decide +kernel)⟩
theorem lw_p5 : lw_okq (⟨"SpringSpaces$Force", "fit", "([J[JIIJ)V"⟩, 2) := ⟨⟨by decide +kernel, by decide +kernel⟩, List.mem_of_getElem? (i := 113) (by decide +kernel), List.mem_of_getElem? (i := 428) (by decide +kernel), List.mem_of_getElem? (i := 429) (by decide +kernel)⟩
theorem lw_p6 : lw_okq (⟨"SpringSpaces$Line", "widthAbove", "(I)J"⟩, 6) := ⟨⟨by decide +kernel, by decide +kernel⟩, List.mem_of_getElem? (i := 107) (by decide +kernel), List.mem_of_getElem? (i := 506) (by decide +kernel), List.mem_of_getElem? (i := 507) (by decide +kernel)⟩
theorem lw_p7 : lw_okq (⟨"SpringSpaces$Line", "widthsAboveBefore", "(I)J"⟩, 6) := ⟨⟨by decide +kernel, by decide +kernel⟩, List.mem_of_getElem? (i := 107) (by decide +kernel), List.mem_of_getElem? (i := 531) (by decide +kernel), List.mem_of_getElem? (i := 532) (by decide +kernel)⟩
theorem lw_p8 : lw_okq (⟨"SpringSpaces$Breaks", "chooseFrom", "(ILSpringSpaces$Columns;LSpringSpaces$Needs;LSpringSpaces$Line;I)V"⟩, 5) := ⟨⟨by decide +kernel, by decide +kernel⟩, List.mem_of_getElem? (i := 146) (by decide +kernel), List.mem_of_getElem? (i := 565) (by decide +kernel), List.mem_of_getElem? (i := 566) (by decide +kernel)⟩
theorem lw_p9 : lw_okq (⟨"SpringSpaces$Breaks", "tellBegins", "(I)V"⟩, 5) := ⟨⟨by decide +kernel, by decide +kernel⟩, List.mem_of_getElem? (i := 146) (by decide +kernel), List.mem_of_getElem? (i := 580) (by decide +kernel), List.mem_of_getElem? (i := 581) (by decide +kernel)⟩
theorem lw_p10 : lw_okq (⟨"SpringSpacesModel", "changed", "()V"⟩, 34) := ⟨⟨by decide +kernel, by decide +kernel⟩, List.mem_of_getElem? (i := 609) (by decide +kernel), List.mem_of_getElem? (i := 722) (by decide +kernel), List.mem_of_getElem? (i := 723) (by decide +kernel)⟩
theorem lw_p11 : lw_okq (⟨"SpringSpacesModel", "springOf", "(I)J"⟩, 34) := ⟨⟨by decide +kernel, by decide +kernel⟩, List.mem_of_getElem? (i := 609) (by decide +kernel), List.mem_of_getElem? (i := 740) (by decide +kernel), List.mem_of_getElem? (i := 741) (by decide +kernel)⟩
theorem lw_p12 : lw_okq (⟨"SpringSpacesModel", "isColumn", "(I)Z"⟩, 34) := ⟨⟨by decide +kernel, by decide +kernel⟩, List.mem_of_getElem? (i := 609) (by decide +kernel), List.mem_of_getElem? (i := 754) (by decide +kernel), List.mem_of_getElem? (i := 755) (by decide +kernel)⟩
theorem lw_p13 : lw_okq (⟨"SpringSpacesModel", "made", "(III)I"⟩, 34) := ⟨⟨by decide +kernel, by decide +kernel⟩, List.mem_of_getElem? (i := 609) (by decide +kernel), List.mem_of_getElem? (i := 778) (by decide +kernel), List.mem_of_getElem? (i := 779) (by decide +kernel)⟩
theorem lw_p14 : lw_okq (⟨"SpringSpacesModel", "settle", "(II)V"⟩, 34) := ⟨⟨by decide +kernel, by decide +kernel⟩, List.mem_of_getElem? (i := 609) (by decide +kernel), List.mem_of_getElem? (i := 782) (by decide +kernel), List.mem_of_getElem? (i := 783) (by decide +kernel)⟩
theorem lw_p15 : lw_okq (⟨"SpringSpacesModel", "need", "(IIIII)V"⟩, 34) := ⟨⟨by decide +kernel, by decide +kernel⟩, List.mem_of_getElem? (i := 609) (by decide +kernel), List.mem_of_getElem? (i := 786) (by decide +kernel), List.mem_of_getElem? (i := 787) (by decide +kernel)⟩
def lw_privs_1 : List (MethodName × Nat) := [(⟨"SpringSpaces", "forgetAnswers", "()V"⟩, 9), (⟨"SpringSpaces", "takeInHand", "(III)I"⟩, 9), (⟨"SpringSpaces$Needs", "gatherStaff", "(LSpringSpaces$Items;II)V"⟩, 4), (⟨"SpringSpaces$Needs", "note", "(III)V"⟩, 4), (⟨"SpringSpaces$Line", "meet", "(IIJ)V"⟩, 6), (⟨"SpringSpaces$Force", "fit", "([J[JIIJ)V"⟩, 2), (⟨"SpringSpaces$Line", "widthAbove", "(I)J"⟩, 6), (⟨"SpringSpaces$Line", "widthsAboveBefore", "(I)J"⟩, 6), (⟨"SpringSpaces$Breaks", "chooseFrom", "(ILSpringSpaces$Columns;LSpringSpaces$Needs;LSpringSpaces$Line;I)V"⟩, 5), (⟨"SpringSpaces$Breaks", "tellBegins", "(I)V"⟩, 5), (⟨"SpringSpacesModel", "changed", "()V"⟩, 34), (⟨"SpringSpacesModel", "springOf", "(I)J"⟩, 34), (⟨"SpringSpacesModel", "isColumn", "(I)Z"⟩, 34), (⟨"SpringSpacesModel", "made", "(III)I"⟩, 34), (⟨"SpringSpacesModel", "settle", "(II)V"⟩, 34), (⟨"SpringSpacesModel", "need", "(IIIII)V"⟩, 34)]
theorem lw_r1 : ∀ q ∈ lw_privs_1, lw_okq q := List.forall_mem_cons.mpr ⟨lw_p0, List.forall_mem_cons.mpr ⟨lw_p1, List.forall_mem_cons.mpr ⟨lw_p2, List.forall_mem_cons.mpr ⟨lw_p3, List.forall_mem_cons.mpr ⟨lw_p4, List.forall_mem_cons.mpr ⟨lw_p5, List.forall_mem_cons.mpr ⟨lw_p6, List.forall_mem_cons.mpr ⟨lw_p7, List.forall_mem_cons.mpr ⟨lw_p8, List.forall_mem_cons.mpr ⟨lw_p9, List.forall_mem_cons.mpr ⟨lw_p10, List.forall_mem_cons.mpr ⟨lw_p11, List.forall_mem_cons.mpr ⟨lw_p12, List.forall_mem_cons.mpr ⟨lw_p13, List.forall_mem_cons.mpr ⟨lw_p14, List.forall_mem_cons.mpr ⟨lw_p15, fun _ h => absurd h List.not_mem_nil⟩⟩⟩⟩⟩⟩⟩⟩⟩⟩⟩⟩⟩⟩⟩⟩
theorem lw_p16 : lw_okq (⟨"SpringSpacesModel", "sum", "(II)I"⟩, 34) := ⟨⟨by decide +kernel, by decide +kernel⟩, List.mem_of_getElem? (i := 609) (by decide +kernel), List.mem_of_getElem? (i := 790) (by decide +kernel), List.mem_of_getElem? (i := 791) (by decide +kernel)⟩
theorem lw_p17 : lw_okq (⟨"SpringSpacesModel", "hasSpring", "(II)Z"⟩, 34) := ⟨⟨by decide +kernel, by decide +kernel⟩, List.mem_of_getElem? (i := 609) (by decide +kernel), List.mem_of_getElem? (i := 794) (by decide +kernel), List.mem_of_getElem? (i := 795) (by decide +kernel)⟩
theorem lw_p18 : lw_okq (⟨"SpringSpacesModel", "findForce", "(III)V"⟩, 34) := ⟨⟨by decide +kernel, by decide +kernel⟩, List.mem_of_getElem? (i := 609) (by decide +kernel), List.mem_of_getElem? (i := 798) (by decide +kernel), List.mem_of_getElem? (i := 799) (by decide +kernel)⟩
theorem lw_p19 : lw_okq (⟨"SpringSpacesModel", "wide", "(I)J"⟩, 34) := ⟨⟨by decide +kernel, by decide +kernel⟩, List.mem_of_getElem? (i := 609) (by decide +kernel), List.mem_of_getElem? (i := 826) (by decide +kernel), List.mem_of_getElem? (i := 827) (by decide +kernel)⟩
theorem lw_p20 : lw_okq (⟨"SpringSpacesModel", "before", "(I)J"⟩, 34) := ⟨⟨by decide +kernel, by decide +kernel⟩, List.mem_of_getElem? (i := 609) (by decide +kernel), List.mem_of_getElem? (i := 838) (by decide +kernel), List.mem_of_getElem? (i := 839) (by decide +kernel)⟩
theorem lw_p21 : lw_okq (⟨"SpringSpacesModel", "naturalOf", "(II)I"⟩, 34) := ⟨⟨by decide +kernel, by decide +kernel⟩, List.mem_of_getElem? (i := 609) (by decide +kernel), List.mem_of_getElem? (i := 850) (by decide +kernel), List.mem_of_getElem? (i := 851) (by decide +kernel)⟩
theorem lw_p22 : lw_okq (⟨"SpringSpacesModel", "isBreak", "(I)Z"⟩, 34) := ⟨⟨by decide +kernel, by decide +kernel⟩, List.mem_of_getElem? (i := 609) (by decide +kernel), List.mem_of_getElem? (i := 858) (by decide +kernel), List.mem_of_getElem? (i := 859) (by decide +kernel)⟩
theorem lw_p23 : lw_okq (⟨"SpringSpacesModel", "costOf", "(III)J"⟩, 34) := ⟨⟨by decide +kernel, by decide +kernel⟩, List.mem_of_getElem? (i := 609) (by decide +kernel), List.mem_of_getElem? (i := 862) (by decide +kernel), List.mem_of_getElem? (i := 863) (by decide +kernel)⟩
def lw_privs_2 : List (MethodName × Nat) := [(⟨"SpringSpacesModel", "sum", "(II)I"⟩, 34), (⟨"SpringSpacesModel", "hasSpring", "(II)Z"⟩, 34), (⟨"SpringSpacesModel", "findForce", "(III)V"⟩, 34), (⟨"SpringSpacesModel", "wide", "(I)J"⟩, 34), (⟨"SpringSpacesModel", "before", "(I)J"⟩, 34), (⟨"SpringSpacesModel", "naturalOf", "(II)I"⟩, 34), (⟨"SpringSpacesModel", "isBreak", "(I)Z"⟩, 34), (⟨"SpringSpacesModel", "costOf", "(III)J"⟩, 34)]
theorem lw_r2 : ∀ q ∈ lw_privs_2, lw_okq q := List.forall_mem_cons.mpr ⟨lw_p16, List.forall_mem_cons.mpr ⟨lw_p17, List.forall_mem_cons.mpr ⟨lw_p18, List.forall_mem_cons.mpr ⟨lw_p19, List.forall_mem_cons.mpr ⟨lw_p20, List.forall_mem_cons.mpr ⟨lw_p21, List.forall_mem_cons.mpr ⟨lw_p22, List.forall_mem_cons.mpr ⟨lw_p23, fun _ h => absurd h List.not_mem_nil⟩⟩⟩⟩⟩⟩⟩⟩
def lw_privs : List (MethodName × Nat) := lw_privs_1 ++ (lw_privs_2)
def lw_tbl : List Cond := k2_sels lw_privs ++ tables_1
theorem lw_privs_ok : ∀ q ∈ lw_privs, lw_okq q := by
  show ∀ q ∈ lw_privs_1 ++ (lw_privs_2), lw_okq q
  exact List.forall_mem_append.mpr ⟨lw_r1, lw_r2⟩

def gtb : List Cond := lw_tbl.filter goodWord
theorem in_c {c : Cond} {L : List Cond} (h : ∀ w ∈ L, w ∈ gtb) : ∀ w ∈ L, w ∈ c :: gtb := fun w q => List.mem_cons_of_mem _ (h w q)
theorem gd_ {w : Cond} (h : w ∈ gtb) : (w.onTables && w.keeps) = true ∨ ∃ ty, w = .arrayClass ty := good_of_word (List.mem_filter.mp h).2
theorem gi_0 {c c1 : Cond} (h : c1 ∈ gtb) : GoodIn (c :: gtb) (c1 :: gtb) := fun w q => (List.mem_cons.mp q).elim (fun e => e ▸ ⟨List.mem_cons_of_mem _ h, gd_ h⟩) (fun q => ⟨List.mem_cons_of_mem _ q, gd_ q⟩)
theorem gi_L {c : Cond} {ws : List Cond} (h : ∀ w ∈ ws, w ∈ gtb) : GoodIn (c :: gtb) ws := fun w q => ⟨List.mem_cons_of_mem _ (h w q), gd_ (h w q)⟩
theorem gi_V {c c1 : Cond} {own C : String} {idx : Nat} {y : MethodName} (h1 : Cond.methodLink own idx y ∈ gtb) (h2 : Cond.instanceMethod y ∈ gtb) (h3 : Cond.selects C y y ∈ gtb) (h4 : Cond.initialized C ∈ gtb) (h5 : c1 ∈ gtb) : GoodIn (c :: gtb) (wsV own idx C y (c1 :: gtb)) := by
  refine gi_L ?_
  unfold wsV
  intro w h
  simp only [List.cons_append, List.nil_append, List.mem_cons] at h
  rcases h with rfl | rfl | rfl | rfl | rfl | h <;> assumption
theorem gi_S {c c1 : Cond} {own : String} {idx : Nat} {y : MethodName} (h1 : Cond.methodLink own idx y ∈ gtb) (h2 : Cond.static y ∈ gtb) (h3 : Cond.initialized y.cls ∈ gtb) (h5 : c1 ∈ gtb) : GoodIn (c :: gtb) (va_wsS own idx y (c1 :: gtb)) := by
  refine gi_L ?_
  unfold va_wsS
  intro w h
  simp only [List.cons_append, List.nil_append, List.mem_cons] at h
  rcases h with rfl | rfl | rfl | rfl | h <;> assumption
def RqX : String := "SpringSpaces"
def TqX : u_T := fun k => match k with
  | 0 => ("SpringSpaces", "columns", "LSpringSpaces$Columns;", true)
  | 1 => ("SpringSpaces", "items", "LSpringSpaces$Items;", true)
  | 2 => ("SpringSpaces", "rods", "LSpringSpaces$Rods;", true)
  | 3 => ("SpringSpaces", "needs", "LSpringSpaces$Needs;", true)
  | 4 => ("SpringSpaces", "hand", "LSpringSpaces$Line;", true)
  | 5 => ("SpringSpaces", "trial", "LSpringSpaces$Line;", true)
  | 6 => ("SpringSpaces", "breaks", "LSpringSpaces$Breaks;", true)
  | 7 => ("SpringSpaces", "atHand", "Z", false)
  | _ => ("SpringSpaces", "broken", "Z", false)
def tyqX : Nat → FieldType := fun k => match k with
  | 0 => .object "SpringSpaces$Columns"
  | 1 => .object "SpringSpaces$Items"
  | 2 => .object "SpringSpaces$Rods"
  | 3 => .object "SpringSpaces$Needs"
  | 4 => .object "SpringSpaces$Line"
  | 5 => .object "SpringSpaces$Line"
  | 6 => .object "SpringSpaces$Breaks"
  | 7 => .boolean
  | _ => .boolean
theorem nmqX : ∀ a, a < 9 → ∀ b, b < 9 → a ≠ b → (TqX a).2.1 ≠ (TqX b).2.1 := by decide +kernel
theorem tyqX_ok : ∀ k, k < 9 → parseFieldDescriptor (TqX k).2.2.1 = some (tyqX k) := by decide +kernel
set_option maxRecDepth 20000 in
theorem inqX : ∀ w ∈ u_ws RqX TqX 9, w ∈ gtb := by
  have h : ∀ w ∈ u_ws RqX TqX 9, w ∈ lw_tbl ∧ goodWord w = true := by decide +kernel
  exact fun w q => List.mem_filter.mpr (h w q)
def RqCo : String := "SpringSpaces$Columns"
def TqCo : u_T := fun k => match k with
  | 0 => ("SpringSpaces$Columns", "times", "[I", true)
  | 1 => ("SpringSpaces$Columns", "leasts", "[I", true)
  | 2 => ("SpringSpaces$Columns", "bars", "[Z", true)
  | 3 => ("SpringSpaces$Columns", "count", "I", false)
  | 4 => ("SpringSpaces$Columns", "base", "I", false)
  | _ => ("SpringSpaces$Columns", "more", "I", false)
def tyqCo : Nat → FieldType := fun k => match k with
  | 0 => .array .int
  | 1 => .array .int
  | 2 => .array .boolean
  | 3 => .int
  | 4 => .int
  | _ => .int
theorem nmqCo : ∀ a, a < 6 → ∀ b, b < 6 → a ≠ b → (TqCo a).2.1 ≠ (TqCo b).2.1 := by decide +kernel
theorem tyqCo_ok : ∀ k, k < 6 → parseFieldDescriptor (TqCo k).2.2.1 = some (tyqCo k) := by decide +kernel
set_option maxRecDepth 20000 in
theorem inqCo : ∀ w ∈ u_ws RqCo TqCo 6, w ∈ gtb := by
  have h : ∀ w ∈ u_ws RqCo TqCo 6, w ∈ lw_tbl ∧ goodWord w = true := by decide +kernel
  exact fun w q => List.mem_filter.mpr (h w q)
def RqIt : String := "SpringSpaces$Items"
def TqIt : u_T := fun k => match k with
  | 0 => ("SpringSpaces$Items", "there", "[Z", true)
  | 1 => ("SpringSpaces$Items", "lefts", "[I", true)
  | _ => ("SpringSpaces$Items", "rights", "[I", true)
def tyqIt : Nat → FieldType := fun k => match k with
  | 0 => .array .boolean
  | 1 => .array .int
  | _ => .array .int
theorem nmqIt : ∀ a, a < 3 → ∀ b, b < 3 → a ≠ b → (TqIt a).2.1 ≠ (TqIt b).2.1 := by decide +kernel
theorem tyqIt_ok : ∀ k, k < 3 → parseFieldDescriptor (TqIt k).2.2.1 = some (tyqIt k) := by decide +kernel
set_option maxRecDepth 20000 in
theorem inqIt : ∀ w ∈ u_ws RqIt TqIt 3, w ∈ gtb := by
  have h : ∀ w ∈ u_ws RqIt TqIt 3, w ∈ lw_tbl ∧ goodWord w = true := by decide +kernel
  exact fun w q => List.mem_filter.mpr (h w q)
def RqRo : String := "SpringSpaces$Rods"
def TqRo : u_T := fun k => match k with
  | 0 => ("SpringSpaces$Rods", "there", "[Z", true)
  | 1 => ("SpringSpaces$Rods", "froms", "[I", true)
  | 2 => ("SpringSpaces$Rods", "tos", "[I", true)
  | 3 => ("SpringSpaces$Rods", "widths", "[I", true)
  | 4 => ("SpringSpaces$Rods", "numbers", "I", false)
  | _ => ("SpringSpaces$Rods", "count", "I", false)
def tyqRo : Nat → FieldType := fun k => match k with
  | 0 => .array .boolean
  | 1 => .array .int
  | 2 => .array .int
  | 3 => .array .int
  | 4 => .int
  | _ => .int
theorem nmqRo : ∀ a, a < 6 → ∀ b, b < 6 → a ≠ b → (TqRo a).2.1 ≠ (TqRo b).2.1 := by decide +kernel
theorem tyqRo_ok : ∀ k, k < 6 → parseFieldDescriptor (TqRo k).2.2.1 = some (tyqRo k) := by decide +kernel
set_option maxRecDepth 20000 in
theorem inqRo : ∀ w ∈ u_ws RqRo TqRo 6, w ∈ gtb := by
  have h : ∀ w ∈ u_ws RqRo TqRo 6, w ∈ lw_tbl ∧ goodWord w = true := by decide +kernel
  exact fun w q => List.mem_filter.mpr (h w q)
def RqNe : String := "SpringSpaces$Needs"
def TqNe : u_T := fun k => match k with
  | 0 => ("SpringSpaces$Needs", "froms", "[I", true)
  | 1 => ("SpringSpaces$Needs", "tos", "[I", true)
  | 2 => ("SpringSpaces$Needs", "widths", "[I", true)
  | _ => ("SpringSpaces$Needs", "count", "I", false)
def tyqNe : Nat → FieldType := fun k => match k with
  | 0 => .array .int
  | 1 => .array .int
  | 2 => .array .int
  | _ => .int
theorem nmqNe : ∀ a, a < 4 → ∀ b, b < 4 → a ≠ b → (TqNe a).2.1 ≠ (TqNe b).2.1 := by decide +kernel
theorem tyqNe_ok : ∀ k, k < 4 → parseFieldDescriptor (TqNe k).2.2.1 = some (tyqNe k) := by decide +kernel
set_option maxRecDepth 20000 in
theorem inqNe : ∀ w ∈ u_ws RqNe TqNe 4, w ∈ gtb := by
  have h : ∀ w ∈ u_ws RqNe TqNe 4, w ∈ lw_tbl ∧ goodWord w = true := by decide +kernel
  exact fun w q => List.mem_filter.mpr (h w q)
def RqFo : String := "SpringSpaces$Force"
def TqFo : u_T := fun k => match k with
  | 0 => ("SpringSpaces$Force", "above", "J", false)
  | _ => ("SpringSpaces$Force", "below", "J", false)
def tyqFo : Nat → FieldType := fun k => match k with
  | 0 => .long
  | _ => .long
theorem nmqFo : ∀ a, a < 2 → ∀ b, b < 2 → a ≠ b → (TqFo a).2.1 ≠ (TqFo b).2.1 := by decide +kernel
theorem tyqFo_ok : ∀ k, k < 2 → parseFieldDescriptor (TqFo k).2.2.1 = some (tyqFo k) := by decide +kernel
set_option maxRecDepth 20000 in
theorem inqFo : ∀ w ∈ u_ws RqFo TqFo 2, w ∈ gtb := by
  have h : ∀ w ∈ u_ws RqFo TqFo 2, w ∈ lw_tbl ∧ goodWord w = true := by decide +kernel
  exact fun w q => List.mem_filter.mpr (h w q)
def RqLi : String := "SpringSpaces$Line"
def TqLi : u_T := fun k => match k with
  | 0 => ("SpringSpaces$Line", "leasts", "[J", true)
  | 1 => ("SpringSpaces$Line", "springs", "[J", true)
  | 2 => ("SpringSpaces$Line", "force", "LSpringSpaces$Force;", true)
  | 3 => ("SpringSpaces$Line", "first", "I", false)
  | 4 => ("SpringSpaces$Line", "last", "I", false)
  | _ => ("SpringSpaces$Line", "excess", "J", false)
def tyqLi : Nat → FieldType := fun k => match k with
  | 0 => .array .long
  | 1 => .array .long
  | 2 => .object "SpringSpaces$Force"
  | 3 => .int
  | 4 => .int
  | _ => .long
theorem nmqLi : ∀ a, a < 6 → ∀ b, b < 6 → a ≠ b → (TqLi a).2.1 ≠ (TqLi b).2.1 := by decide +kernel
theorem tyqLi_ok : ∀ k, k < 6 → parseFieldDescriptor (TqLi k).2.2.1 = some (tyqLi k) := by decide +kernel
set_option maxRecDepth 20000 in
theorem inqLi : ∀ w ∈ u_ws RqLi TqLi 6, w ∈ gtb := by
  have h : ∀ w ∈ u_ws RqLi TqLi 6, w ∈ lw_tbl ∧ goodWord w = true := by decide +kernel
  exact fun w q => List.mem_filter.mpr (h w q)
def RqBr : String := "SpringSpaces$Breaks"
def TqBr : u_T := fun k => match k with
  | 0 => ("SpringSpaces$Breaks", "costs", "[J", true)
  | 1 => ("SpringSpaces$Breaks", "counts", "[I", true)
  | 2 => ("SpringSpaces$Breaks", "nexts", "[I", true)
  | 3 => ("SpringSpaces$Breaks", "begins", "[I", true)
  | _ => ("SpringSpaces$Breaks", "size", "I", false)
def tyqBr : Nat → FieldType := fun k => match k with
  | 0 => .array .long
  | 1 => .array .int
  | 2 => .array .int
  | 3 => .array .int
  | _ => .int
theorem nmqBr : ∀ a, a < 5 → ∀ b, b < 5 → a ≠ b → (TqBr a).2.1 ≠ (TqBr b).2.1 := by decide +kernel
theorem tyqBr_ok : ∀ k, k < 5 → parseFieldDescriptor (TqBr k).2.2.1 = some (tyqBr k) := by decide +kernel
set_option maxRecDepth 20000 in
theorem inqBr : ∀ w ∈ u_ws RqBr TqBr 5, w ∈ gtb := by
  have h : ∀ w ∈ u_ws RqBr TqBr 5, w ∈ lw_tbl ∧ goodWord w = true := by decide +kernel
  exact fun w q => List.mem_filter.mpr (h w q)
def RqM : String := "SpringSpacesModel"
def TqM : u_T := fun k => match k with
  | 0 => ("SpringSpacesModel", "base", "I", false)
  | 1 => ("SpringSpacesModel", "more", "I", false)
  | 2 => ("SpringSpacesModel", "columns", "I", false)
  | 3 => ("SpringSpacesModel", "times", "[I", true)
  | 4 => ("SpringSpacesModel", "leasts", "[I", true)
  | 5 => ("SpringSpacesModel", "bars", "[Z", true)
  | 6 => ("SpringSpacesModel", "isItem", "[Z", true)
  | 7 => ("SpringSpacesModel", "lefts", "[I", true)
  | 8 => ("SpringSpacesModel", "rights", "[I", true)
  | 9 => ("SpringSpacesModel", "rods", "I", false)
  | 10 => ("SpringSpacesModel", "rodsLeft", "I", false)
  | 11 => ("SpringSpacesModel", "rodFrom", "[I", true)
  | 12 => ("SpringSpacesModel", "rodTo", "[I", true)
  | 13 => ("SpringSpacesModel", "rodWidth", "[I", true)
  | 14 => ("SpringSpacesModel", "isRod", "[Z", true)
  | 15 => ("SpringSpacesModel", "hasLine", "Z", false)
  | 16 => ("SpringSpacesModel", "first", "I", false)
  | 17 => ("SpringSpacesModel", "last", "I", false)
  | 18 => ("SpringSpacesModel", "over", "I", false)
  | 19 => ("SpringSpacesModel", "above", "J", false)
  | 20 => ("SpringSpacesModel", "below", "J", false)
  | 21 => ("SpringSpacesModel", "settled", "[I", true)
  | 22 => ("SpringSpacesModel", "springs", "[J", true)
  | 23 => ("SpringSpacesModel", "hasLines", "Z", false)
  | 24 => ("SpringSpacesModel", "lineCount", "I", false)
  | 25 => ("SpringSpacesModel", "cost", "J", false)
  | 26 => ("SpringSpacesModel", "begins", "[I", true)
  | 27 => ("SpringSpacesModel", "work", "[I", true)
  | 28 => ("SpringSpacesModel", "gives", "[Z", true)
  | 29 => ("SpringSpacesModel", "forceAbove", "J", false)
  | 30 => ("SpringSpacesModel", "forceBelow", "J", false)
  | 31 => ("SpringSpacesModel", "bestCost", "[J", true)
  | 32 => ("SpringSpacesModel", "bestLines", "[I", true)
  | _ => ("SpringSpacesModel", "bestEnd", "[I", true)
def tyqM : Nat → FieldType := fun k => match k with
  | 0 => .int
  | 1 => .int
  | 2 => .int
  | 3 => .array .int
  | 4 => .array .int
  | 5 => .array .boolean
  | 6 => .array .boolean
  | 7 => .array .int
  | 8 => .array .int
  | 9 => .int
  | 10 => .int
  | 11 => .array .int
  | 12 => .array .int
  | 13 => .array .int
  | 14 => .array .boolean
  | 15 => .boolean
  | 16 => .int
  | 17 => .int
  | 18 => .int
  | 19 => .long
  | 20 => .long
  | 21 => .array .int
  | 22 => .array .long
  | 23 => .boolean
  | 24 => .int
  | 25 => .long
  | 26 => .array .int
  | 27 => .array .int
  | 28 => .array .boolean
  | 29 => .long
  | 30 => .long
  | 31 => .array .long
  | 32 => .array .int
  | _ => .array .int
theorem nmqM : ∀ a, a < 34 → ∀ b, b < 34 → a ≠ b → (TqM a).2.1 ≠ (TqM b).2.1 := by decide +kernel
theorem tyqM_ok : ∀ k, k < 34 → parseFieldDescriptor (TqM k).2.2.1 = some (tyqM k) := by decide +kernel
set_option maxRecDepth 20000 in
theorem inqM : ∀ w ∈ u_ws RqM TqM 34, w ∈ gtb := by
  have h : ∀ w ∈ u_ws RqM TqM 34, w ∈ lw_tbl ∧ goodWord w = true := by decide +kernel
  exact fun w q => List.mem_filter.mpr (h w q)
def RqL : String := "SpringSpacesLaw"
def RqJ : String := "java/lang/Math"
abbrev cqX_init : ByteArray := prog_1_method_1_code
def yqX_init : MethodName := ⟨RqX, "<init>", "()V"⟩
abbrev wsqX_init : List Cond := Cond.code yqX_init cqX_init 1 (none) :: gtb
abbrev cqX_table : ByteArray := prog_1_method_2_code
def yqX_table : MethodName := ⟨RqX, "table", "(II)I"⟩
abbrev wsqX_table : List Cond := Cond.code yqX_table cqX_table 3 (some .int) :: gtb
abbrev cqX_column : ByteArray := prog_1_method_3_code
def yqX_column : MethodName := ⟨RqX, "column", "(I)I"⟩
abbrev wsqX_column : List Cond := Cond.code yqX_column cqX_column 2 (some .int) :: gtb
abbrev cqX_clear : ByteArray := prog_1_method_4_code
def yqX_clear : MethodName := ⟨RqX, "clear", "()I"⟩
abbrev wsqX_clear : List Cond := Cond.code yqX_clear cqX_clear 1 (some .int) :: gtb
abbrev cqX_spring : ByteArray := prog_1_method_5_code
def yqX_spring : MethodName := ⟨RqX, "spring", "(I)J"⟩
abbrev wsqX_spring : List Cond := Cond.code yqX_spring cqX_spring 2 (some .long) :: gtb
abbrev cqX_least : ByteArray := prog_1_method_6_code
def yqX_least : MethodName := ⟨RqX, "least", "(II)I"⟩
abbrev wsqX_least : List Cond := Cond.code yqX_least cqX_least 3 (some .int) :: gtb
abbrev cqX_item : ByteArray := prog_1_method_7_code
def yqX_item : MethodName := ⟨RqX, "item", "(IIII)I"⟩
abbrev wsqX_item : List Cond := Cond.code yqX_item cqX_item 5 (some .int) :: gtb
abbrev cqX_remove : ByteArray := prog_1_method_8_code
def yqX_remove : MethodName := ⟨RqX, "remove", "(II)I"⟩
abbrev wsqX_remove : List Cond := Cond.code yqX_remove cqX_remove 3 (some .int) :: gtb
abbrev cqX_rod : ByteArray := prog_1_method_9_code
def yqX_rod : MethodName := ⟨RqX, "rod", "(III)I"⟩
abbrev wsqX_rod : List Cond := Cond.code yqX_rod cqX_rod 4 (some .int) :: gtb
abbrev cqX_drop : ByteArray := prog_1_method_10_code
def yqX_drop : MethodName := ⟨RqX, "drop", "(I)I"⟩
abbrev wsqX_drop : List Cond := Cond.code yqX_drop cqX_drop 2 (some .int) :: gtb
abbrev cqX_bar : ByteArray := prog_1_method_11_code
def yqX_bar : MethodName := ⟨RqX, "bar", "(IZ)I"⟩
abbrev wsqX_bar : List Cond := Cond.code yqX_bar cqX_bar 3 (some .int) :: gtb
abbrev cqX_run : ByteArray := prog_1_method_12_code
def yqX_run : MethodName := ⟨RqX, "run", "(I)I"⟩
abbrev wsqX_run : List Cond := Cond.code yqX_run cqX_run 2 (some .int) :: gtb
abbrev cqX_line : ByteArray := prog_1_method_13_code
def yqX_line : MethodName := ⟨RqX, "line", "(III)I"⟩
abbrev wsqX_line : List Cond := Cond.code yqX_line cqX_line 4 (some .int) :: gtb
abbrev cqX_over : ByteArray := prog_1_method_14_code
def yqX_over : MethodName := ⟨RqX, "over", "()I"⟩
abbrev wsqX_over : List Cond := Cond.code yqX_over cqX_over 1 (some .int) :: gtb
abbrev cqX_force : ByteArray := prog_1_method_15_code
def yqX_force : MethodName := ⟨RqX, "force", "(I)J"⟩
abbrev wsqX_force : List Cond := Cond.code yqX_force cqX_force 2 (some .long) :: gtb
abbrev cqX_width : ByteArray := prog_1_method_16_code
def yqX_width : MethodName := ⟨RqX, "width", "(II)J"⟩
abbrev wsqX_width : List Cond := Cond.code yqX_width cqX_width 3 (some .long) :: gtb
abbrev cqX_settled : ByteArray := prog_1_method_17_code
def yqX_settled : MethodName := ⟨RqX, "settled", "(I)I"⟩
abbrev wsqX_settled : List Cond := Cond.code yqX_settled cqX_settled 2 (some .int) :: gtb
abbrev cqX_place : ByteArray := prog_1_method_18_code
def yqX_place : MethodName := ⟨RqX, "place", "(I)I"⟩
abbrev wsqX_place : List Cond := Cond.code yqX_place cqX_place 2 (some .int) :: gtb
abbrev cqX_level : ByteArray := prog_1_method_19_code
def yqX_level : MethodName := ⟨RqX, "level", "(I)I"⟩
abbrev wsqX_level : List Cond := Cond.code yqX_level cqX_level 2 (some .int) :: gtb
abbrev cqX_lines : ByteArray := prog_1_method_20_code
def yqX_lines : MethodName := ⟨RqX, "lines", "(I)I"⟩
abbrev wsqX_lines : List Cond := Cond.code yqX_lines cqX_lines 2 (some .int) :: gtb
abbrev cqX_begin : ByteArray := prog_1_method_21_code
def yqX_begin : MethodName := ⟨RqX, "begin", "(I)I"⟩
abbrev wsqX_begin : List Cond := Cond.code yqX_begin cqX_begin 2 (some .int) :: gtb
abbrev cqX_cost : ByteArray := prog_1_method_22_code
def yqX_cost : MethodName := ⟨RqX, "cost", "()J"⟩
abbrev wsqX_cost : List Cond := Cond.code yqX_cost cqX_cost 1 (some .long) :: gtb
abbrev cqX_natural : ByteArray := prog_1_method_23_code
def yqX_natural : MethodName := ⟨RqX, "natural", "(II)I"⟩
abbrev wsqX_natural : List Cond := Cond.code yqX_natural cqX_natural 3 (some .int) :: gtb
abbrev cqX_takeInHand : ByteArray := prog_1_method_24_code
def yqX_takeInHand : MethodName := ⟨RqX, "takeInHand", "(III)I"⟩
abbrev wsqX_takeInHand : List Cond := Cond.code yqX_takeInHand cqX_takeInHand 4 (some .int) :: gtb
abbrev cqX_forgetAnswers : ByteArray := prog_1_method_25_code
def yqX_forgetAnswers : MethodName := ⟨RqX, "forgetAnswers", "()V"⟩
abbrev wsqX_forgetAnswers : List Cond := Cond.code yqX_forgetAnswers cqX_forgetAnswers 1 (none) :: gtb
abbrev cqX_isStaff : ByteArray := prog_1_method_26_code
def yqX_isStaff : MethodName := ⟨RqX, "isStaff", "(I)Z"⟩
abbrev wsqX_isStaff : List Cond := Cond.code yqX_isStaff cqX_isStaff 1 (some .boolean) :: gtb
abbrev cqX_isExtent : ByteArray := prog_1_method_27_code
def yqX_isExtent : MethodName := ⟨RqX, "isExtent", "(I)Z"⟩
abbrev wsqX_isExtent : List Cond := Cond.code yqX_isExtent cqX_isExtent 1 (some .boolean) :: gtb
abbrev cqX_isPart : ByteArray := prog_1_method_28_code
def yqX_isPart : MethodName := ⟨RqX, "isPart", "(I)Z"⟩
abbrev wsqX_isPart : List Cond := Cond.code yqX_isPart cqX_isPart 1 (some .boolean) :: gtb
abbrev cqX_within : ByteArray := prog_1_method_29_code
def yqX_within : MethodName := ⟨RqX, "within", "(III)Z"⟩
abbrev wsqX_within : List Cond := Cond.code yqX_within cqX_within 3 (some .boolean) :: gtb
abbrev cqX_sumOf : ByteArray := prog_1_method_30_code
def yqX_sumOf : MethodName := ⟨RqX, "sumOf", "([JII)J"⟩
abbrev wsqX_sumOf : List Cond := Cond.code yqX_sumOf cqX_sumOf 6 (some .long) :: gtb
abbrev cqX_dividedDown : ByteArray := prog_1_method_31_code
def yqX_dividedDown : MethodName := ⟨RqX, "dividedDown", "(JJ)J"⟩
abbrev wsqX_dividedDown : List Cond := Cond.code yqX_dividedDown cqX_dividedDown 4 (some .long) :: gtb
abbrev cqX_dividedUp : ByteArray := prog_1_method_32_code
def yqX_dividedUp : MethodName := ⟨RqX, "dividedUp", "(JJ)J"⟩
abbrev wsqX_dividedUp : List Cond := Cond.code yqX_dividedUp cqX_dividedUp 4 (some .long) :: gtb
abbrev cqX_commonDivisor : ByteArray := prog_1_method_33_code
def yqX_commonDivisor : MethodName := ⟨RqX, "commonDivisor", "(JJ)J"⟩
abbrev wsqX_commonDivisor : List Cond := Cond.code yqX_commonDivisor cqX_commonDivisor 11 (some .long) :: gtb
abbrev cqM_init : ByteArray := prog_10_method_1_code
def yqM_init : MethodName := ⟨RqM, "<init>", "()V"⟩
abbrev wsqM_init : List Cond := Cond.code yqM_init cqM_init 1 (none) :: gtb
abbrev cqM_changed : ByteArray := prog_10_method_2_code
def yqM_changed : MethodName := ⟨RqM, "changed", "()V"⟩
abbrev wsqM_changed : List Cond := Cond.code yqM_changed cqM_changed 1 (none) :: gtb
abbrev cqM_table : ByteArray := prog_10_method_3_code
def yqM_table : MethodName := ⟨RqM, "table", "(II)I"⟩
abbrev wsqM_table : List Cond := Cond.code yqM_table cqM_table 3 (some .int) :: gtb
abbrev cqM_column : ByteArray := prog_10_method_4_code
def yqM_column : MethodName := ⟨RqM, "column", "(I)I"⟩
abbrev wsqM_column : List Cond := Cond.code yqM_column cqM_column 3 (some .int) :: gtb
abbrev cqM_clear : ByteArray := prog_10_method_5_code
def yqM_clear : MethodName := ⟨RqM, "clear", "()I"⟩
abbrev wsqM_clear : List Cond := Cond.code yqM_clear cqM_clear 2 (some .int) :: gtb
abbrev cqM_springOf : ByteArray := prog_10_method_6_code
def yqM_springOf : MethodName := ⟨RqM, "springOf", "(I)J"⟩
abbrev wsqM_springOf : List Cond := Cond.code yqM_springOf cqM_springOf 3 (some .long) :: gtb
abbrev cqM_spring : ByteArray := prog_10_method_7_code
def yqM_spring : MethodName := ⟨RqM, "spring", "(I)J"⟩
abbrev wsqM_spring : List Cond := Cond.code yqM_spring cqM_spring 2 (some .long) :: gtb
abbrev cqM_isColumn : ByteArray := prog_10_method_8_code
def yqM_isColumn : MethodName := ⟨RqM, "isColumn", "(I)Z"⟩
abbrev wsqM_isColumn : List Cond := Cond.code yqM_isColumn cqM_isColumn 2 (some .boolean) :: gtb
abbrev cqM_least : ByteArray := prog_10_method_9_code
def yqM_least : MethodName := ⟨RqM, "least", "(II)I"⟩
abbrev wsqM_least : List Cond := Cond.code yqM_least cqM_least 4 (some .int) :: gtb
abbrev cqM_item : ByteArray := prog_10_method_10_code
def yqM_item : MethodName := ⟨RqM, "item", "(IIII)I"⟩
abbrev wsqM_item : List Cond := Cond.code yqM_item cqM_item 7 (some .int) :: gtb
abbrev cqM_remove : ByteArray := prog_10_method_11_code
def yqM_remove : MethodName := ⟨RqM, "remove", "(II)I"⟩
abbrev wsqM_remove : List Cond := Cond.code yqM_remove cqM_remove 3 (some .int) :: gtb
abbrev cqM_rod : ByteArray := prog_10_method_12_code
def yqM_rod : MethodName := ⟨RqM, "rod", "(III)I"⟩
abbrev wsqM_rod : List Cond := Cond.code yqM_rod cqM_rod 4 (some .int) :: gtb
abbrev cqM_drop : ByteArray := prog_10_method_13_code
def yqM_drop : MethodName := ⟨RqM, "drop", "(I)I"⟩
abbrev wsqM_drop : List Cond := Cond.code yqM_drop cqM_drop 2 (some .int) :: gtb
abbrev cqM_bar : ByteArray := prog_10_method_14_code
def yqM_bar : MethodName := ⟨RqM, "bar", "(IZ)I"⟩
abbrev wsqM_bar : List Cond := Cond.code yqM_bar cqM_bar 4 (some .int) :: gtb
abbrev cqM_sum : ByteArray := prog_10_method_15_code
def yqM_sum : MethodName := ⟨RqM, "sum", "(II)I"⟩
abbrev wsqM_sum : List Cond := Cond.code yqM_sum cqM_sum 5 (some .int) :: gtb
abbrev cqM_hasSpring : ByteArray := prog_10_method_16_code
def yqM_hasSpring : MethodName := ⟨RqM, "hasSpring", "(II)Z"⟩
abbrev wsqM_hasSpring : List Cond := Cond.code yqM_hasSpring cqM_hasSpring 4 (some .boolean) :: gtb
abbrev cqM_findForce : ByteArray := prog_10_method_17_code
def yqM_findForce : MethodName := ⟨RqM, "findForce", "(III)V"⟩
abbrev wsqM_findForce : List Cond := Cond.code yqM_findForce cqM_findForce 11 (none) :: gtb
abbrev cqM_need : ByteArray := prog_10_method_18_code
def yqM_need : MethodName := ⟨RqM, "need", "(IIIII)V"⟩
abbrev wsqM_need : List Cond := Cond.code yqM_need cqM_need 9 (none) :: gtb
abbrev cqM_settle : ByteArray := prog_10_method_19_code
def yqM_settle : MethodName := ⟨RqM, "settle", "(II)V"⟩
abbrev wsqM_settle : List Cond := Cond.code yqM_settle cqM_settle 6 (none) :: gtb
abbrev cqM_run : ByteArray := prog_10_method_20_code
def yqM_run : MethodName := ⟨RqM, "run", "(I)I"⟩
abbrev wsqM_run : List Cond := Cond.code yqM_run cqM_run 2 (some .int) :: gtb
abbrev cqM_line : ByteArray := prog_10_method_21_code
def yqM_line : MethodName := ⟨RqM, "line", "(III)I"⟩
abbrev wsqM_line : List Cond := Cond.code yqM_line cqM_line 4 (some .int) :: gtb
abbrev cqM_made : ByteArray := prog_10_method_22_code
def yqM_made : MethodName := ⟨RqM, "made", "(III)I"⟩
abbrev wsqM_made : List Cond := Cond.code yqM_made cqM_made 6 (some .int) :: gtb
abbrev cqM_common : ByteArray := prog_10_method_23_code
def yqM_common : MethodName := ⟨RqM, "common", "(JJ)J"⟩
abbrev wsqM_common : List Cond := Cond.code yqM_common cqM_common 10 (some .long) :: gtb
abbrev cqM_part : ByteArray := prog_10_method_24_code
def yqM_part : MethodName := ⟨RqM, "part", "(JJI)J"⟩
abbrev wsqM_part : List Cond := Cond.code yqM_part cqM_part 5 (some .long) :: gtb
abbrev cqM_over : ByteArray := prog_10_method_25_code
def yqM_over : MethodName := ⟨RqM, "over", "()I"⟩
abbrev wsqM_over : List Cond := Cond.code yqM_over cqM_over 1 (some .int) :: gtb
abbrev cqM_force : ByteArray := prog_10_method_26_code
def yqM_force : MethodName := ⟨RqM, "force", "(I)J"⟩
abbrev wsqM_force : List Cond := Cond.code yqM_force cqM_force 2 (some .long) :: gtb
abbrev cqM_wide : ByteArray := prog_10_method_27_code
def yqM_wide : MethodName := ⟨RqM, "wide", "(I)J"⟩
abbrev wsqM_wide : List Cond := Cond.code yqM_wide cqM_wide 6 (some .long) :: gtb
abbrev cqM_width : ByteArray := prog_10_method_28_code
def yqM_width : MethodName := ⟨RqM, "width", "(II)J"⟩
abbrev wsqM_width : List Cond := Cond.code yqM_width cqM_width 3 (some .long) :: gtb
abbrev cqM_settled : ByteArray := prog_10_method_29_code
def yqM_settled : MethodName := ⟨RqM, "settled", "(I)I"⟩
abbrev wsqM_settled : List Cond := Cond.code yqM_settled cqM_settled 2 (some .int) :: gtb
abbrev cqM_before : ByteArray := prog_10_method_30_code
def yqM_before : MethodName := ⟨RqM, "before", "(I)J"⟩
abbrev wsqM_before : List Cond := Cond.code yqM_before cqM_before 5 (some .long) :: gtb
abbrev cqM_place : ByteArray := prog_10_method_31_code
def yqM_place : MethodName := ⟨RqM, "place", "(I)I"⟩
abbrev wsqM_place : List Cond := Cond.code yqM_place cqM_place 2 (some .int) :: gtb
abbrev cqM_level : ByteArray := prog_10_method_32_code
def yqM_level : MethodName := ⟨RqM, "level", "(I)I"⟩
abbrev wsqM_level : List Cond := Cond.code yqM_level cqM_level 15 (some .int) :: gtb
abbrev cqM_naturalOf : ByteArray := prog_10_method_33_code
def yqM_naturalOf : MethodName := ⟨RqM, "naturalOf", "(II)I"⟩
abbrev wsqM_naturalOf : List Cond := Cond.code yqM_naturalOf cqM_naturalOf 6 (some .int) :: gtb
abbrev cqM_natural : ByteArray := prog_10_method_34_code
def yqM_natural : MethodName := ⟨RqM, "natural", "(II)I"⟩
abbrev wsqM_natural : List Cond := Cond.code yqM_natural cqM_natural 3 (some .int) :: gtb
abbrev cqM_costOf : ByteArray := prog_10_method_35_code
def yqM_costOf : MethodName := ⟨RqM, "costOf", "(III)J"⟩
abbrev wsqM_costOf : List Cond := Cond.code yqM_costOf cqM_costOf 7 (some .long) :: gtb
abbrev cqM_isBreak : ByteArray := prog_10_method_36_code
def yqM_isBreak : MethodName := ⟨RqM, "isBreak", "(I)Z"⟩
abbrev wsqM_isBreak : List Cond := Cond.code yqM_isBreak cqM_isBreak 2 (some .boolean) :: gtb
abbrev cqM_lines : ByteArray := prog_10_method_37_code
def yqM_lines : MethodName := ⟨RqM, "lines", "(I)I"⟩
abbrev wsqM_lines : List Cond := Cond.code yqM_lines cqM_lines 7 (some .int) :: gtb
abbrev cqM_begin : ByteArray := prog_10_method_38_code
def yqM_begin : MethodName := ⟨RqM, "begin", "(I)I"⟩
abbrev wsqM_begin : List Cond := Cond.code yqM_begin cqM_begin 2 (some .int) :: gtb
abbrev cqM_cost : ByteArray := prog_10_method_39_code
def yqM_cost : MethodName := ⟨RqM, "cost", "()J"⟩
abbrev wsqM_cost : List Cond := Cond.code yqM_cost cqM_cost 1 (some .long) :: gtb
abbrev cqBr_init : ByteArray := prog_2_method_1_code
def yqBr_init : MethodName := ⟨RqBr, "<init>", "()V"⟩
abbrev wsqBr_init : List Cond := Cond.code yqBr_init cqBr_init 1 (none) :: gtb
abbrev cqBr_choose : ByteArray := prog_2_method_2_code
def yqBr_choose : MethodName := ⟨RqBr, "choose", "(LSpringSpaces$Columns;LSpringSpaces$Needs;LSpringSpaces$Line;I)V"⟩
abbrev wsqBr_choose : List Cond := Cond.code yqBr_choose cqBr_choose 7 (none) :: gtb
abbrev cqBr_chooseFrom : ByteArray := prog_2_method_3_code
def yqBr_chooseFrom : MethodName := ⟨RqBr, "chooseFrom", "(ILSpringSpaces$Columns;LSpringSpaces$Needs;LSpringSpaces$Line;I)V"⟩
abbrev wsqBr_chooseFrom : List Cond := Cond.code yqBr_chooseFrom cqBr_chooseFrom 12 (none) :: gtb
abbrev cqBr_costOf : ByteArray := prog_2_method_4_code
def yqBr_costOf : MethodName := ⟨RqBr, "costOf", "(LSpringSpaces$Line;IZ)J"⟩
abbrev wsqBr_costOf : List Cond := Cond.code yqBr_costOf cqBr_costOf 7 (some .long) :: gtb
abbrev cqBr_tellBegins : ByteArray := prog_2_method_5_code
def yqBr_tellBegins : MethodName := ⟨RqBr, "tellBegins", "(I)V"⟩
abbrev wsqBr_tellBegins : List Cond := Cond.code yqBr_tellBegins cqBr_tellBegins 4 (none) :: gtb
abbrev cqBr_size : ByteArray := prog_2_method_6_code
def yqBr_size : MethodName := ⟨RqBr, "size", "()I"⟩
abbrev wsqBr_size : List Cond := Cond.code yqBr_size cqBr_size 1 (some .int) :: gtb
abbrev cqBr_beginOf : ByteArray := prog_2_method_7_code
def yqBr_beginOf : MethodName := ⟨RqBr, "beginOf", "(I)I"⟩
abbrev wsqBr_beginOf : List Cond := Cond.code yqBr_beginOf cqBr_beginOf 2 (some .int) :: gtb
abbrev cqBr_wholeCost : ByteArray := prog_2_method_8_code
def yqBr_wholeCost : MethodName := ⟨RqBr, "wholeCost", "()J"⟩
abbrev wsqBr_wholeCost : List Cond := Cond.code yqBr_wholeCost cqBr_wholeCost 1 (some .long) :: gtb
abbrev cqCo_init : ByteArray := prog_3_method_1_code
def yqCo_init : MethodName := ⟨RqCo, "<init>", "()V"⟩
abbrev wsqCo_init : List Cond := Cond.code yqCo_init cqCo_init 1 (none) :: gtb
abbrev cqCo_useTable : ByteArray := prog_3_method_2_code
def yqCo_useTable : MethodName := ⟨RqCo, "useTable", "(II)V"⟩
abbrev wsqCo_useTable : List Cond := Cond.code yqCo_useTable cqCo_useTable 3 (none) :: gtb
abbrev cqCo_size : ByteArray := prog_3_method_3_code
def yqCo_size : MethodName := ⟨RqCo, "size", "()I"⟩
abbrev wsqCo_size : List Cond := Cond.code yqCo_size cqCo_size 1 (some .int) :: gtb
abbrev cqCo_lastOne : ByteArray := prog_3_method_4_code
def yqCo_lastOne : MethodName := ⟨RqCo, "lastOne", "()I"⟩
abbrev wsqCo_lastOne : List Cond := Cond.code yqCo_lastOne cqCo_lastOne 1 (some .int) :: gtb
abbrev cqCo_areFull : ByteArray := prog_3_method_5_code
def yqCo_areFull : MethodName := ⟨RqCo, "areFull", "()Z"⟩
abbrev wsqCo_areFull : List Cond := Cond.code yqCo_areFull cqCo_areFull 1 (some .boolean) :: gtb
abbrev cqCo_have : ByteArray := prog_3_method_6_code
def yqCo_have : MethodName := ⟨RqCo, "have", "(I)Z"⟩
abbrev wsqCo_have : List Cond := Cond.code yqCo_have cqCo_have 2 (some .boolean) :: gtb
abbrev cqCo_haveGap : ByteArray := prog_3_method_7_code
def yqCo_haveGap : MethodName := ⟨RqCo, "haveGap", "(I)Z"⟩
abbrev wsqCo_haveGap : List Cond := Cond.code yqCo_haveGap cqCo_haveGap 2 (some .boolean) :: gtb
abbrev cqCo_mayFollow : ByteArray := prog_3_method_8_code
def yqCo_mayFollow : MethodName := ⟨RqCo, "mayFollow", "(I)Z"⟩
abbrev wsqCo_mayFollow : List Cond := Cond.code yqCo_mayFollow cqCo_mayFollow 2 (some .boolean) :: gtb
abbrev cqCo_append : ByteArray := prog_3_method_9_code
def yqCo_append : MethodName := ⟨RqCo, "append", "(I)I"⟩
abbrev wsqCo_append : List Cond := Cond.code yqCo_append cqCo_append 3 (some .int) :: gtb
abbrev cqCo_takeAll : ByteArray := prog_3_method_10_code
def yqCo_takeAll : MethodName := ⟨RqCo, "takeAll", "()I"⟩
abbrev wsqCo_takeAll : List Cond := Cond.code yqCo_takeAll cqCo_takeAll 2 (some .int) :: gtb
abbrev cqCo_setLeast : ByteArray := prog_3_method_11_code
def yqCo_setLeast : MethodName := ⟨RqCo, "setLeast", "(II)I"⟩
abbrev wsqCo_setLeast : List Cond := Cond.code yqCo_setLeast cqCo_setLeast 4 (some .int) :: gtb
abbrev cqCo_setBar : ByteArray := prog_3_method_12_code
def yqCo_setBar : MethodName := ⟨RqCo, "setBar", "(IZ)Z"⟩
abbrev wsqCo_setBar : List Cond := Cond.code yqCo_setBar cqCo_setBar 4 (some .boolean) :: gtb
abbrev cqCo_timeOf : ByteArray := prog_3_method_13_code
def yqCo_timeOf : MethodName := ⟨RqCo, "timeOf", "(I)I"⟩
abbrev wsqCo_timeOf : List Cond := Cond.code yqCo_timeOf cqCo_timeOf 2 (some .int) :: gtb
abbrev cqCo_toldLeastOf : ByteArray := prog_3_method_14_code
def yqCo_toldLeastOf : MethodName := ⟨RqCo, "toldLeastOf", "(I)I"⟩
abbrev wsqCo_toldLeastOf : List Cond := Cond.code yqCo_toldLeastOf cqCo_toldLeastOf 2 (some .int) :: gtb
abbrev cqCo_durationOf : ByteArray := prog_3_method_15_code
def yqCo_durationOf : MethodName := ⟨RqCo, "durationOf", "(I)I"⟩
abbrev wsqCo_durationOf : List Cond := Cond.code yqCo_durationOf cqCo_durationOf 2 (some .int) :: gtb
abbrev cqCo_mayBreakAt : ByteArray := prog_3_method_16_code
def yqCo_mayBreakAt : MethodName := ⟨RqCo, "mayBreakAt", "(I)Z"⟩
abbrev wsqCo_mayBreakAt : List Cond := Cond.code yqCo_mayBreakAt cqCo_mayBreakAt 2 (some .boolean) :: gtb
abbrev cqCo_springFor : ByteArray := prog_3_method_17_code
def yqCo_springFor : MethodName := ⟨RqCo, "springFor", "(I)J"⟩
abbrev wsqCo_springFor : List Cond := Cond.code yqCo_springFor cqCo_springFor 7 (some .long) :: gtb
abbrev cqFo_init : ByteArray := prog_4_method_1_code
def yqFo_init : MethodName := ⟨RqFo, "<init>", "()V"⟩
abbrev wsqFo_init : List Cond := Cond.code yqFo_init cqFo_init 1 (none) :: gtb
abbrev cqFo_above : ByteArray := prog_4_method_2_code
def yqFo_above : MethodName := ⟨RqFo, "above", "()J"⟩
abbrev wsqFo_above : List Cond := Cond.code yqFo_above cqFo_above 1 (some .long) :: gtb
abbrev cqFo_below : ByteArray := prog_4_method_3_code
def yqFo_below : MethodName := ⟨RqFo, "below", "()J"⟩
abbrev wsqFo_below : List Cond := Cond.code yqFo_below cqFo_below 1 (some .long) :: gtb
abbrev cqFo_find : ByteArray := prog_4_method_4_code
def yqFo_find : MethodName := ⟨RqFo, "find", "([J[JIIJ)Z"⟩
abbrev wsqFo_find : List Cond := Cond.code yqFo_find cqFo_find 11 (some .boolean) :: gtb
abbrev cqFo_fit : ByteArray := prog_4_method_5_code
def yqFo_fit : MethodName := ⟨RqFo, "fit", "([J[JIIJ)V"⟩
abbrev wsqFo_fit : List Cond := Cond.code yqFo_fit cqFo_fit 12 (none) :: gtb
abbrev cqFo_bringToLowestTerms : ByteArray := prog_4_method_6_code
def yqFo_bringToLowestTerms : MethodName := ⟨RqFo, "bringToLowestTerms", "()V"⟩
abbrev wsqFo_bringToLowestTerms : List Cond := Cond.code yqFo_bringToLowestTerms cqFo_bringToLowestTerms 3 (none) :: gtb
abbrev cqIt_init : ByteArray := prog_5_method_1_code
def yqIt_init : MethodName := ⟨RqIt, "<init>", "()V"⟩
abbrev wsqIt_init : List Cond := Cond.code yqIt_init cqIt_init 1 (none) :: gtb
abbrev cqIt_seat : ByteArray := prog_5_method_2_code
def yqIt_seat : MethodName := ⟨RqIt, "seat", "(II)I"⟩
abbrev wsqIt_seat : List Cond := Cond.code yqIt_seat cqIt_seat 2 (some .int) :: gtb
abbrev cqIt_have : ByteArray := prog_5_method_3_code
def yqIt_have : MethodName := ⟨RqIt, "have", "(II)Z"⟩
abbrev wsqIt_have : List Cond := Cond.code yqIt_have cqIt_have 3 (some .boolean) :: gtb
abbrev cqIt_leftOf : ByteArray := prog_5_method_4_code
def yqIt_leftOf : MethodName := ⟨RqIt, "leftOf", "(II)I"⟩
abbrev wsqIt_leftOf : List Cond := Cond.code yqIt_leftOf cqIt_leftOf 3 (some .int) :: gtb
abbrev cqIt_rightOf : ByteArray := prog_5_method_5_code
def yqIt_rightOf : MethodName := ⟨RqIt, "rightOf", "(II)I"⟩
abbrev wsqIt_rightOf : List Cond := Cond.code yqIt_rightOf cqIt_rightOf 3 (some .int) :: gtb
abbrev cqIt_put : ByteArray := prog_5_method_6_code
def yqIt_put : MethodName := ⟨RqIt, "put", "(IIII)Z"⟩
abbrev wsqIt_put : List Cond := Cond.code yqIt_put cqIt_put 7 (some .boolean) :: gtb
abbrev cqIt_take : ByteArray := prog_5_method_7_code
def yqIt_take : MethodName := ⟨RqIt, "take", "(II)V"⟩
abbrev wsqIt_take : List Cond := Cond.code yqIt_take cqIt_take 3 (none) :: gtb
abbrev cqIt_takeAll : ByteArray := prog_5_method_8_code
def yqIt_takeAll : MethodName := ⟨RqIt, "takeAll", "()V"⟩
abbrev wsqIt_takeAll : List Cond := Cond.code yqIt_takeAll cqIt_takeAll 2 (none) :: gtb
abbrev cqLi_init : ByteArray := prog_6_method_1_code
def yqLi_init : MethodName := ⟨RqLi, "<init>", "()V"⟩
abbrev wsqLi_init : List Cond := Cond.code yqLi_init cqLi_init 1 (none) :: gtb
abbrev cqLi_settle : ByteArray := prog_6_method_2_code
def yqLi_settle : MethodName := ⟨RqLi, "settle", "(LSpringSpaces$Columns;LSpringSpaces$Needs;II)V"⟩
abbrev wsqLi_settle : List Cond := Cond.code yqLi_settle cqLi_settle 6 (none) :: gtb
abbrev cqLi_meet : ByteArray := prog_6_method_3_code
def yqLi_meet : MethodName := ⟨RqLi, "meet", "(IIJ)V"⟩
abbrev wsqLi_meet : List Cond := Cond.code yqLi_meet cqLi_meet 10 (none) :: gtb
abbrev cqLi_stretch : ByteArray := prog_6_method_4_code
def yqLi_stretch : MethodName := ⟨RqLi, "stretch", "(I)I"⟩
abbrev wsqLi_stretch : List Cond := Cond.code yqLi_stretch cqLi_stretch 3 (some .int) :: gtb
abbrev cqLi_sumOfLeasts : ByteArray := prog_6_method_5_code
def yqLi_sumOfLeasts : MethodName := ⟨RqLi, "sumOfLeasts", "()J"⟩
abbrev wsqLi_sumOfLeasts : List Cond := Cond.code yqLi_sumOfLeasts cqLi_sumOfLeasts 1 (some .long) :: gtb
abbrev cqLi_naturalWidth : ByteArray := prog_6_method_6_code
def yqLi_naturalWidth : MethodName := ⟨RqLi, "naturalWidth", "()J"⟩
abbrev wsqLi_naturalWidth : List Cond := Cond.code yqLi_naturalWidth cqLi_naturalWidth 4 (some .long) :: gtb
abbrev cqLi_hasGap : ByteArray := prog_6_method_7_code
def yqLi_hasGap : MethodName := ⟨RqLi, "hasGap", "(I)Z"⟩
abbrev wsqLi_hasGap : List Cond := Cond.code yqLi_hasGap cqLi_hasGap 2 (some .boolean) :: gtb
abbrev cqLi_hasColumn : ByteArray := prog_6_method_8_code
def yqLi_hasColumn : MethodName := ⟨RqLi, "hasColumn", "(I)Z"⟩
abbrev wsqLi_hasColumn : List Cond := Cond.code yqLi_hasColumn cqLi_hasColumn 2 (some .boolean) :: gtb
abbrev cqLi_spans : ByteArray := prog_6_method_9_code
def yqLi_spans : MethodName := ⟨RqLi, "spans", "(LSpringSpaces$Columns;I)Z"⟩
abbrev wsqLi_spans : List Cond := Cond.code yqLi_spans cqLi_spans 3 (some .boolean) :: gtb
abbrev cqLi_excess : ByteArray := prog_6_method_10_code
def yqLi_excess : MethodName := ⟨RqLi, "excess", "()I"⟩
abbrev wsqLi_excess : List Cond := Cond.code yqLi_excess cqLi_excess 1 (some .int) :: gtb
abbrev cqLi_leastOf : ByteArray := prog_6_method_11_code
def yqLi_leastOf : MethodName := ⟨RqLi, "leastOf", "(I)I"⟩
abbrev wsqLi_leastOf : List Cond := Cond.code yqLi_leastOf cqLi_leastOf 2 (some .int) :: gtb
abbrev cqLi_forcePart : ByteArray := prog_6_method_12_code
def yqLi_forcePart : MethodName := ⟨RqLi, "forcePart", "(I)J"⟩
abbrev wsqLi_forcePart : List Cond := Cond.code yqLi_forcePart cqLi_forcePart 2 (some .long) :: gtb
abbrev cqLi_widthPart : ByteArray := prog_6_method_13_code
def yqLi_widthPart : MethodName := ⟨RqLi, "widthPart", "(II)J"⟩
abbrev wsqLi_widthPart : List Cond := Cond.code yqLi_widthPart cqLi_widthPart 7 (some .long) :: gtb
abbrev cqLi_placeOf : ByteArray := prog_6_method_14_code
def yqLi_placeOf : MethodName := ⟨RqLi, "placeOf", "(I)I"⟩
abbrev wsqLi_placeOf : List Cond := Cond.code yqLi_placeOf cqLi_placeOf 2 (some .int) :: gtb
abbrev cqLi_placeAt : ByteArray := prog_6_method_15_code
def yqLi_placeAt : MethodName := ⟨RqLi, "placeAt", "(LSpringSpaces$Columns;I)I"⟩
abbrev wsqLi_placeAt : List Cond := Cond.code yqLi_placeAt cqLi_placeAt 10 (some .int) :: gtb
abbrev cqLi_widthAbove : ByteArray := prog_6_method_16_code
def yqLi_widthAbove : MethodName := ⟨RqLi, "widthAbove", "(I)J"⟩
abbrev wsqLi_widthAbove : List Cond := Cond.code yqLi_widthAbove cqLi_widthAbove 2 (some .long) :: gtb
abbrev cqLi_widthsAboveBefore : ByteArray := prog_6_method_17_code
def yqLi_widthsAboveBefore : MethodName := ⟨RqLi, "widthsAboveBefore", "(I)J"⟩
abbrev wsqLi_widthsAboveBefore : List Cond := Cond.code yqLi_widthsAboveBefore cqLi_widthsAboveBefore 5 (some .long) :: gtb
abbrev cqNe_init : ByteArray := prog_7_method_1_code
def yqNe_init : MethodName := ⟨RqNe, "<init>", "()V"⟩
abbrev wsqNe_init : List Cond := Cond.code yqNe_init cqNe_init 1 (none) :: gtb
abbrev cqNe_gather : ByteArray := prog_7_method_2_code
def yqNe_gather : MethodName := ⟨RqNe, "gather", "(LSpringSpaces$Items;LSpringSpaces$Rods;I)V"⟩
abbrev wsqNe_gather : List Cond := Cond.code yqNe_gather cqNe_gather 5 (none) :: gtb
abbrev cqNe_gatherStaff : ByteArray := prog_7_method_3_code
def yqNe_gatherStaff : MethodName := ⟨RqNe, "gatherStaff", "(LSpringSpaces$Items;II)V"⟩
abbrev wsqNe_gatherStaff : List Cond := Cond.code yqNe_gatherStaff cqNe_gatherStaff 7 (none) :: gtb
abbrev cqNe_note : ByteArray := prog_7_method_4_code
def yqNe_note : MethodName := ⟨RqNe, "note", "(III)V"⟩
abbrev wsqNe_note : List Cond := Cond.code yqNe_note cqNe_note 4 (none) :: gtb
abbrev cqNe_size : ByteArray := prog_7_method_5_code
def yqNe_size : MethodName := ⟨RqNe, "size", "()I"⟩
abbrev wsqNe_size : List Cond := Cond.code yqNe_size cqNe_size 1 (some .int) :: gtb
abbrev cqNe_fromOf : ByteArray := prog_7_method_6_code
def yqNe_fromOf : MethodName := ⟨RqNe, "fromOf", "(I)I"⟩
abbrev wsqNe_fromOf : List Cond := Cond.code yqNe_fromOf cqNe_fromOf 2 (some .int) :: gtb
abbrev cqNe_toOf : ByteArray := prog_7_method_7_code
def yqNe_toOf : MethodName := ⟨RqNe, "toOf", "(I)I"⟩
abbrev wsqNe_toOf : List Cond := Cond.code yqNe_toOf cqNe_toOf 2 (some .int) :: gtb
abbrev cqNe_widthOf : ByteArray := prog_7_method_8_code
def yqNe_widthOf : MethodName := ⟨RqNe, "widthOf", "(I)I"⟩
abbrev wsqNe_widthOf : List Cond := Cond.code yqNe_widthOf cqNe_widthOf 2 (some .int) :: gtb
abbrev cqRo_init : ByteArray := prog_8_method_1_code
def yqRo_init : MethodName := ⟨RqRo, "<init>", "()V"⟩
abbrev wsqRo_init : List Cond := Cond.code yqRo_init cqRo_init 1 (none) :: gtb
abbrev cqRo_areUsedUp : ByteArray := prog_8_method_2_code
def yqRo_areUsedUp : MethodName := ⟨RqRo, "areUsedUp", "()Z"⟩
abbrev wsqRo_areUsedUp : List Cond := Cond.code yqRo_areUsedUp cqRo_areUsedUp 1 (some .boolean) :: gtb
abbrev cqRo_numbersGiven : ByteArray := prog_8_method_3_code
def yqRo_numbersGiven : MethodName := ⟨RqRo, "numbersGiven", "()I"⟩
abbrev wsqRo_numbersGiven : List Cond := Cond.code yqRo_numbersGiven cqRo_numbersGiven 1 (some .int) :: gtb
abbrev cqRo_have : ByteArray := prog_8_method_4_code
def yqRo_have : MethodName := ⟨RqRo, "have", "(I)Z"⟩
abbrev wsqRo_have : List Cond := Cond.code yqRo_have cqRo_have 2 (some .boolean) :: gtb
abbrev cqRo_put : ByteArray := prog_8_method_5_code
def yqRo_put : MethodName := ⟨RqRo, "put", "(III)I"⟩
abbrev wsqRo_put : List Cond := Cond.code yqRo_put cqRo_put 5 (some .int) :: gtb
abbrev cqRo_take : ByteArray := prog_8_method_6_code
def yqRo_take : MethodName := ⟨RqRo, "take", "(I)I"⟩
abbrev wsqRo_take : List Cond := Cond.code yqRo_take cqRo_take 2 (some .int) :: gtb
abbrev cqRo_takeAll : ByteArray := prog_8_method_7_code
def yqRo_takeAll : MethodName := ⟨RqRo, "takeAll", "()V"⟩
abbrev wsqRo_takeAll : List Cond := Cond.code yqRo_takeAll cqRo_takeAll 2 (none) :: gtb
abbrev cqRo_fromOf : ByteArray := prog_8_method_8_code
def yqRo_fromOf : MethodName := ⟨RqRo, "fromOf", "(I)I"⟩
abbrev wsqRo_fromOf : List Cond := Cond.code yqRo_fromOf cqRo_fromOf 2 (some .int) :: gtb
abbrev cqRo_toOf : ByteArray := prog_8_method_9_code
def yqRo_toOf : MethodName := ⟨RqRo, "toOf", "(I)I"⟩
abbrev wsqRo_toOf : List Cond := Cond.code yqRo_toOf cqRo_toOf 2 (some .int) :: gtb
abbrev cqRo_widthOf : ByteArray := prog_8_method_10_code
def yqRo_widthOf : MethodName := ⟨RqRo, "widthOf", "(I)I"⟩
abbrev wsqRo_widthOf : List Cond := Cond.code yqRo_widthOf cqRo_widthOf 2 (some .int) :: gtb
abbrev cqL_law : ByteArray := code
def yqL_law : MethodName := ⟨RqL, "law", "([I)Z"⟩
abbrev cqJ_floorDiv : ByteArray := prog_11_method_49_code
def yqJ_floorDiv : MethodName := ⟨RqJ, "floorDiv", "(JJ)J"⟩
abbrev wsqJ_floorDiv : List Cond := Cond.code yqJ_floorDiv cqJ_floorDiv 6 (some .long) :: gtb
abbrev vwCl : List vw_C := [(RqX, TqX, 9), (RqCo, TqCo, 6), (RqIt, TqIt, 3), (RqRo, TqRo, 6), (RqNe, TqNe, 4), (RqFo, TqFo, 2), (RqLi, TqLi, 6), (RqBr, TqBr, 5), (RqM, TqM, 34)]
end
section
theorem dqX_init_0 : decode cqX_init 0 = .ok (.aload_n 0, 1) := by decide +kernel
theorem dqX_init_1 : decode cqX_init 1 = .ok (.invokespecial 3, 3) := by decide +kernel
theorem dqX_init_4 : decode cqX_init 4 = .ok (.aload_n 0, 1) := by decide +kernel
theorem dqX_init_5 : decode cqX_init 5 = .ok (.new 9, 3) := by decide +kernel
theorem dqX_init_8 : decode cqX_init 8 = .ok (.dup, 1) := by decide +kernel
theorem dqX_init_9 : decode cqX_init 9 = .ok (.invokespecial 11, 3) := by decide +kernel
theorem dqX_init_12 : decode cqX_init 12 = .ok (.putfield 12, 3) := by decide +kernel
theorem dqX_init_15 : decode cqX_init 15 = .ok (.aload_n 0, 1) := by decide +kernel
theorem dqX_init_16 : decode cqX_init 16 = .ok (.new 16, 3) := by decide +kernel
theorem dqX_init_19 : decode cqX_init 19 = .ok (.dup, 1) := by decide +kernel
theorem dqX_init_20 : decode cqX_init 20 = .ok (.invokespecial 18, 3) := by decide +kernel
theorem dqX_init_23 : decode cqX_init 23 = .ok (.putfield 19, 3) := by decide +kernel
theorem dqX_init_26 : decode cqX_init 26 = .ok (.aload_n 0, 1) := by decide +kernel
theorem dqX_init_27 : decode cqX_init 27 = .ok (.new 23, 3) := by decide +kernel
theorem dqX_init_30 : decode cqX_init 30 = .ok (.dup, 1) := by decide +kernel
theorem dqX_init_31 : decode cqX_init 31 = .ok (.invokespecial 25, 3) := by decide +kernel
theorem dqX_init_34 : decode cqX_init 34 = .ok (.putfield 26, 3) := by decide +kernel
theorem dqX_init_37 : decode cqX_init 37 = .ok (.aload_n 0, 1) := by decide +kernel
theorem dqX_init_38 : decode cqX_init 38 = .ok (.new 30, 3) := by decide +kernel
theorem dqX_init_41 : decode cqX_init 41 = .ok (.dup, 1) := by decide +kernel
theorem dqX_init_42 : decode cqX_init 42 = .ok (.invokespecial 32, 3) := by decide +kernel
theorem dqX_init_45 : decode cqX_init 45 = .ok (.putfield 33, 3) := by decide +kernel
theorem dqX_init_48 : decode cqX_init 48 = .ok (.aload_n 0, 1) := by decide +kernel
theorem dqX_init_49 : decode cqX_init 49 = .ok (.new 37, 3) := by decide +kernel
theorem dqX_init_52 : decode cqX_init 52 = .ok (.dup, 1) := by decide +kernel
theorem dqX_init_53 : decode cqX_init 53 = .ok (.invokespecial 39, 3) := by decide +kernel
theorem dqX_init_56 : decode cqX_init 56 = .ok (.putfield 40, 3) := by decide +kernel
theorem dqX_init_59 : decode cqX_init 59 = .ok (.aload_n 0, 1) := by decide +kernel
theorem dqX_init_60 : decode cqX_init 60 = .ok (.new 37, 3) := by decide +kernel
theorem dqX_init_63 : decode cqX_init 63 = .ok (.dup, 1) := by decide +kernel
theorem dqX_init_64 : decode cqX_init 64 = .ok (.invokespecial 39, 3) := by decide +kernel
theorem dqX_init_67 : decode cqX_init 67 = .ok (.putfield 44, 3) := by decide +kernel
theorem dqX_init_70 : decode cqX_init 70 = .ok (.aload_n 0, 1) := by decide +kernel
theorem dqX_init_71 : decode cqX_init 71 = .ok (.new 47, 3) := by decide +kernel
theorem dqX_init_74 : decode cqX_init 74 = .ok (.dup, 1) := by decide +kernel
theorem dqX_init_75 : decode cqX_init 75 = .ok (.invokespecial 49, 3) := by decide +kernel
theorem dqX_init_78 : decode cqX_init 78 = .ok (.putfield 50, 3) := by decide +kernel
theorem dqX_init_81 : decode cqX_init 81 = .ok (.aload_n 0, 1) := by decide +kernel
theorem dqX_init_82 : decode cqX_init 82 = .ok (.iconst 0, 1) := by decide +kernel
theorem dqX_init_83 : decode cqX_init 83 = .ok (.putfield 54, 3) := by decide +kernel
theorem dqX_init_86 : decode cqX_init 86 = .ok (.aload_n 0, 1) := by decide +kernel
theorem dqX_init_87 : decode cqX_init 87 = .ok (.iconst 0, 1) := by decide +kernel
theorem dqX_init_88 : decode cqX_init 88 = .ok (.putfield 58, 3) := by decide +kernel
theorem dqX_init_91 : decode cqX_init 91 = .ok (.return_, 1) := by decide +kernel
theorem dqX_table_0 : decode cqX_table 0 = .ok (.iload_n 1, 1) := by decide +kernel
theorem dqX_table_1 : decode cqX_table 1 = .ok (.iconst 0, 1) := by decide +kernel
theorem dqX_table_2 : decode cqX_table 2 = .ok (.bipush 100, 2) := by decide +kernel
theorem dqX_table_4 : decode cqX_table 4 = .ok (.invokestatic 61, 3) := by decide +kernel
theorem dqX_table_7 : decode cqX_table 7 = .ok (.ifCond .eq 13, 3) := by decide +kernel
theorem dqX_table_10 : decode cqX_table 10 = .ok (.iload_n 2, 1) := by decide +kernel
theorem dqX_table_11 : decode cqX_table 11 = .ok (.iconst 0, 1) := by decide +kernel
theorem dqX_table_12 : decode cqX_table 12 = .ok (.bipush 100, 2) := by decide +kernel
theorem dqX_table_14 : decode cqX_table 14 = .ok (.invokestatic 61, 3) := by decide +kernel
theorem dqX_table_17 : decode cqX_table 17 = .ok (.ifCond .ne 6, 3) := by decide +kernel
theorem dqX_table_20 : decode cqX_table 20 = .ok (.bipush (-2), 2) := by decide +kernel
theorem dqX_table_22 : decode cqX_table 22 = .ok (.ireturn, 1) := by decide +kernel
theorem dqX_table_23 : decode cqX_table 23 = .ok (.aload_n 0, 1) := by decide +kernel
theorem dqX_table_24 : decode cqX_table 24 = .ok (.invokevirtual 65, 3) := by decide +kernel
theorem dqX_table_27 : decode cqX_table 27 = .ok (.aload_n 0, 1) := by decide +kernel
theorem dqX_table_28 : decode cqX_table 28 = .ok (.getfield 12, 3) := by decide +kernel
theorem dqX_table_31 : decode cqX_table 31 = .ok (.iload_n 1, 1) := by decide +kernel
theorem dqX_table_32 : decode cqX_table 32 = .ok (.iload_n 2, 1) := by decide +kernel
theorem dqX_table_33 : decode cqX_table 33 = .ok (.invokevirtual 68, 3) := by decide +kernel
theorem dqX_table_36 : decode cqX_table 36 = .ok (.iconst 1, 1) := by decide +kernel
theorem dqX_table_37 : decode cqX_table 37 = .ok (.ireturn, 1) := by decide +kernel
theorem dqX_column_0 : decode cqX_column 0 = .ok (.iload_n 1, 1) := by decide +kernel
theorem dqX_column_1 : decode cqX_column 1 = .ok (.iconst 0, 1) := by decide +kernel
theorem dqX_column_2 : decode cqX_column 2 = .ok (.ldc 72, 2) := by decide +kernel
theorem dqX_column_4 : decode cqX_column 4 = .ok (.invokestatic 61, 3) := by decide +kernel
theorem dqX_column_7 : decode cqX_column 7 = .ok (.ifCond .ne 6, 3) := by decide +kernel
theorem dqX_column_10 : decode cqX_column 10 = .ok (.bipush (-2), 2) := by decide +kernel
theorem dqX_column_12 : decode cqX_column 12 = .ok (.ireturn, 1) := by decide +kernel
theorem dqX_column_13 : decode cqX_column 13 = .ok (.aload_n 0, 1) := by decide +kernel
theorem dqX_column_14 : decode cqX_column 14 = .ok (.getfield 12, 3) := by decide +kernel
theorem dqX_column_17 : decode cqX_column 17 = .ok (.iload_n 1, 1) := by decide +kernel
theorem dqX_column_18 : decode cqX_column 18 = .ok (.invokevirtual 73, 3) := by decide +kernel
theorem dqX_column_21 : decode cqX_column 21 = .ok (.ifCond .ne 6, 3) := by decide +kernel
theorem dqX_column_24 : decode cqX_column 24 = .ok (.bipush (-3), 2) := by decide +kernel
theorem dqX_column_26 : decode cqX_column 26 = .ok (.ireturn, 1) := by decide +kernel
theorem dqX_column_27 : decode cqX_column 27 = .ok (.aload_n 0, 1) := by decide +kernel
theorem dqX_column_28 : decode cqX_column 28 = .ok (.getfield 12, 3) := by decide +kernel
theorem dqX_column_31 : decode cqX_column 31 = .ok (.invokevirtual 77, 3) := by decide +kernel
theorem dqX_column_34 : decode cqX_column 34 = .ok (.ifCond .eq 6, 3) := by decide +kernel
theorem dqX_column_37 : decode cqX_column 37 = .ok (.bipush (-4), 2) := by decide +kernel
theorem dqX_column_39 : decode cqX_column 39 = .ok (.ireturn, 1) := by decide +kernel
theorem dqX_column_40 : decode cqX_column 40 = .ok (.aload_n 0, 1) := by decide +kernel
theorem dqX_column_41 : decode cqX_column 41 = .ok (.invokevirtual 65, 3) := by decide +kernel
theorem dqX_column_44 : decode cqX_column 44 = .ok (.aload_n 0, 1) := by decide +kernel
theorem dqX_column_45 : decode cqX_column 45 = .ok (.getfield 12, 3) := by decide +kernel
theorem dqX_column_48 : decode cqX_column 48 = .ok (.iload_n 1, 1) := by decide +kernel
theorem dqX_column_49 : decode cqX_column 49 = .ok (.invokevirtual 81, 3) := by decide +kernel
theorem dqX_column_52 : decode cqX_column 52 = .ok (.ireturn, 1) := by decide +kernel
theorem dqX_clear_0 : decode cqX_clear 0 = .ok (.aload_n 0, 1) := by decide +kernel
theorem dqX_clear_1 : decode cqX_clear 1 = .ok (.invokevirtual 65, 3) := by decide +kernel
theorem dqX_clear_4 : decode cqX_clear 4 = .ok (.aload_n 0, 1) := by decide +kernel
theorem dqX_clear_5 : decode cqX_clear 5 = .ok (.getfield 19, 3) := by decide +kernel
theorem dqX_clear_8 : decode cqX_clear 8 = .ok (.invokevirtual 85, 3) := by decide +kernel
theorem dqX_clear_11 : decode cqX_clear 11 = .ok (.aload_n 0, 1) := by decide +kernel
theorem dqX_clear_12 : decode cqX_clear 12 = .ok (.getfield 26, 3) := by decide +kernel
theorem dqX_clear_15 : decode cqX_clear 15 = .ok (.invokevirtual 88, 3) := by decide +kernel
theorem dqX_clear_18 : decode cqX_clear 18 = .ok (.aload_n 0, 1) := by decide +kernel
theorem dqX_clear_19 : decode cqX_clear 19 = .ok (.getfield 12, 3) := by decide +kernel
theorem dqX_clear_22 : decode cqX_clear 22 = .ok (.invokevirtual 89, 3) := by decide +kernel
theorem dqX_clear_25 : decode cqX_clear 25 = .ok (.ireturn, 1) := by decide +kernel
theorem dqX_spring_0 : decode cqX_spring 0 = .ok (.iload_n 1, 1) := by decide +kernel
theorem dqX_spring_1 : decode cqX_spring 1 = .ok (.iconst 1, 1) := by decide +kernel
theorem dqX_spring_2 : decode cqX_spring 2 = .ok (.ldc 72, 2) := by decide +kernel
theorem dqX_spring_4 : decode cqX_spring 4 = .ok (.invokestatic 61, 3) := by decide +kernel
theorem dqX_spring_7 : decode cqX_spring 7 = .ok (.ifCond .ne 7, 3) := by decide +kernel
theorem dqX_spring_10 : decode cqX_spring 10 = .ok (.ldc2_w 92, 3) := by decide +kernel
theorem dqX_spring_13 : decode cqX_spring 13 = .ok (.lreturn, 1) := by decide +kernel
theorem dqX_spring_14 : decode cqX_spring 14 = .ok (.aload_n 0, 1) := by decide +kernel
theorem dqX_spring_15 : decode cqX_spring 15 = .ok (.getfield 12, 3) := by decide +kernel
theorem dqX_spring_18 : decode cqX_spring 18 = .ok (.iload_n 1, 1) := by decide +kernel
theorem dqX_spring_19 : decode cqX_spring 19 = .ok (.invokevirtual 94, 3) := by decide +kernel
theorem dqX_spring_22 : decode cqX_spring 22 = .ok (.lreturn, 1) := by decide +kernel
theorem dqX_least_0 : decode cqX_least 0 = .ok (.aload_n 0, 1) := by decide +kernel
theorem dqX_least_1 : decode cqX_least 1 = .ok (.getfield 12, 3) := by decide +kernel
theorem dqX_least_4 : decode cqX_least 4 = .ok (.iload_n 1, 1) := by decide +kernel
theorem dqX_least_5 : decode cqX_least 5 = .ok (.invokevirtual 98, 3) := by decide +kernel
theorem dqX_least_8 : decode cqX_least 8 = .ok (.ifCond .ne 5, 3) := by decide +kernel
theorem dqX_least_11 : decode cqX_least 11 = .ok (.iconst (-1), 1) := by decide +kernel
theorem dqX_least_12 : decode cqX_least 12 = .ok (.ireturn, 1) := by decide +kernel
theorem dqX_least_13 : decode cqX_least 13 = .ok (.iload_n 2, 1) := by decide +kernel
theorem dqX_least_14 : decode cqX_least 14 = .ok (.iconst 0, 1) := by decide +kernel
theorem dqX_least_15 : decode cqX_least 15 = .ok (.sipush 1000, 3) := by decide +kernel
theorem dqX_least_18 : decode cqX_least 18 = .ok (.invokestatic 61, 3) := by decide +kernel
theorem dqX_least_21 : decode cqX_least 21 = .ok (.ifCond .ne 6, 3) := by decide +kernel
theorem dqX_least_24 : decode cqX_least 24 = .ok (.bipush (-2), 2) := by decide +kernel
theorem dqX_least_26 : decode cqX_least 26 = .ok (.ireturn, 1) := by decide +kernel
theorem dqX_least_27 : decode cqX_least 27 = .ok (.aload_n 0, 1) := by decide +kernel
theorem dqX_least_28 : decode cqX_least 28 = .ok (.invokevirtual 65, 3) := by decide +kernel
theorem dqX_least_31 : decode cqX_least 31 = .ok (.aload_n 0, 1) := by decide +kernel
theorem dqX_least_32 : decode cqX_least 32 = .ok (.getfield 12, 3) := by decide +kernel
theorem dqX_least_35 : decode cqX_least 35 = .ok (.iload_n 1, 1) := by decide +kernel
theorem dqX_least_36 : decode cqX_least 36 = .ok (.iload_n 2, 1) := by decide +kernel
theorem dqX_least_37 : decode cqX_least 37 = .ok (.invokevirtual 101, 3) := by decide +kernel
theorem dqX_least_40 : decode cqX_least 40 = .ok (.ireturn, 1) := by decide +kernel
theorem dqX_item_0 : decode cqX_item 0 = .ok (.iload_n 1, 1) := by decide +kernel
theorem dqX_item_1 : decode cqX_item 1 = .ok (.invokestatic 105, 3) := by decide +kernel
theorem dqX_item_4 : decode cqX_item 4 = .ok (.ifCond .eq 14, 3) := by decide +kernel
theorem dqX_item_7 : decode cqX_item 7 = .ok (.aload_n 0, 1) := by decide +kernel
theorem dqX_item_8 : decode cqX_item 8 = .ok (.getfield 12, 3) := by decide +kernel
theorem dqX_item_11 : decode cqX_item 11 = .ok (.iload_n 2, 1) := by decide +kernel
theorem dqX_item_12 : decode cqX_item 12 = .ok (.invokevirtual 108, 3) := by decide +kernel
theorem dqX_item_15 : decode cqX_item 15 = .ok (.ifCond .ne 5, 3) := by decide +kernel
theorem dqX_item_18 : decode cqX_item 18 = .ok (.iconst (-1), 1) := by decide +kernel
theorem dqX_item_19 : decode cqX_item 19 = .ok (.ireturn, 1) := by decide +kernel
theorem dqX_item_20 : decode cqX_item 20 = .ok (.iload_n 3, 1) := by decide +kernel
theorem dqX_item_21 : decode cqX_item 21 = .ok (.iconst 0, 1) := by decide +kernel
theorem dqX_item_22 : decode cqX_item 22 = .ok (.sipush 500, 3) := by decide +kernel
theorem dqX_item_25 : decode cqX_item 25 = .ok (.invokestatic 61, 3) := by decide +kernel
theorem dqX_item_28 : decode cqX_item 28 = .ok (.ifCond .eq 15, 3) := by decide +kernel
theorem dqX_item_31 : decode cqX_item 31 = .ok (.iload 4, 2) := by decide +kernel
theorem dqX_item_33 : decode cqX_item 33 = .ok (.iconst 0, 1) := by decide +kernel
theorem dqX_item_34 : decode cqX_item 34 = .ok (.sipush 500, 3) := by decide +kernel
theorem dqX_item_37 : decode cqX_item 37 = .ok (.invokestatic 61, 3) := by decide +kernel
theorem dqX_item_40 : decode cqX_item 40 = .ok (.ifCond .ne 6, 3) := by decide +kernel
theorem dqX_item_43 : decode cqX_item 43 = .ok (.bipush (-2), 2) := by decide +kernel
theorem dqX_item_45 : decode cqX_item 45 = .ok (.ireturn, 1) := by decide +kernel
theorem dqX_item_46 : decode cqX_item 46 = .ok (.aload_n 0, 1) := by decide +kernel
theorem dqX_item_47 : decode cqX_item 47 = .ok (.invokevirtual 65, 3) := by decide +kernel
theorem dqX_item_50 : decode cqX_item 50 = .ok (.aload_n 0, 1) := by decide +kernel
theorem dqX_item_51 : decode cqX_item 51 = .ok (.getfield 19, 3) := by decide +kernel
theorem dqX_item_54 : decode cqX_item 54 = .ok (.iload_n 1, 1) := by decide +kernel
theorem dqX_item_55 : decode cqX_item 55 = .ok (.iload_n 2, 1) := by decide +kernel
theorem dqX_item_56 : decode cqX_item 56 = .ok (.iload_n 3, 1) := by decide +kernel
theorem dqX_item_57 : decode cqX_item 57 = .ok (.iload 4, 2) := by decide +kernel
theorem dqX_item_59 : decode cqX_item 59 = .ok (.invokevirtual 111, 3) := by decide +kernel
theorem dqX_item_62 : decode cqX_item 62 = .ok (.ifCond .eq 7, 3) := by decide +kernel
theorem dqX_item_65 : decode cqX_item 65 = .ok (.iconst 0, 1) := by decide +kernel
theorem dqX_item_66 : decode cqX_item 66 = .ok (.goto 4, 3) := by decide +kernel
theorem dqX_item_69 : decode cqX_item 69 = .ok (.iconst 1, 1) := by decide +kernel
theorem dqX_item_70 : decode cqX_item 70 = .ok (.ireturn, 1) := by decide +kernel
theorem dqX_remove_0 : decode cqX_remove 0 = .ok (.iload_n 1, 1) := by decide +kernel
theorem dqX_remove_1 : decode cqX_remove 1 = .ok (.invokestatic 105, 3) := by decide +kernel
theorem dqX_remove_4 : decode cqX_remove 4 = .ok (.ifCond .eq 26, 3) := by decide +kernel
theorem dqX_remove_7 : decode cqX_remove 7 = .ok (.aload_n 0, 1) := by decide +kernel
theorem dqX_remove_8 : decode cqX_remove 8 = .ok (.getfield 12, 3) := by decide +kernel
theorem dqX_remove_11 : decode cqX_remove 11 = .ok (.iload_n 2, 1) := by decide +kernel
theorem dqX_remove_12 : decode cqX_remove 12 = .ok (.invokevirtual 108, 3) := by decide +kernel
theorem dqX_remove_15 : decode cqX_remove 15 = .ok (.ifCond .eq 15, 3) := by decide +kernel
theorem dqX_remove_18 : decode cqX_remove 18 = .ok (.aload_n 0, 1) := by decide +kernel
theorem dqX_remove_19 : decode cqX_remove 19 = .ok (.getfield 19, 3) := by decide +kernel
theorem dqX_remove_22 : decode cqX_remove 22 = .ok (.iload_n 1, 1) := by decide +kernel
theorem dqX_remove_23 : decode cqX_remove 23 = .ok (.iload_n 2, 1) := by decide +kernel
theorem dqX_remove_24 : decode cqX_remove 24 = .ok (.invokevirtual 115, 3) := by decide +kernel
theorem dqX_remove_27 : decode cqX_remove 27 = .ok (.ifCond .ne 5, 3) := by decide +kernel
theorem dqX_remove_30 : decode cqX_remove 30 = .ok (.iconst (-1), 1) := by decide +kernel
theorem dqX_remove_31 : decode cqX_remove 31 = .ok (.ireturn, 1) := by decide +kernel
theorem dqX_remove_32 : decode cqX_remove 32 = .ok (.aload_n 0, 1) := by decide +kernel
theorem dqX_remove_33 : decode cqX_remove 33 = .ok (.invokevirtual 65, 3) := by decide +kernel
theorem dqX_remove_36 : decode cqX_remove 36 = .ok (.aload_n 0, 1) := by decide +kernel
theorem dqX_remove_37 : decode cqX_remove 37 = .ok (.getfield 19, 3) := by decide +kernel
theorem dqX_remove_40 : decode cqX_remove 40 = .ok (.iload_n 1, 1) := by decide +kernel
theorem dqX_remove_41 : decode cqX_remove 41 = .ok (.iload_n 2, 1) := by decide +kernel
theorem dqX_remove_42 : decode cqX_remove 42 = .ok (.invokevirtual 118, 3) := by decide +kernel
theorem dqX_remove_45 : decode cqX_remove 45 = .ok (.iconst 1, 1) := by decide +kernel
theorem dqX_remove_46 : decode cqX_remove 46 = .ok (.ireturn, 1) := by decide +kernel
theorem dqX_rod_0 : decode cqX_rod 0 = .ok (.aload_n 0, 1) := by decide +kernel
theorem dqX_rod_1 : decode cqX_rod 1 = .ok (.getfield 12, 3) := by decide +kernel
theorem dqX_rod_4 : decode cqX_rod 4 = .ok (.iload_n 1, 1) := by decide +kernel
theorem dqX_rod_5 : decode cqX_rod 5 = .ok (.invokevirtual 108, 3) := by decide +kernel
theorem dqX_rod_8 : decode cqX_rod 8 = .ok (.ifCond .eq 14, 3) := by decide +kernel
theorem dqX_rod_11 : decode cqX_rod 11 = .ok (.aload_n 0, 1) := by decide +kernel
theorem dqX_rod_12 : decode cqX_rod 12 = .ok (.getfield 12, 3) := by decide +kernel
theorem dqX_rod_15 : decode cqX_rod 15 = .ok (.iload_n 2, 1) := by decide +kernel
theorem dqX_rod_16 : decode cqX_rod 16 = .ok (.invokevirtual 108, 3) := by decide +kernel
theorem dqX_rod_19 : decode cqX_rod 19 = .ok (.ifCond .ne 5, 3) := by decide +kernel
theorem dqX_rod_22 : decode cqX_rod 22 = .ok (.iconst (-1), 1) := by decide +kernel
theorem dqX_rod_23 : decode cqX_rod 23 = .ok (.ireturn, 1) := by decide +kernel
theorem dqX_rod_24 : decode cqX_rod 24 = .ok (.iload_n 1, 1) := by decide +kernel
theorem dqX_rod_25 : decode cqX_rod 25 = .ok (.iload_n 2, 1) := by decide +kernel
theorem dqX_rod_26 : decode cqX_rod 26 = .ok (.if_icmp .ge 14, 3) := by decide +kernel
theorem dqX_rod_29 : decode cqX_rod 29 = .ok (.iload_n 3, 1) := by decide +kernel
theorem dqX_rod_30 : decode cqX_rod 30 = .ok (.iconst 0, 1) := by decide +kernel
theorem dqX_rod_31 : decode cqX_rod 31 = .ok (.sipush 5000, 3) := by decide +kernel
theorem dqX_rod_34 : decode cqX_rod 34 = .ok (.invokestatic 61, 3) := by decide +kernel
theorem dqX_rod_37 : decode cqX_rod 37 = .ok (.ifCond .ne 6, 3) := by decide +kernel
theorem dqX_rod_40 : decode cqX_rod 40 = .ok (.bipush (-2), 2) := by decide +kernel
theorem dqX_rod_42 : decode cqX_rod 42 = .ok (.ireturn, 1) := by decide +kernel
theorem dqX_rod_43 : decode cqX_rod 43 = .ok (.aload_n 0, 1) := by decide +kernel
theorem dqX_rod_44 : decode cqX_rod 44 = .ok (.getfield 26, 3) := by decide +kernel
theorem dqX_rod_47 : decode cqX_rod 47 = .ok (.invokevirtual 121, 3) := by decide +kernel
theorem dqX_rod_50 : decode cqX_rod 50 = .ok (.ifCond .eq 6, 3) := by decide +kernel
theorem dqX_rod_53 : decode cqX_rod 53 = .ok (.bipush (-4), 2) := by decide +kernel
theorem dqX_rod_55 : decode cqX_rod 55 = .ok (.ireturn, 1) := by decide +kernel
theorem dqX_rod_56 : decode cqX_rod 56 = .ok (.aload_n 0, 1) := by decide +kernel
theorem dqX_rod_57 : decode cqX_rod 57 = .ok (.invokevirtual 65, 3) := by decide +kernel
theorem dqX_rod_60 : decode cqX_rod 60 = .ok (.aload_n 0, 1) := by decide +kernel
theorem dqX_rod_61 : decode cqX_rod 61 = .ok (.getfield 26, 3) := by decide +kernel
theorem dqX_rod_64 : decode cqX_rod 64 = .ok (.iload_n 1, 1) := by decide +kernel
theorem dqX_rod_65 : decode cqX_rod 65 = .ok (.iload_n 2, 1) := by decide +kernel
theorem dqX_rod_66 : decode cqX_rod 66 = .ok (.iload_n 3, 1) := by decide +kernel
theorem dqX_rod_67 : decode cqX_rod 67 = .ok (.invokevirtual 124, 3) := by decide +kernel
theorem dqX_rod_70 : decode cqX_rod 70 = .ok (.ireturn, 1) := by decide +kernel
theorem dqX_drop_0 : decode cqX_drop 0 = .ok (.aload_n 0, 1) := by decide +kernel
theorem dqX_drop_1 : decode cqX_drop 1 = .ok (.getfield 26, 3) := by decide +kernel
theorem dqX_drop_4 : decode cqX_drop 4 = .ok (.iload_n 1, 1) := by decide +kernel
theorem dqX_drop_5 : decode cqX_drop 5 = .ok (.invokevirtual 127, 3) := by decide +kernel
theorem dqX_drop_8 : decode cqX_drop 8 = .ok (.ifCond .ne 5, 3) := by decide +kernel
theorem dqX_drop_11 : decode cqX_drop 11 = .ok (.iconst (-1), 1) := by decide +kernel
theorem dqX_drop_12 : decode cqX_drop 12 = .ok (.ireturn, 1) := by decide +kernel
theorem dqX_drop_13 : decode cqX_drop 13 = .ok (.aload_n 0, 1) := by decide +kernel
theorem dqX_drop_14 : decode cqX_drop 14 = .ok (.invokevirtual 65, 3) := by decide +kernel
theorem dqX_drop_17 : decode cqX_drop 17 = .ok (.aload_n 0, 1) := by decide +kernel
theorem dqX_drop_18 : decode cqX_drop 18 = .ok (.getfield 26, 3) := by decide +kernel
theorem dqX_drop_21 : decode cqX_drop 21 = .ok (.iload_n 1, 1) := by decide +kernel
theorem dqX_drop_22 : decode cqX_drop 22 = .ok (.invokevirtual 128, 3) := by decide +kernel
theorem dqX_drop_25 : decode cqX_drop 25 = .ok (.ireturn, 1) := by decide +kernel
theorem dqX_bar_0 : decode cqX_bar 0 = .ok (.aload_n 0, 1) := by decide +kernel
theorem dqX_bar_1 : decode cqX_bar 1 = .ok (.getfield 12, 3) := by decide +kernel
theorem dqX_bar_4 : decode cqX_bar 4 = .ok (.iload_n 1, 1) := by decide +kernel
theorem dqX_bar_5 : decode cqX_bar 5 = .ok (.invokevirtual 108, 3) := by decide +kernel
theorem dqX_bar_8 : decode cqX_bar 8 = .ok (.ifCond .ne 5, 3) := by decide +kernel
theorem dqX_bar_11 : decode cqX_bar 11 = .ok (.iconst (-1), 1) := by decide +kernel
theorem dqX_bar_12 : decode cqX_bar 12 = .ok (.ireturn, 1) := by decide +kernel
theorem dqX_bar_13 : decode cqX_bar 13 = .ok (.aload_n 0, 1) := by decide +kernel
theorem dqX_bar_14 : decode cqX_bar 14 = .ok (.invokevirtual 65, 3) := by decide +kernel
theorem dqX_bar_17 : decode cqX_bar 17 = .ok (.aload_n 0, 1) := by decide +kernel
theorem dqX_bar_18 : decode cqX_bar 18 = .ok (.getfield 12, 3) := by decide +kernel
theorem dqX_bar_21 : decode cqX_bar 21 = .ok (.iload_n 1, 1) := by decide +kernel
theorem dqX_bar_22 : decode cqX_bar 22 = .ok (.iload_n 2, 1) := by decide +kernel
theorem dqX_bar_23 : decode cqX_bar 23 = .ok (.invokevirtual 130, 3) := by decide +kernel
theorem dqX_bar_26 : decode cqX_bar 26 = .ok (.ifCond .eq 7, 3) := by decide +kernel
theorem dqX_bar_29 : decode cqX_bar 29 = .ok (.iconst 1, 1) := by decide +kernel
theorem dqX_bar_30 : decode cqX_bar 30 = .ok (.goto 4, 3) := by decide +kernel
theorem dqX_bar_33 : decode cqX_bar 33 = .ok (.iconst 0, 1) := by decide +kernel
theorem dqX_bar_34 : decode cqX_bar 34 = .ok (.ireturn, 1) := by decide +kernel
theorem dqX_run_0 : decode cqX_run 0 = .ok (.iload_n 1, 1) := by decide +kernel
theorem dqX_run_1 : decode cqX_run 1 = .ok (.invokestatic 134, 3) := by decide +kernel
theorem dqX_run_4 : decode cqX_run 4 = .ok (.ifCond .ne 6, 3) := by decide +kernel
theorem dqX_run_7 : decode cqX_run 7 = .ok (.bipush (-2), 2) := by decide +kernel
theorem dqX_run_9 : decode cqX_run 9 = .ok (.ireturn, 1) := by decide +kernel
theorem dqX_run_10 : decode cqX_run 10 = .ok (.aload_n 0, 1) := by decide +kernel
theorem dqX_run_11 : decode cqX_run 11 = .ok (.getfield 12, 3) := by decide +kernel
theorem dqX_run_14 : decode cqX_run 14 = .ok (.iconst 0, 1) := by decide +kernel
theorem dqX_run_15 : decode cqX_run 15 = .ok (.invokevirtual 98, 3) := by decide +kernel
theorem dqX_run_18 : decode cqX_run 18 = .ok (.ifCond .ne 6, 3) := by decide +kernel
theorem dqX_run_21 : decode cqX_run 21 = .ok (.bipush (-3), 2) := by decide +kernel
theorem dqX_run_23 : decode cqX_run 23 = .ok (.ireturn, 1) := by decide +kernel
theorem dqX_run_24 : decode cqX_run 24 = .ok (.aload_n 0, 1) := by decide +kernel
theorem dqX_run_25 : decode cqX_run 25 = .ok (.iconst 0, 1) := by decide +kernel
theorem dqX_run_26 : decode cqX_run 26 = .ok (.aload_n 0, 1) := by decide +kernel
theorem dqX_run_27 : decode cqX_run 27 = .ok (.getfield 12, 3) := by decide +kernel
theorem dqX_run_30 : decode cqX_run 30 = .ok (.invokevirtual 137, 3) := by decide +kernel
theorem dqX_run_33 : decode cqX_run 33 = .ok (.iload_n 1, 1) := by decide +kernel
theorem dqX_run_34 : decode cqX_run 34 = .ok (.invokevirtual 140, 3) := by decide +kernel
theorem dqX_run_37 : decode cqX_run 37 = .ok (.ireturn, 1) := by decide +kernel
theorem dqX_line_0 : decode cqX_line 0 = .ok (.aload_n 0, 1) := by decide +kernel
theorem dqX_line_1 : decode cqX_line 1 = .ok (.getfield 12, 3) := by decide +kernel
theorem dqX_line_4 : decode cqX_line 4 = .ok (.iload_n 1, 1) := by decide +kernel
theorem dqX_line_5 : decode cqX_line 5 = .ok (.invokevirtual 108, 3) := by decide +kernel
theorem dqX_line_8 : decode cqX_line 8 = .ok (.ifCond .eq 14, 3) := by decide +kernel
theorem dqX_line_11 : decode cqX_line 11 = .ok (.aload_n 0, 1) := by decide +kernel
theorem dqX_line_12 : decode cqX_line 12 = .ok (.getfield 12, 3) := by decide +kernel
theorem dqX_line_15 : decode cqX_line 15 = .ok (.iload_n 2, 1) := by decide +kernel
theorem dqX_line_16 : decode cqX_line 16 = .ok (.invokevirtual 108, 3) := by decide +kernel
theorem dqX_line_19 : decode cqX_line 19 = .ok (.ifCond .ne 5, 3) := by decide +kernel
theorem dqX_line_22 : decode cqX_line 22 = .ok (.iconst (-1), 1) := by decide +kernel
theorem dqX_line_23 : decode cqX_line 23 = .ok (.ireturn, 1) := by decide +kernel
theorem dqX_line_24 : decode cqX_line 24 = .ok (.iload_n 1, 1) := by decide +kernel
theorem dqX_line_25 : decode cqX_line 25 = .ok (.iload_n 2, 1) := by decide +kernel
theorem dqX_line_26 : decode cqX_line 26 = .ok (.if_icmp .ge 10, 3) := by decide +kernel
theorem dqX_line_29 : decode cqX_line 29 = .ok (.iload_n 3, 1) := by decide +kernel
theorem dqX_line_30 : decode cqX_line 30 = .ok (.invokestatic 134, 3) := by decide +kernel
theorem dqX_line_33 : decode cqX_line 33 = .ok (.ifCond .ne 6, 3) := by decide +kernel
theorem dqX_line_36 : decode cqX_line 36 = .ok (.bipush (-2), 2) := by decide +kernel
theorem dqX_line_38 : decode cqX_line 38 = .ok (.ireturn, 1) := by decide +kernel
theorem dqX_line_39 : decode cqX_line 39 = .ok (.aload_n 0, 1) := by decide +kernel
theorem dqX_line_40 : decode cqX_line 40 = .ok (.iload_n 1, 1) := by decide +kernel
theorem dqX_line_41 : decode cqX_line 41 = .ok (.iload_n 2, 1) := by decide +kernel
theorem dqX_line_42 : decode cqX_line 42 = .ok (.iload_n 3, 1) := by decide +kernel
theorem dqX_line_43 : decode cqX_line 43 = .ok (.invokevirtual 140, 3) := by decide +kernel
theorem dqX_line_46 : decode cqX_line 46 = .ok (.ireturn, 1) := by decide +kernel
theorem dqX_over_0 : decode cqX_over 0 = .ok (.aload_n 0, 1) := by decide +kernel
theorem dqX_over_1 : decode cqX_over 1 = .ok (.getfield 54, 3) := by decide +kernel
theorem dqX_over_4 : decode cqX_over 4 = .ok (.ifCond .ne 6, 3) := by decide +kernel
theorem dqX_over_7 : decode cqX_over 7 = .ok (.bipush (-3), 2) := by decide +kernel
theorem dqX_over_9 : decode cqX_over 9 = .ok (.ireturn, 1) := by decide +kernel
theorem dqX_over_10 : decode cqX_over 10 = .ok (.aload_n 0, 1) := by decide +kernel
theorem dqX_over_11 : decode cqX_over 11 = .ok (.getfield 40, 3) := by decide +kernel
theorem dqX_over_14 : decode cqX_over 14 = .ok (.invokevirtual 143, 3) := by decide +kernel
theorem dqX_over_17 : decode cqX_over 17 = .ok (.ireturn, 1) := by decide +kernel
theorem dqX_force_0 : decode cqX_force 0 = .ok (.iload_n 1, 1) := by decide +kernel
theorem dqX_force_1 : decode cqX_force 1 = .ok (.invokestatic 146, 3) := by decide +kernel
theorem dqX_force_4 : decode cqX_force 4 = .ok (.ifCond .ne 7, 3) := by decide +kernel
theorem dqX_force_7 : decode cqX_force 7 = .ok (.ldc2_w 92, 3) := by decide +kernel
theorem dqX_force_10 : decode cqX_force 10 = .ok (.lreturn, 1) := by decide +kernel
theorem dqX_force_11 : decode cqX_force 11 = .ok (.aload_n 0, 1) := by decide +kernel
theorem dqX_force_12 : decode cqX_force 12 = .ok (.getfield 54, 3) := by decide +kernel
theorem dqX_force_15 : decode cqX_force 15 = .ok (.ifCond .ne 7, 3) := by decide +kernel
theorem dqX_force_18 : decode cqX_force 18 = .ok (.ldc2_w 149, 3) := by decide +kernel
theorem dqX_force_21 : decode cqX_force 21 = .ok (.lreturn, 1) := by decide +kernel
theorem dqX_force_22 : decode cqX_force 22 = .ok (.aload_n 0, 1) := by decide +kernel
theorem dqX_force_23 : decode cqX_force 23 = .ok (.getfield 40, 3) := by decide +kernel
theorem dqX_force_26 : decode cqX_force 26 = .ok (.iload_n 1, 1) := by decide +kernel
theorem dqX_force_27 : decode cqX_force 27 = .ok (.invokevirtual 151, 3) := by decide +kernel
theorem dqX_force_30 : decode cqX_force 30 = .ok (.lreturn, 1) := by decide +kernel
theorem dqX_width_0 : decode cqX_width 0 = .ok (.aload_n 0, 1) := by decide +kernel
theorem dqX_width_1 : decode cqX_width 1 = .ok (.getfield 54, 3) := by decide +kernel
theorem dqX_width_4 : decode cqX_width 4 = .ok (.ifCond .ne 7, 3) := by decide +kernel
theorem dqX_width_7 : decode cqX_width 7 = .ok (.ldc2_w 149, 3) := by decide +kernel
theorem dqX_width_10 : decode cqX_width 10 = .ok (.lreturn, 1) := by decide +kernel
theorem dqX_width_11 : decode cqX_width 11 = .ok (.aload_n 0, 1) := by decide +kernel
theorem dqX_width_12 : decode cqX_width 12 = .ok (.getfield 40, 3) := by decide +kernel
theorem dqX_width_15 : decode cqX_width 15 = .ok (.iload_n 1, 1) := by decide +kernel
theorem dqX_width_16 : decode cqX_width 16 = .ok (.invokevirtual 154, 3) := by decide +kernel
theorem dqX_width_19 : decode cqX_width 19 = .ok (.ifCond .ne 7, 3) := by decide +kernel
theorem dqX_width_22 : decode cqX_width 22 = .ok (.ldc2_w 157, 3) := by decide +kernel
theorem dqX_width_25 : decode cqX_width 25 = .ok (.lreturn, 1) := by decide +kernel
theorem dqX_width_26 : decode cqX_width 26 = .ok (.iload_n 2, 1) := by decide +kernel
theorem dqX_width_27 : decode cqX_width 27 = .ok (.invokestatic 146, 3) := by decide +kernel
theorem dqX_width_30 : decode cqX_width 30 = .ok (.ifCond .ne 7, 3) := by decide +kernel
theorem dqX_width_33 : decode cqX_width 33 = .ok (.ldc2_w 92, 3) := by decide +kernel
theorem dqX_width_36 : decode cqX_width 36 = .ok (.lreturn, 1) := by decide +kernel
theorem dqX_width_37 : decode cqX_width 37 = .ok (.aload_n 0, 1) := by decide +kernel
theorem dqX_width_38 : decode cqX_width 38 = .ok (.getfield 40, 3) := by decide +kernel
theorem dqX_width_41 : decode cqX_width 41 = .ok (.iload_n 1, 1) := by decide +kernel
theorem dqX_width_42 : decode cqX_width 42 = .ok (.iload_n 2, 1) := by decide +kernel
theorem dqX_width_43 : decode cqX_width 43 = .ok (.invokevirtual 159, 3) := by decide +kernel
theorem dqX_width_46 : decode cqX_width 46 = .ok (.lreturn, 1) := by decide +kernel
theorem dqX_settled_0 : decode cqX_settled 0 = .ok (.aload_n 0, 1) := by decide +kernel
theorem dqX_settled_1 : decode cqX_settled 1 = .ok (.getfield 54, 3) := by decide +kernel
theorem dqX_settled_4 : decode cqX_settled 4 = .ok (.ifCond .ne 6, 3) := by decide +kernel
theorem dqX_settled_7 : decode cqX_settled 7 = .ok (.bipush (-3), 2) := by decide +kernel
theorem dqX_settled_9 : decode cqX_settled 9 = .ok (.ireturn, 1) := by decide +kernel
theorem dqX_settled_10 : decode cqX_settled 10 = .ok (.aload_n 0, 1) := by decide +kernel
theorem dqX_settled_11 : decode cqX_settled 11 = .ok (.getfield 40, 3) := by decide +kernel
theorem dqX_settled_14 : decode cqX_settled 14 = .ok (.iload_n 1, 1) := by decide +kernel
theorem dqX_settled_15 : decode cqX_settled 15 = .ok (.invokevirtual 154, 3) := by decide +kernel
theorem dqX_settled_18 : decode cqX_settled 18 = .ok (.ifCond .ne 5, 3) := by decide +kernel
theorem dqX_settled_21 : decode cqX_settled 21 = .ok (.iconst (-1), 1) := by decide +kernel
theorem dqX_settled_22 : decode cqX_settled 22 = .ok (.ireturn, 1) := by decide +kernel
theorem dqX_settled_23 : decode cqX_settled 23 = .ok (.aload_n 0, 1) := by decide +kernel
theorem dqX_settled_24 : decode cqX_settled 24 = .ok (.getfield 40, 3) := by decide +kernel
theorem dqX_settled_27 : decode cqX_settled 27 = .ok (.iload_n 1, 1) := by decide +kernel
theorem dqX_settled_28 : decode cqX_settled 28 = .ok (.invokevirtual 163, 3) := by decide +kernel
theorem dqX_settled_31 : decode cqX_settled 31 = .ok (.ireturn, 1) := by decide +kernel
theorem dqX_place_0 : decode cqX_place 0 = .ok (.aload_n 0, 1) := by decide +kernel
theorem dqX_place_1 : decode cqX_place 1 = .ok (.getfield 54, 3) := by decide +kernel
theorem dqX_place_4 : decode cqX_place 4 = .ok (.ifCond .ne 6, 3) := by decide +kernel
theorem dqX_place_7 : decode cqX_place 7 = .ok (.bipush (-3), 2) := by decide +kernel
theorem dqX_place_9 : decode cqX_place 9 = .ok (.ireturn, 1) := by decide +kernel
theorem dqX_place_10 : decode cqX_place 10 = .ok (.aload_n 0, 1) := by decide +kernel
theorem dqX_place_11 : decode cqX_place 11 = .ok (.getfield 40, 3) := by decide +kernel
theorem dqX_place_14 : decode cqX_place 14 = .ok (.iload_n 1, 1) := by decide +kernel
theorem dqX_place_15 : decode cqX_place 15 = .ok (.invokevirtual 166, 3) := by decide +kernel
theorem dqX_place_18 : decode cqX_place 18 = .ok (.ifCond .ne 5, 3) := by decide +kernel
theorem dqX_place_21 : decode cqX_place 21 = .ok (.iconst (-1), 1) := by decide +kernel
theorem dqX_place_22 : decode cqX_place 22 = .ok (.ireturn, 1) := by decide +kernel
theorem dqX_place_23 : decode cqX_place 23 = .ok (.aload_n 0, 1) := by decide +kernel
theorem dqX_place_24 : decode cqX_place 24 = .ok (.getfield 40, 3) := by decide +kernel
theorem dqX_place_27 : decode cqX_place 27 = .ok (.iload_n 1, 1) := by decide +kernel
theorem dqX_place_28 : decode cqX_place 28 = .ok (.invokevirtual 169, 3) := by decide +kernel
theorem dqX_place_31 : decode cqX_place 31 = .ok (.ireturn, 1) := by decide +kernel
theorem dqX_level_0 : decode cqX_level 0 = .ok (.aload_n 0, 1) := by decide +kernel
theorem dqX_level_1 : decode cqX_level 1 = .ok (.getfield 54, 3) := by decide +kernel
theorem dqX_level_4 : decode cqX_level 4 = .ok (.ifCond .ne 6, 3) := by decide +kernel
theorem dqX_level_7 : decode cqX_level 7 = .ok (.bipush (-3), 2) := by decide +kernel
theorem dqX_level_9 : decode cqX_level 9 = .ok (.ireturn, 1) := by decide +kernel
theorem dqX_level_10 : decode cqX_level 10 = .ok (.aload_n 0, 1) := by decide +kernel
theorem dqX_level_11 : decode cqX_level 11 = .ok (.getfield 40, 3) := by decide +kernel
theorem dqX_level_14 : decode cqX_level 14 = .ok (.aload_n 0, 1) := by decide +kernel
theorem dqX_level_15 : decode cqX_level 15 = .ok (.getfield 12, 3) := by decide +kernel
theorem dqX_level_18 : decode cqX_level 18 = .ok (.iload_n 1, 1) := by decide +kernel
theorem dqX_level_19 : decode cqX_level 19 = .ok (.invokevirtual 172, 3) := by decide +kernel
theorem dqX_level_22 : decode cqX_level 22 = .ok (.ifCond .ne 6, 3) := by decide +kernel
theorem dqX_level_25 : decode cqX_level 25 = .ok (.bipush (-2), 2) := by decide +kernel
theorem dqX_level_27 : decode cqX_level 27 = .ok (.ireturn, 1) := by decide +kernel
theorem dqX_level_28 : decode cqX_level 28 = .ok (.aload_n 0, 1) := by decide +kernel
theorem dqX_level_29 : decode cqX_level 29 = .ok (.getfield 40, 3) := by decide +kernel
theorem dqX_level_32 : decode cqX_level 32 = .ok (.aload_n 0, 1) := by decide +kernel
theorem dqX_level_33 : decode cqX_level 33 = .ok (.getfield 12, 3) := by decide +kernel
theorem dqX_level_36 : decode cqX_level 36 = .ok (.iload_n 1, 1) := by decide +kernel
theorem dqX_level_37 : decode cqX_level 37 = .ok (.invokevirtual 176, 3) := by decide +kernel
theorem dqX_level_40 : decode cqX_level 40 = .ok (.ireturn, 1) := by decide +kernel
theorem dqX_lines_0 : decode cqX_lines 0 = .ok (.iload_n 1, 1) := by decide +kernel
theorem dqX_lines_1 : decode cqX_lines 1 = .ok (.invokestatic 134, 3) := by decide +kernel
theorem dqX_lines_4 : decode cqX_lines 4 = .ok (.ifCond .ne 6, 3) := by decide +kernel
theorem dqX_lines_7 : decode cqX_lines 7 = .ok (.bipush (-2), 2) := by decide +kernel
theorem dqX_lines_9 : decode cqX_lines 9 = .ok (.ireturn, 1) := by decide +kernel
theorem dqX_lines_10 : decode cqX_lines 10 = .ok (.aload_n 0, 1) := by decide +kernel
theorem dqX_lines_11 : decode cqX_lines 11 = .ok (.getfield 12, 3) := by decide +kernel
theorem dqX_lines_14 : decode cqX_lines 14 = .ok (.iconst 0, 1) := by decide +kernel
theorem dqX_lines_15 : decode cqX_lines 15 = .ok (.invokevirtual 98, 3) := by decide +kernel
theorem dqX_lines_18 : decode cqX_lines 18 = .ok (.ifCond .ne 6, 3) := by decide +kernel
theorem dqX_lines_21 : decode cqX_lines 21 = .ok (.bipush (-3), 2) := by decide +kernel
theorem dqX_lines_23 : decode cqX_lines 23 = .ok (.ireturn, 1) := by decide +kernel
theorem dqX_lines_24 : decode cqX_lines 24 = .ok (.aload_n 0, 1) := by decide +kernel
theorem dqX_lines_25 : decode cqX_lines 25 = .ok (.getfield 33, 3) := by decide +kernel
theorem dqX_lines_28 : decode cqX_lines 28 = .ok (.aload_n 0, 1) := by decide +kernel
theorem dqX_lines_29 : decode cqX_lines 29 = .ok (.getfield 19, 3) := by decide +kernel
theorem dqX_lines_32 : decode cqX_lines 32 = .ok (.aload_n 0, 1) := by decide +kernel
theorem dqX_lines_33 : decode cqX_lines 33 = .ok (.getfield 26, 3) := by decide +kernel
theorem dqX_lines_36 : decode cqX_lines 36 = .ok (.aload_n 0, 1) := by decide +kernel
theorem dqX_lines_37 : decode cqX_lines 37 = .ok (.getfield 12, 3) := by decide +kernel
theorem dqX_lines_40 : decode cqX_lines 40 = .ok (.invokevirtual 180, 3) := by decide +kernel
theorem dqX_lines_43 : decode cqX_lines 43 = .ok (.invokevirtual 183, 3) := by decide +kernel
theorem dqX_lines_46 : decode cqX_lines 46 = .ok (.aload_n 0, 1) := by decide +kernel
theorem dqX_lines_47 : decode cqX_lines 47 = .ok (.getfield 50, 3) := by decide +kernel
theorem dqX_lines_50 : decode cqX_lines 50 = .ok (.aload_n 0, 1) := by decide +kernel
theorem dqX_lines_51 : decode cqX_lines 51 = .ok (.getfield 12, 3) := by decide +kernel
theorem dqX_lines_54 : decode cqX_lines 54 = .ok (.aload_n 0, 1) := by decide +kernel
theorem dqX_lines_55 : decode cqX_lines 55 = .ok (.getfield 33, 3) := by decide +kernel
theorem dqX_lines_58 : decode cqX_lines 58 = .ok (.aload_n 0, 1) := by decide +kernel
theorem dqX_lines_59 : decode cqX_lines 59 = .ok (.getfield 44, 3) := by decide +kernel
theorem dqX_lines_62 : decode cqX_lines 62 = .ok (.iload_n 1, 1) := by decide +kernel
theorem dqX_lines_63 : decode cqX_lines 63 = .ok (.invokevirtual 187, 3) := by decide +kernel
theorem dqX_lines_66 : decode cqX_lines 66 = .ok (.aload_n 0, 1) := by decide +kernel
theorem dqX_lines_67 : decode cqX_lines 67 = .ok (.iconst 1, 1) := by decide +kernel
theorem dqX_lines_68 : decode cqX_lines 68 = .ok (.putfield 58, 3) := by decide +kernel
theorem dqX_lines_71 : decode cqX_lines 71 = .ok (.aload_n 0, 1) := by decide +kernel
theorem dqX_lines_72 : decode cqX_lines 72 = .ok (.getfield 50, 3) := by decide +kernel
theorem dqX_lines_75 : decode cqX_lines 75 = .ok (.invokevirtual 191, 3) := by decide +kernel
theorem dqX_lines_78 : decode cqX_lines 78 = .ok (.ireturn, 1) := by decide +kernel
theorem dqX_begin_0 : decode cqX_begin 0 = .ok (.aload_n 0, 1) := by decide +kernel
theorem dqX_begin_1 : decode cqX_begin 1 = .ok (.getfield 58, 3) := by decide +kernel
theorem dqX_begin_4 : decode cqX_begin 4 = .ok (.ifCond .ne 6, 3) := by decide +kernel
theorem dqX_begin_7 : decode cqX_begin 7 = .ok (.bipush (-3), 2) := by decide +kernel
theorem dqX_begin_9 : decode cqX_begin 9 = .ok (.ireturn, 1) := by decide +kernel
theorem dqX_begin_10 : decode cqX_begin 10 = .ok (.iload_n 1, 1) := by decide +kernel
theorem dqX_begin_11 : decode cqX_begin 11 = .ok (.iconst 0, 1) := by decide +kernel
theorem dqX_begin_12 : decode cqX_begin 12 = .ok (.aload_n 0, 1) := by decide +kernel
theorem dqX_begin_13 : decode cqX_begin 13 = .ok (.getfield 50, 3) := by decide +kernel
theorem dqX_begin_16 : decode cqX_begin 16 = .ok (.invokevirtual 191, 3) := by decide +kernel
theorem dqX_begin_19 : decode cqX_begin 19 = .ok (.invokestatic 61, 3) := by decide +kernel
theorem dqX_begin_22 : decode cqX_begin 22 = .ok (.ifCond .ne 5, 3) := by decide +kernel
theorem dqX_begin_25 : decode cqX_begin 25 = .ok (.iconst (-1), 1) := by decide +kernel
theorem dqX_begin_26 : decode cqX_begin 26 = .ok (.ireturn, 1) := by decide +kernel
theorem dqX_begin_27 : decode cqX_begin 27 = .ok (.aload_n 0, 1) := by decide +kernel
theorem dqX_begin_28 : decode cqX_begin 28 = .ok (.getfield 50, 3) := by decide +kernel
theorem dqX_begin_31 : decode cqX_begin 31 = .ok (.iload_n 1, 1) := by decide +kernel
theorem dqX_begin_32 : decode cqX_begin 32 = .ok (.invokevirtual 192, 3) := by decide +kernel
theorem dqX_begin_35 : decode cqX_begin 35 = .ok (.ireturn, 1) := by decide +kernel
theorem dqX_cost_0 : decode cqX_cost 0 = .ok (.aload_n 0, 1) := by decide +kernel
theorem dqX_cost_1 : decode cqX_cost 1 = .ok (.getfield 58, 3) := by decide +kernel
theorem dqX_cost_4 : decode cqX_cost 4 = .ok (.ifCond .ne 7, 3) := by decide +kernel
theorem dqX_cost_7 : decode cqX_cost 7 = .ok (.ldc2_w 149, 3) := by decide +kernel
theorem dqX_cost_10 : decode cqX_cost 10 = .ok (.lreturn, 1) := by decide +kernel
theorem dqX_cost_11 : decode cqX_cost 11 = .ok (.aload_n 0, 1) := by decide +kernel
theorem dqX_cost_12 : decode cqX_cost 12 = .ok (.getfield 50, 3) := by decide +kernel
theorem dqX_cost_15 : decode cqX_cost 15 = .ok (.invokevirtual 195, 3) := by decide +kernel
theorem dqX_cost_18 : decode cqX_cost 18 = .ok (.lreturn, 1) := by decide +kernel
theorem dqX_natural_0 : decode cqX_natural 0 = .ok (.aload_n 0, 1) := by decide +kernel
theorem dqX_natural_1 : decode cqX_natural 1 = .ok (.getfield 12, 3) := by decide +kernel
theorem dqX_natural_4 : decode cqX_natural 4 = .ok (.iload_n 1, 1) := by decide +kernel
theorem dqX_natural_5 : decode cqX_natural 5 = .ok (.invokevirtual 108, 3) := by decide +kernel
theorem dqX_natural_8 : decode cqX_natural 8 = .ok (.ifCond .eq 14, 3) := by decide +kernel
theorem dqX_natural_11 : decode cqX_natural 11 = .ok (.aload_n 0, 1) := by decide +kernel
theorem dqX_natural_12 : decode cqX_natural 12 = .ok (.getfield 12, 3) := by decide +kernel
theorem dqX_natural_15 : decode cqX_natural 15 = .ok (.iload_n 2, 1) := by decide +kernel
theorem dqX_natural_16 : decode cqX_natural 16 = .ok (.invokevirtual 108, 3) := by decide +kernel
theorem dqX_natural_19 : decode cqX_natural 19 = .ok (.ifCond .ne 5, 3) := by decide +kernel
theorem dqX_natural_22 : decode cqX_natural 22 = .ok (.iconst (-1), 1) := by decide +kernel
theorem dqX_natural_23 : decode cqX_natural 23 = .ok (.ireturn, 1) := by decide +kernel
theorem dqX_natural_24 : decode cqX_natural 24 = .ok (.iload_n 1, 1) := by decide +kernel
theorem dqX_natural_25 : decode cqX_natural 25 = .ok (.iload_n 2, 1) := by decide +kernel
theorem dqX_natural_26 : decode cqX_natural 26 = .ok (.if_icmp .lt 6, 3) := by decide +kernel
theorem dqX_natural_29 : decode cqX_natural 29 = .ok (.bipush (-2), 2) := by decide +kernel
theorem dqX_natural_31 : decode cqX_natural 31 = .ok (.ireturn, 1) := by decide +kernel
theorem dqX_natural_32 : decode cqX_natural 32 = .ok (.aload_n 0, 1) := by decide +kernel
theorem dqX_natural_33 : decode cqX_natural 33 = .ok (.getfield 33, 3) := by decide +kernel
theorem dqX_natural_36 : decode cqX_natural 36 = .ok (.aload_n 0, 1) := by decide +kernel
theorem dqX_natural_37 : decode cqX_natural 37 = .ok (.getfield 19, 3) := by decide +kernel
theorem dqX_natural_40 : decode cqX_natural 40 = .ok (.aload_n 0, 1) := by decide +kernel
theorem dqX_natural_41 : decode cqX_natural 41 = .ok (.getfield 26, 3) := by decide +kernel
theorem dqX_natural_44 : decode cqX_natural 44 = .ok (.aload_n 0, 1) := by decide +kernel
theorem dqX_natural_45 : decode cqX_natural 45 = .ok (.getfield 12, 3) := by decide +kernel
theorem dqX_natural_48 : decode cqX_natural 48 = .ok (.invokevirtual 180, 3) := by decide +kernel
theorem dqX_natural_51 : decode cqX_natural 51 = .ok (.invokevirtual 183, 3) := by decide +kernel
theorem dqX_natural_54 : decode cqX_natural 54 = .ok (.aload_n 0, 1) := by decide +kernel
theorem dqX_natural_55 : decode cqX_natural 55 = .ok (.getfield 44, 3) := by decide +kernel
theorem dqX_natural_58 : decode cqX_natural 58 = .ok (.aload_n 0, 1) := by decide +kernel
theorem dqX_natural_59 : decode cqX_natural 59 = .ok (.getfield 12, 3) := by decide +kernel
theorem dqX_natural_62 : decode cqX_natural 62 = .ok (.aload_n 0, 1) := by decide +kernel
theorem dqX_natural_63 : decode cqX_natural 63 = .ok (.getfield 33, 3) := by decide +kernel
theorem dqX_natural_66 : decode cqX_natural 66 = .ok (.iload_n 1, 1) := by decide +kernel
theorem dqX_natural_67 : decode cqX_natural 67 = .ok (.iload_n 2, 1) := by decide +kernel
theorem dqX_natural_68 : decode cqX_natural 68 = .ok (.invokevirtual 199, 3) := by decide +kernel
theorem dqX_natural_71 : decode cqX_natural 71 = .ok (.aload_n 0, 1) := by decide +kernel
theorem dqX_natural_72 : decode cqX_natural 72 = .ok (.getfield 44, 3) := by decide +kernel
theorem dqX_natural_75 : decode cqX_natural 75 = .ok (.invokevirtual 203, 3) := by decide +kernel
theorem dqX_natural_78 : decode cqX_natural 78 = .ok (.l2i, 1) := by decide +kernel
theorem dqX_natural_79 : decode cqX_natural 79 = .ok (.ireturn, 1) := by decide +kernel
theorem dqX_takeInHand_0 : decode cqX_takeInHand 0 = .ok (.aload_n 0, 1) := by decide +kernel
theorem dqX_takeInHand_1 : decode cqX_takeInHand 1 = .ok (.getfield 33, 3) := by decide +kernel
theorem dqX_takeInHand_4 : decode cqX_takeInHand 4 = .ok (.aload_n 0, 1) := by decide +kernel
theorem dqX_takeInHand_5 : decode cqX_takeInHand 5 = .ok (.getfield 19, 3) := by decide +kernel
theorem dqX_takeInHand_8 : decode cqX_takeInHand 8 = .ok (.aload_n 0, 1) := by decide +kernel
theorem dqX_takeInHand_9 : decode cqX_takeInHand 9 = .ok (.getfield 26, 3) := by decide +kernel
theorem dqX_takeInHand_12 : decode cqX_takeInHand 12 = .ok (.aload_n 0, 1) := by decide +kernel
theorem dqX_takeInHand_13 : decode cqX_takeInHand 13 = .ok (.getfield 12, 3) := by decide +kernel
theorem dqX_takeInHand_16 : decode cqX_takeInHand 16 = .ok (.invokevirtual 180, 3) := by decide +kernel
theorem dqX_takeInHand_19 : decode cqX_takeInHand 19 = .ok (.invokevirtual 183, 3) := by decide +kernel
theorem dqX_takeInHand_22 : decode cqX_takeInHand 22 = .ok (.aload_n 0, 1) := by decide +kernel
theorem dqX_takeInHand_23 : decode cqX_takeInHand 23 = .ok (.getfield 40, 3) := by decide +kernel
theorem dqX_takeInHand_26 : decode cqX_takeInHand 26 = .ok (.aload_n 0, 1) := by decide +kernel
theorem dqX_takeInHand_27 : decode cqX_takeInHand 27 = .ok (.getfield 12, 3) := by decide +kernel
theorem dqX_takeInHand_30 : decode cqX_takeInHand 30 = .ok (.aload_n 0, 1) := by decide +kernel
theorem dqX_takeInHand_31 : decode cqX_takeInHand 31 = .ok (.getfield 33, 3) := by decide +kernel
theorem dqX_takeInHand_34 : decode cqX_takeInHand 34 = .ok (.iload_n 1, 1) := by decide +kernel
theorem dqX_takeInHand_35 : decode cqX_takeInHand 35 = .ok (.iload_n 2, 1) := by decide +kernel
theorem dqX_takeInHand_36 : decode cqX_takeInHand 36 = .ok (.invokevirtual 199, 3) := by decide +kernel
theorem dqX_takeInHand_39 : decode cqX_takeInHand 39 = .ok (.aload_n 0, 1) := by decide +kernel
theorem dqX_takeInHand_40 : decode cqX_takeInHand 40 = .ok (.iconst 1, 1) := by decide +kernel
theorem dqX_takeInHand_41 : decode cqX_takeInHand 41 = .ok (.putfield 54, 3) := by decide +kernel
theorem dqX_takeInHand_44 : decode cqX_takeInHand 44 = .ok (.aload_n 0, 1) := by decide +kernel
theorem dqX_takeInHand_45 : decode cqX_takeInHand 45 = .ok (.getfield 40, 3) := by decide +kernel
theorem dqX_takeInHand_48 : decode cqX_takeInHand 48 = .ok (.iload_n 3, 1) := by decide +kernel
theorem dqX_takeInHand_49 : decode cqX_takeInHand 49 = .ok (.invokevirtual 206, 3) := by decide +kernel
theorem dqX_takeInHand_52 : decode cqX_takeInHand 52 = .ok (.ireturn, 1) := by decide +kernel
theorem dqX_forgetAnswers_0 : decode cqX_forgetAnswers 0 = .ok (.aload_n 0, 1) := by decide +kernel
theorem dqX_forgetAnswers_1 : decode cqX_forgetAnswers 1 = .ok (.iconst 0, 1) := by decide +kernel
theorem dqX_forgetAnswers_2 : decode cqX_forgetAnswers 2 = .ok (.putfield 54, 3) := by decide +kernel
theorem dqX_forgetAnswers_5 : decode cqX_forgetAnswers 5 = .ok (.aload_n 0, 1) := by decide +kernel
theorem dqX_forgetAnswers_6 : decode cqX_forgetAnswers 6 = .ok (.iconst 0, 1) := by decide +kernel
theorem dqX_forgetAnswers_7 : decode cqX_forgetAnswers 7 = .ok (.putfield 58, 3) := by decide +kernel
theorem dqX_forgetAnswers_10 : decode cqX_forgetAnswers 10 = .ok (.return_, 1) := by decide +kernel
theorem dqX_isStaff_0 : decode cqX_isStaff 0 = .ok (.iload_n 0, 1) := by decide +kernel
theorem dqX_isStaff_1 : decode cqX_isStaff 1 = .ok (.iconst 0, 1) := by decide +kernel
theorem dqX_isStaff_2 : decode cqX_isStaff 2 = .ok (.iconst 3, 1) := by decide +kernel
theorem dqX_isStaff_3 : decode cqX_isStaff 3 = .ok (.invokestatic 61, 3) := by decide +kernel
theorem dqX_isStaff_6 : decode cqX_isStaff 6 = .ok (.ireturn, 1) := by decide +kernel
theorem dqX_isExtent_0 : decode cqX_isExtent 0 = .ok (.iload_n 0, 1) := by decide +kernel
theorem dqX_isExtent_1 : decode cqX_isExtent 1 = .ok (.iconst 0, 1) := by decide +kernel
theorem dqX_isExtent_2 : decode cqX_isExtent 2 = .ok (.sipush 20000, 3) := by decide +kernel
theorem dqX_isExtent_5 : decode cqX_isExtent 5 = .ok (.invokestatic 61, 3) := by decide +kernel
theorem dqX_isExtent_8 : decode cqX_isExtent 8 = .ok (.ireturn, 1) := by decide +kernel
theorem dqX_isPart_0 : decode cqX_isPart 0 = .ok (.iload_n 0, 1) := by decide +kernel
theorem dqX_isPart_1 : decode cqX_isPart 1 = .ok (.ifCond .eq 8, 3) := by decide +kernel
theorem dqX_isPart_4 : decode cqX_isPart 4 = .ok (.iload_n 0, 1) := by decide +kernel
theorem dqX_isPart_5 : decode cqX_isPart 5 = .ok (.iconst 1, 1) := by decide +kernel
theorem dqX_isPart_6 : decode cqX_isPart 6 = .ok (.if_icmp .ne 7, 3) := by decide +kernel
theorem dqX_isPart_9 : decode cqX_isPart 9 = .ok (.iconst 1, 1) := by decide +kernel
theorem dqX_isPart_10 : decode cqX_isPart 10 = .ok (.goto 4, 3) := by decide +kernel
theorem dqX_isPart_13 : decode cqX_isPart 13 = .ok (.iconst 0, 1) := by decide +kernel
theorem dqX_isPart_14 : decode cqX_isPart 14 = .ok (.ireturn, 1) := by decide +kernel
theorem dqX_within_0 : decode cqX_within 0 = .ok (.iload_n 1, 1) := by decide +kernel
theorem dqX_within_1 : decode cqX_within 1 = .ok (.iload_n 0, 1) := by decide +kernel
theorem dqX_within_2 : decode cqX_within 2 = .ok (.if_icmp .gt 12, 3) := by decide +kernel
theorem dqX_within_5 : decode cqX_within 5 = .ok (.iload_n 0, 1) := by decide +kernel
theorem dqX_within_6 : decode cqX_within 6 = .ok (.iload_n 2, 1) := by decide +kernel
theorem dqX_within_7 : decode cqX_within 7 = .ok (.if_icmp .gt 7, 3) := by decide +kernel
theorem dqX_within_10 : decode cqX_within 10 = .ok (.iconst 1, 1) := by decide +kernel
theorem dqX_within_11 : decode cqX_within 11 = .ok (.goto 4, 3) := by decide +kernel
theorem dqX_within_14 : decode cqX_within 14 = .ok (.iconst 0, 1) := by decide +kernel
theorem dqX_within_15 : decode cqX_within 15 = .ok (.ireturn, 1) := by decide +kernel
theorem dqX_sumOf_0 : decode cqX_sumOf 0 = .ok (.lconst 0, 1) := by decide +kernel
theorem dqX_sumOf_1 : decode cqX_sumOf 1 = .ok (.lstore_n 3, 1) := by decide +kernel
theorem dqX_sumOf_2 : decode cqX_sumOf 2 = .ok (.iload_n 1, 1) := by decide +kernel
theorem dqX_sumOf_3 : decode cqX_sumOf 3 = .ok (.istore 5, 2) := by decide +kernel
theorem dqX_sumOf_5 : decode cqX_sumOf 5 = .ok (.iload 5, 2) := by decide +kernel
theorem dqX_sumOf_7 : decode cqX_sumOf 7 = .ok (.iload_n 2, 1) := by decide +kernel
theorem dqX_sumOf_8 : decode cqX_sumOf 8 = .ok (.if_icmp .ge 16, 3) := by decide +kernel
theorem dqX_sumOf_11 : decode cqX_sumOf 11 = .ok (.lload_n 3, 1) := by decide +kernel
theorem dqX_sumOf_12 : decode cqX_sumOf 12 = .ok (.aload_n 0, 1) := by decide +kernel
theorem dqX_sumOf_13 : decode cqX_sumOf 13 = .ok (.iload 5, 2) := by decide +kernel
theorem dqX_sumOf_15 : decode cqX_sumOf 15 = .ok (.laload, 1) := by decide +kernel
theorem dqX_sumOf_16 : decode cqX_sumOf 16 = .ok (.ladd, 1) := by decide +kernel
theorem dqX_sumOf_17 : decode cqX_sumOf 17 = .ok (.lstore_n 3, 1) := by decide +kernel
theorem dqX_sumOf_18 : decode cqX_sumOf 18 = .ok (.iinc 5 1, 3) := by decide +kernel
theorem dqX_sumOf_21 : decode cqX_sumOf 21 = .ok (.goto (-16), 3) := by decide +kernel
theorem dqX_sumOf_24 : decode cqX_sumOf 24 = .ok (.lload_n 3, 1) := by decide +kernel
theorem dqX_sumOf_25 : decode cqX_sumOf 25 = .ok (.lreturn, 1) := by decide +kernel
theorem dqX_dividedDown_0 : decode cqX_dividedDown 0 = .ok (.lload_n 2, 1) := by decide +kernel
theorem dqX_dividedDown_1 : decode cqX_dividedDown 1 = .ok (.lconst 0, 1) := by decide +kernel
theorem dqX_dividedDown_2 : decode cqX_dividedDown 2 = .ok (.lcmp, 1) := by decide +kernel
theorem dqX_dividedDown_3 : decode cqX_dividedDown 3 = .ok (.ifCond .le 11, 3) := by decide +kernel
theorem dqX_dividedDown_6 : decode cqX_dividedDown 6 = .ok (.lload_n 0, 1) := by decide +kernel
theorem dqX_dividedDown_7 : decode cqX_dividedDown 7 = .ok (.lload_n 2, 1) := by decide +kernel
theorem dqX_dividedDown_8 : decode cqX_dividedDown 8 = .ok (.invokestatic 209, 3) := by decide +kernel
theorem dqX_dividedDown_11 : decode cqX_dividedDown 11 = .ok (.goto 4, 3) := by decide +kernel
theorem dqX_dividedDown_14 : decode cqX_dividedDown 14 = .ok (.lconst 0, 1) := by decide +kernel
theorem dqX_dividedDown_15 : decode cqX_dividedDown 15 = .ok (.lreturn, 1) := by decide +kernel
theorem dqX_dividedUp_0 : decode cqX_dividedUp 0 = .ok (.lload_n 0, 1) := by decide +kernel
theorem dqX_dividedUp_1 : decode cqX_dividedUp 1 = .ok (.lneg, 1) := by decide +kernel
theorem dqX_dividedUp_2 : decode cqX_dividedUp 2 = .ok (.lload_n 2, 1) := by decide +kernel
theorem dqX_dividedUp_3 : decode cqX_dividedUp 3 = .ok (.invokestatic 215, 3) := by decide +kernel
theorem dqX_dividedUp_6 : decode cqX_dividedUp 6 = .ok (.lneg, 1) := by decide +kernel
theorem dqX_dividedUp_7 : decode cqX_dividedUp 7 = .ok (.lreturn, 1) := by decide +kernel
theorem dqX_commonDivisor_0 : decode cqX_commonDivisor 0 = .ok (.lload_n 0, 1) := by decide +kernel
theorem dqX_commonDivisor_1 : decode cqX_commonDivisor 1 = .ok (.lstore 4, 2) := by decide +kernel
theorem dqX_commonDivisor_3 : decode cqX_commonDivisor 3 = .ok (.lload_n 2, 1) := by decide +kernel
theorem dqX_commonDivisor_4 : decode cqX_commonDivisor 4 = .ok (.lstore 6, 2) := by decide +kernel
theorem dqX_commonDivisor_6 : decode cqX_commonDivisor 6 = .ok (.iconst 0, 1) := by decide +kernel
theorem dqX_commonDivisor_7 : decode cqX_commonDivisor 7 = .ok (.istore 8, 2) := by decide +kernel
theorem dqX_commonDivisor_9 : decode cqX_commonDivisor 9 = .ok (.iload 8, 2) := by decide +kernel
theorem dqX_commonDivisor_11 : decode cqX_commonDivisor 11 = .ok (.sipush 128, 3) := by decide +kernel
theorem dqX_commonDivisor_14 : decode cqX_commonDivisor 14 = .ok (.if_icmp .ge 31, 3) := by decide +kernel
theorem dqX_commonDivisor_17 : decode cqX_commonDivisor 17 = .ok (.lload 6, 2) := by decide +kernel
theorem dqX_commonDivisor_19 : decode cqX_commonDivisor 19 = .ok (.lconst 0, 1) := by decide +kernel
theorem dqX_commonDivisor_20 : decode cqX_commonDivisor 20 = .ok (.lcmp, 1) := by decide +kernel
theorem dqX_commonDivisor_21 : decode cqX_commonDivisor 21 = .ok (.ifCond .eq 24, 3) := by decide +kernel
theorem dqX_commonDivisor_24 : decode cqX_commonDivisor 24 = .ok (.lload 4, 2) := by decide +kernel
theorem dqX_commonDivisor_26 : decode cqX_commonDivisor 26 = .ok (.lload 6, 2) := by decide +kernel
theorem dqX_commonDivisor_28 : decode cqX_commonDivisor 28 = .ok (.lrem, 1) := by decide +kernel
theorem dqX_commonDivisor_29 : decode cqX_commonDivisor 29 = .ok (.lstore 9, 2) := by decide +kernel
theorem dqX_commonDivisor_31 : decode cqX_commonDivisor 31 = .ok (.lload 6, 2) := by decide +kernel
theorem dqX_commonDivisor_33 : decode cqX_commonDivisor 33 = .ok (.lstore 4, 2) := by decide +kernel
theorem dqX_commonDivisor_35 : decode cqX_commonDivisor 35 = .ok (.lload 9, 2) := by decide +kernel
theorem dqX_commonDivisor_37 : decode cqX_commonDivisor 37 = .ok (.lstore 6, 2) := by decide +kernel
theorem dqX_commonDivisor_39 : decode cqX_commonDivisor 39 = .ok (.iinc 8 1, 3) := by decide +kernel
theorem dqX_commonDivisor_42 : decode cqX_commonDivisor 42 = .ok (.goto (-33), 3) := by decide +kernel
theorem dqX_commonDivisor_45 : decode cqX_commonDivisor 45 = .ok (.lconst 1, 1) := by decide +kernel
theorem dqX_commonDivisor_46 : decode cqX_commonDivisor 46 = .ok (.lload 4, 2) := by decide +kernel
theorem dqX_commonDivisor_48 : decode cqX_commonDivisor 48 = .ok (.invokestatic 218, 3) := by decide +kernel
theorem dqX_commonDivisor_51 : decode cqX_commonDivisor 51 = .ok (.lreturn, 1) := by decide +kernel
end
section
theorem dqM_init_0 : decode cqM_init 0 = .ok (.aload_n 0, 1) := by decide +kernel
theorem dqM_init_1 : decode cqM_init 1 = .ok (.invokespecial 1, 3) := by decide +kernel
theorem dqM_init_4 : decode cqM_init 4 = .ok (.aload_n 0, 1) := by decide +kernel
theorem dqM_init_5 : decode cqM_init 5 = .ok (.bipush 10, 2) := by decide +kernel
theorem dqM_init_7 : decode cqM_init 7 = .ok (.putfield 7, 3) := by decide +kernel
theorem dqM_init_10 : decode cqM_init 10 = .ok (.aload_n 0, 1) := by decide +kernel
theorem dqM_init_11 : decode cqM_init 11 = .ok (.bipush 6, 2) := by decide +kernel
theorem dqM_init_13 : decode cqM_init 13 = .ok (.putfield 13, 3) := by decide +kernel
theorem dqM_init_16 : decode cqM_init 16 = .ok (.aload_n 0, 1) := by decide +kernel
theorem dqM_init_17 : decode cqM_init 17 = .ok (.bipush 24, 2) := by decide +kernel
theorem dqM_init_19 : decode cqM_init 19 = .ok (.newarray .int, 2) := by decide +kernel
theorem dqM_init_21 : decode cqM_init 21 = .ok (.putfield 16, 3) := by decide +kernel
theorem dqM_init_24 : decode cqM_init 24 = .ok (.aload_n 0, 1) := by decide +kernel
theorem dqM_init_25 : decode cqM_init 25 = .ok (.bipush 24, 2) := by decide +kernel
theorem dqM_init_27 : decode cqM_init 27 = .ok (.newarray .int, 2) := by decide +kernel
theorem dqM_init_29 : decode cqM_init 29 = .ok (.putfield 20, 3) := by decide +kernel
theorem dqM_init_32 : decode cqM_init 32 = .ok (.aload_n 0, 1) := by decide +kernel
theorem dqM_init_33 : decode cqM_init 33 = .ok (.bipush 24, 2) := by decide +kernel
theorem dqM_init_35 : decode cqM_init 35 = .ok (.newarray .boolean, 2) := by decide +kernel
theorem dqM_init_37 : decode cqM_init 37 = .ok (.putfield 23, 3) := by decide +kernel
theorem dqM_init_40 : decode cqM_init 40 = .ok (.aload_n 0, 1) := by decide +kernel
theorem dqM_init_41 : decode cqM_init 41 = .ok (.bipush 96, 2) := by decide +kernel
theorem dqM_init_43 : decode cqM_init 43 = .ok (.newarray .boolean, 2) := by decide +kernel
theorem dqM_init_45 : decode cqM_init 45 = .ok (.putfield 27, 3) := by decide +kernel
theorem dqM_init_48 : decode cqM_init 48 = .ok (.aload_n 0, 1) := by decide +kernel
theorem dqM_init_49 : decode cqM_init 49 = .ok (.bipush 96, 2) := by decide +kernel
theorem dqM_init_51 : decode cqM_init 51 = .ok (.newarray .int, 2) := by decide +kernel
theorem dqM_init_53 : decode cqM_init 53 = .ok (.putfield 30, 3) := by decide +kernel
theorem dqM_init_56 : decode cqM_init 56 = .ok (.aload_n 0, 1) := by decide +kernel
theorem dqM_init_57 : decode cqM_init 57 = .ok (.bipush 96, 2) := by decide +kernel
theorem dqM_init_59 : decode cqM_init 59 = .ok (.newarray .int, 2) := by decide +kernel
theorem dqM_init_61 : decode cqM_init 61 = .ok (.putfield 33, 3) := by decide +kernel
theorem dqM_init_64 : decode cqM_init 64 = .ok (.aload_n 0, 1) := by decide +kernel
theorem dqM_init_65 : decode cqM_init 65 = .ok (.bipush 20, 2) := by decide +kernel
theorem dqM_init_67 : decode cqM_init 67 = .ok (.newarray .int, 2) := by decide +kernel
theorem dqM_init_69 : decode cqM_init 69 = .ok (.putfield 36, 3) := by decide +kernel
theorem dqM_init_72 : decode cqM_init 72 = .ok (.aload_n 0, 1) := by decide +kernel
theorem dqM_init_73 : decode cqM_init 73 = .ok (.bipush 20, 2) := by decide +kernel
theorem dqM_init_75 : decode cqM_init 75 = .ok (.newarray .int, 2) := by decide +kernel
theorem dqM_init_77 : decode cqM_init 77 = .ok (.putfield 39, 3) := by decide +kernel
theorem dqM_init_80 : decode cqM_init 80 = .ok (.aload_n 0, 1) := by decide +kernel
theorem dqM_init_81 : decode cqM_init 81 = .ok (.bipush 20, 2) := by decide +kernel
theorem dqM_init_83 : decode cqM_init 83 = .ok (.newarray .int, 2) := by decide +kernel
theorem dqM_init_85 : decode cqM_init 85 = .ok (.putfield 42, 3) := by decide +kernel
theorem dqM_init_88 : decode cqM_init 88 = .ok (.aload_n 0, 1) := by decide +kernel
theorem dqM_init_89 : decode cqM_init 89 = .ok (.bipush 20, 2) := by decide +kernel
theorem dqM_init_91 : decode cqM_init 91 = .ok (.newarray .boolean, 2) := by decide +kernel
theorem dqM_init_93 : decode cqM_init 93 = .ok (.putfield 45, 3) := by decide +kernel
theorem dqM_init_96 : decode cqM_init 96 = .ok (.aload_n 0, 1) := by decide +kernel
theorem dqM_init_97 : decode cqM_init 97 = .ok (.lconst 1, 1) := by decide +kernel
theorem dqM_init_98 : decode cqM_init 98 = .ok (.putfield 48, 3) := by decide +kernel
theorem dqM_init_101 : decode cqM_init 101 = .ok (.aload_n 0, 1) := by decide +kernel
theorem dqM_init_102 : decode cqM_init 102 = .ok (.bipush 24, 2) := by decide +kernel
theorem dqM_init_104 : decode cqM_init 104 = .ok (.newarray .int, 2) := by decide +kernel
theorem dqM_init_106 : decode cqM_init 106 = .ok (.putfield 52, 3) := by decide +kernel
theorem dqM_init_109 : decode cqM_init 109 = .ok (.aload_n 0, 1) := by decide +kernel
theorem dqM_init_110 : decode cqM_init 110 = .ok (.bipush 24, 2) := by decide +kernel
theorem dqM_init_112 : decode cqM_init 112 = .ok (.newarray .long, 2) := by decide +kernel
theorem dqM_init_114 : decode cqM_init 114 = .ok (.putfield 55, 3) := by decide +kernel
theorem dqM_init_117 : decode cqM_init 117 = .ok (.aload_n 0, 1) := by decide +kernel
theorem dqM_init_118 : decode cqM_init 118 = .ok (.bipush 25, 2) := by decide +kernel
theorem dqM_init_120 : decode cqM_init 120 = .ok (.newarray .int, 2) := by decide +kernel
theorem dqM_init_122 : decode cqM_init 122 = .ok (.putfield 59, 3) := by decide +kernel
theorem dqM_init_125 : decode cqM_init 125 = .ok (.aload_n 0, 1) := by decide +kernel
theorem dqM_init_126 : decode cqM_init 126 = .ok (.bipush 24, 2) := by decide +kernel
theorem dqM_init_128 : decode cqM_init 128 = .ok (.newarray .int, 2) := by decide +kernel
theorem dqM_init_130 : decode cqM_init 130 = .ok (.putfield 62, 3) := by decide +kernel
theorem dqM_init_133 : decode cqM_init 133 = .ok (.aload_n 0, 1) := by decide +kernel
theorem dqM_init_134 : decode cqM_init 134 = .ok (.bipush 24, 2) := by decide +kernel
theorem dqM_init_136 : decode cqM_init 136 = .ok (.newarray .boolean, 2) := by decide +kernel
theorem dqM_init_138 : decode cqM_init 138 = .ok (.putfield 65, 3) := by decide +kernel
theorem dqM_init_141 : decode cqM_init 141 = .ok (.aload_n 0, 1) := by decide +kernel
theorem dqM_init_142 : decode cqM_init 142 = .ok (.bipush 24, 2) := by decide +kernel
theorem dqM_init_144 : decode cqM_init 144 = .ok (.newarray .long, 2) := by decide +kernel
theorem dqM_init_146 : decode cqM_init 146 = .ok (.putfield 68, 3) := by decide +kernel
theorem dqM_init_149 : decode cqM_init 149 = .ok (.aload_n 0, 1) := by decide +kernel
theorem dqM_init_150 : decode cqM_init 150 = .ok (.bipush 24, 2) := by decide +kernel
theorem dqM_init_152 : decode cqM_init 152 = .ok (.newarray .int, 2) := by decide +kernel
theorem dqM_init_154 : decode cqM_init 154 = .ok (.putfield 71, 3) := by decide +kernel
theorem dqM_init_157 : decode cqM_init 157 = .ok (.aload_n 0, 1) := by decide +kernel
theorem dqM_init_158 : decode cqM_init 158 = .ok (.bipush 24, 2) := by decide +kernel
theorem dqM_init_160 : decode cqM_init 160 = .ok (.newarray .int, 2) := by decide +kernel
theorem dqM_init_162 : decode cqM_init 162 = .ok (.putfield 74, 3) := by decide +kernel
theorem dqM_init_165 : decode cqM_init 165 = .ok (.return_, 1) := by decide +kernel
theorem dqM_changed_0 : decode cqM_changed 0 = .ok (.aload_n 0, 1) := by decide +kernel
theorem dqM_changed_1 : decode cqM_changed 1 = .ok (.iconst 0, 1) := by decide +kernel
theorem dqM_changed_2 : decode cqM_changed 2 = .ok (.putfield 77, 3) := by decide +kernel
theorem dqM_changed_5 : decode cqM_changed 5 = .ok (.aload_n 0, 1) := by decide +kernel
theorem dqM_changed_6 : decode cqM_changed 6 = .ok (.iconst 0, 1) := by decide +kernel
theorem dqM_changed_7 : decode cqM_changed 7 = .ok (.putfield 81, 3) := by decide +kernel
theorem dqM_changed_10 : decode cqM_changed 10 = .ok (.return_, 1) := by decide +kernel
theorem dqM_table_0 : decode cqM_table 0 = .ok (.iload_n 1, 1) := by decide +kernel
theorem dqM_table_1 : decode cqM_table 1 = .ok (.ifCond .lt 19, 3) := by decide +kernel
theorem dqM_table_4 : decode cqM_table 4 = .ok (.iload_n 1, 1) := by decide +kernel
theorem dqM_table_5 : decode cqM_table 5 = .ok (.bipush 100, 2) := by decide +kernel
theorem dqM_table_7 : decode cqM_table 7 = .ok (.if_icmp .gt 13, 3) := by decide +kernel
theorem dqM_table_10 : decode cqM_table 10 = .ok (.iload_n 2, 1) := by decide +kernel
theorem dqM_table_11 : decode cqM_table 11 = .ok (.ifCond .lt 9, 3) := by decide +kernel
theorem dqM_table_14 : decode cqM_table 14 = .ok (.iload_n 2, 1) := by decide +kernel
theorem dqM_table_15 : decode cqM_table 15 = .ok (.bipush 100, 2) := by decide +kernel
theorem dqM_table_17 : decode cqM_table 17 = .ok (.if_icmp .le 6, 3) := by decide +kernel
theorem dqM_table_20 : decode cqM_table 20 = .ok (.bipush (-2), 2) := by decide +kernel
theorem dqM_table_22 : decode cqM_table 22 = .ok (.ireturn, 1) := by decide +kernel
theorem dqM_table_23 : decode cqM_table 23 = .ok (.aload_n 0, 1) := by decide +kernel
theorem dqM_table_24 : decode cqM_table 24 = .ok (.iload_n 1, 1) := by decide +kernel
theorem dqM_table_25 : decode cqM_table 25 = .ok (.putfield 7, 3) := by decide +kernel
theorem dqM_table_28 : decode cqM_table 28 = .ok (.aload_n 0, 1) := by decide +kernel
theorem dqM_table_29 : decode cqM_table 29 = .ok (.iload_n 2, 1) := by decide +kernel
theorem dqM_table_30 : decode cqM_table 30 = .ok (.putfield 13, 3) := by decide +kernel
theorem dqM_table_33 : decode cqM_table 33 = .ok (.aload_n 0, 1) := by decide +kernel
theorem dqM_table_34 : decode cqM_table 34 = .ok (.invokevirtual 84, 3) := by decide +kernel
theorem dqM_table_37 : decode cqM_table 37 = .ok (.iconst 1, 1) := by decide +kernel
theorem dqM_table_38 : decode cqM_table 38 = .ok (.ireturn, 1) := by decide +kernel
theorem dqM_column_0 : decode cqM_column 0 = .ok (.iload_n 1, 1) := by decide +kernel
theorem dqM_column_1 : decode cqM_column 1 = .ok (.ifCond .lt 9, 3) := by decide +kernel
theorem dqM_column_4 : decode cqM_column 4 = .ok (.iload_n 1, 1) := by decide +kernel
theorem dqM_column_5 : decode cqM_column 5 = .ok (.ldc 87, 2) := by decide +kernel
theorem dqM_column_7 : decode cqM_column 7 = .ok (.if_icmp .le 6, 3) := by decide +kernel
theorem dqM_column_10 : decode cqM_column 10 = .ok (.bipush (-2), 2) := by decide +kernel
theorem dqM_column_12 : decode cqM_column 12 = .ok (.ireturn, 1) := by decide +kernel
theorem dqM_column_13 : decode cqM_column 13 = .ok (.aload_n 0, 1) := by decide +kernel
theorem dqM_column_14 : decode cqM_column 14 = .ok (.getfield 88, 3) := by decide +kernel
theorem dqM_column_17 : decode cqM_column 17 = .ok (.ifCond .le 21, 3) := by decide +kernel
theorem dqM_column_20 : decode cqM_column 20 = .ok (.iload_n 1, 1) := by decide +kernel
theorem dqM_column_21 : decode cqM_column 21 = .ok (.aload_n 0, 1) := by decide +kernel
theorem dqM_column_22 : decode cqM_column 22 = .ok (.getfield 16, 3) := by decide +kernel
theorem dqM_column_25 : decode cqM_column 25 = .ok (.aload_n 0, 1) := by decide +kernel
theorem dqM_column_26 : decode cqM_column 26 = .ok (.getfield 88, 3) := by decide +kernel
theorem dqM_column_29 : decode cqM_column 29 = .ok (.iconst 1, 1) := by decide +kernel
theorem dqM_column_30 : decode cqM_column 30 = .ok (.isub, 1) := by decide +kernel
theorem dqM_column_31 : decode cqM_column 31 = .ok (.iaload, 1) := by decide +kernel
theorem dqM_column_32 : decode cqM_column 32 = .ok (.if_icmp .gt 6, 3) := by decide +kernel
theorem dqM_column_35 : decode cqM_column 35 = .ok (.bipush (-3), 2) := by decide +kernel
theorem dqM_column_37 : decode cqM_column 37 = .ok (.ireturn, 1) := by decide +kernel
theorem dqM_column_38 : decode cqM_column 38 = .ok (.aload_n 0, 1) := by decide +kernel
theorem dqM_column_39 : decode cqM_column 39 = .ok (.getfield 88, 3) := by decide +kernel
theorem dqM_column_42 : decode cqM_column 42 = .ok (.bipush 24, 2) := by decide +kernel
theorem dqM_column_44 : decode cqM_column 44 = .ok (.if_icmp .ne 6, 3) := by decide +kernel
theorem dqM_column_47 : decode cqM_column 47 = .ok (.bipush (-4), 2) := by decide +kernel
theorem dqM_column_49 : decode cqM_column 49 = .ok (.ireturn, 1) := by decide +kernel
theorem dqM_column_50 : decode cqM_column 50 = .ok (.aload_n 0, 1) := by decide +kernel
theorem dqM_column_51 : decode cqM_column 51 = .ok (.getfield 16, 3) := by decide +kernel
theorem dqM_column_54 : decode cqM_column 54 = .ok (.aload_n 0, 1) := by decide +kernel
theorem dqM_column_55 : decode cqM_column 55 = .ok (.getfield 88, 3) := by decide +kernel
theorem dqM_column_58 : decode cqM_column 58 = .ok (.iload_n 1, 1) := by decide +kernel
theorem dqM_column_59 : decode cqM_column 59 = .ok (.iastore, 1) := by decide +kernel
theorem dqM_column_60 : decode cqM_column 60 = .ok (.aload_n 0, 1) := by decide +kernel
theorem dqM_column_61 : decode cqM_column 61 = .ok (.getfield 20, 3) := by decide +kernel
theorem dqM_column_64 : decode cqM_column 64 = .ok (.aload_n 0, 1) := by decide +kernel
theorem dqM_column_65 : decode cqM_column 65 = .ok (.getfield 88, 3) := by decide +kernel
theorem dqM_column_68 : decode cqM_column 68 = .ok (.iconst 0, 1) := by decide +kernel
theorem dqM_column_69 : decode cqM_column 69 = .ok (.iastore, 1) := by decide +kernel
theorem dqM_column_70 : decode cqM_column 70 = .ok (.aload_n 0, 1) := by decide +kernel
theorem dqM_column_71 : decode cqM_column 71 = .ok (.getfield 23, 3) := by decide +kernel
theorem dqM_column_74 : decode cqM_column 74 = .ok (.aload_n 0, 1) := by decide +kernel
theorem dqM_column_75 : decode cqM_column 75 = .ok (.getfield 88, 3) := by decide +kernel
theorem dqM_column_78 : decode cqM_column 78 = .ok (.iconst 0, 1) := by decide +kernel
theorem dqM_column_79 : decode cqM_column 79 = .ok (.bastore, 1) := by decide +kernel
theorem dqM_column_80 : decode cqM_column 80 = .ok (.iconst 0, 1) := by decide +kernel
theorem dqM_column_81 : decode cqM_column 81 = .ok (.istore_n 2, 1) := by decide +kernel
theorem dqM_column_82 : decode cqM_column 82 = .ok (.iload_n 2, 1) := by decide +kernel
theorem dqM_column_83 : decode cqM_column 83 = .ok (.iconst 4, 1) := by decide +kernel
theorem dqM_column_84 : decode cqM_column 84 = .ok (.if_icmp .ge 24, 3) := by decide +kernel
theorem dqM_column_87 : decode cqM_column 87 = .ok (.aload_n 0, 1) := by decide +kernel
theorem dqM_column_88 : decode cqM_column 88 = .ok (.getfield 27, 3) := by decide +kernel
theorem dqM_column_91 : decode cqM_column 91 = .ok (.bipush 24, 2) := by decide +kernel
theorem dqM_column_93 : decode cqM_column 93 = .ok (.iload_n 2, 1) := by decide +kernel
theorem dqM_column_94 : decode cqM_column 94 = .ok (.imul, 1) := by decide +kernel
theorem dqM_column_95 : decode cqM_column 95 = .ok (.aload_n 0, 1) := by decide +kernel
theorem dqM_column_96 : decode cqM_column 96 = .ok (.getfield 88, 3) := by decide +kernel
theorem dqM_column_99 : decode cqM_column 99 = .ok (.iadd, 1) := by decide +kernel
theorem dqM_column_100 : decode cqM_column 100 = .ok (.iconst 0, 1) := by decide +kernel
theorem dqM_column_101 : decode cqM_column 101 = .ok (.bastore, 1) := by decide +kernel
theorem dqM_column_102 : decode cqM_column 102 = .ok (.iinc 2 1, 3) := by decide +kernel
theorem dqM_column_105 : decode cqM_column 105 = .ok (.goto (-23), 3) := by decide +kernel
theorem dqM_column_108 : decode cqM_column 108 = .ok (.aload_n 0, 1) := by decide +kernel
theorem dqM_column_109 : decode cqM_column 109 = .ok (.dup, 1) := by decide +kernel
theorem dqM_column_110 : decode cqM_column 110 = .ok (.getfield 88, 3) := by decide +kernel
theorem dqM_column_113 : decode cqM_column 113 = .ok (.iconst 1, 1) := by decide +kernel
theorem dqM_column_114 : decode cqM_column 114 = .ok (.iadd, 1) := by decide +kernel
theorem dqM_column_115 : decode cqM_column 115 = .ok (.putfield 88, 3) := by decide +kernel
theorem dqM_column_118 : decode cqM_column 118 = .ok (.aload_n 0, 1) := by decide +kernel
theorem dqM_column_119 : decode cqM_column 119 = .ok (.invokevirtual 84, 3) := by decide +kernel
theorem dqM_column_122 : decode cqM_column 122 = .ok (.aload_n 0, 1) := by decide +kernel
theorem dqM_column_123 : decode cqM_column 123 = .ok (.getfield 88, 3) := by decide +kernel
theorem dqM_column_126 : decode cqM_column 126 = .ok (.iconst 1, 1) := by decide +kernel
theorem dqM_column_127 : decode cqM_column 127 = .ok (.isub, 1) := by decide +kernel
theorem dqM_column_128 : decode cqM_column 128 = .ok (.ireturn, 1) := by decide +kernel
theorem dqM_clear_0 : decode cqM_clear 0 = .ok (.aload_n 0, 1) := by decide +kernel
theorem dqM_clear_1 : decode cqM_clear 1 = .ok (.getfield 88, 3) := by decide +kernel
theorem dqM_clear_4 : decode cqM_clear 4 = .ok (.istore_n 1, 1) := by decide +kernel
theorem dqM_clear_5 : decode cqM_clear 5 = .ok (.aload_n 0, 1) := by decide +kernel
theorem dqM_clear_6 : decode cqM_clear 6 = .ok (.iconst 0, 1) := by decide +kernel
theorem dqM_clear_7 : decode cqM_clear 7 = .ok (.putfield 88, 3) := by decide +kernel
theorem dqM_clear_10 : decode cqM_clear 10 = .ok (.aload_n 0, 1) := by decide +kernel
theorem dqM_clear_11 : decode cqM_clear 11 = .ok (.iconst 0, 1) := by decide +kernel
theorem dqM_clear_12 : decode cqM_clear 12 = .ok (.putfield 91, 3) := by decide +kernel
theorem dqM_clear_15 : decode cqM_clear 15 = .ok (.aload_n 0, 1) := by decide +kernel
theorem dqM_clear_16 : decode cqM_clear 16 = .ok (.iconst 0, 1) := by decide +kernel
theorem dqM_clear_17 : decode cqM_clear 17 = .ok (.putfield 94, 3) := by decide +kernel
theorem dqM_clear_20 : decode cqM_clear 20 = .ok (.aload_n 0, 1) := by decide +kernel
theorem dqM_clear_21 : decode cqM_clear 21 = .ok (.invokevirtual 84, 3) := by decide +kernel
theorem dqM_clear_24 : decode cqM_clear 24 = .ok (.iload_n 1, 1) := by decide +kernel
theorem dqM_clear_25 : decode cqM_clear 25 = .ok (.ireturn, 1) := by decide +kernel
theorem dqM_springOf_0 : decode cqM_springOf 0 = .ok (.iconst 0, 1) := by decide +kernel
theorem dqM_springOf_1 : decode cqM_springOf 1 = .ok (.istore_n 2, 1) := by decide +kernel
theorem dqM_springOf_2 : decode cqM_springOf 2 = .ok (.iload_n 1, 1) := by decide +kernel
theorem dqM_springOf_3 : decode cqM_springOf 3 = .ok (.iload_n 2, 1) := by decide +kernel
theorem dqM_springOf_4 : decode cqM_springOf 4 = .ok (.iconst 1, 1) := by decide +kernel
theorem dqM_springOf_5 : decode cqM_springOf 5 = .ok (.iadd, 1) := by decide +kernel
theorem dqM_springOf_6 : decode cqM_springOf 6 = .ok (.ishr, 1) := by decide +kernel
theorem dqM_springOf_7 : decode cqM_springOf 7 = .ok (.ifCond .le 9, 3) := by decide +kernel
theorem dqM_springOf_10 : decode cqM_springOf 10 = .ok (.iinc 2 1, 3) := by decide +kernel
theorem dqM_springOf_13 : decode cqM_springOf 13 = .ok (.goto (-11), 3) := by decide +kernel
theorem dqM_springOf_16 : decode cqM_springOf 16 = .ok (.ldc2_w 97, 3) := by decide +kernel
theorem dqM_springOf_19 : decode cqM_springOf 19 = .ok (.aload_n 0, 1) := by decide +kernel
theorem dqM_springOf_20 : decode cqM_springOf 20 = .ok (.getfield 7, 3) := by decide +kernel
theorem dqM_springOf_23 : decode cqM_springOf 23 = .ok (.aload_n 0, 1) := by decide +kernel
theorem dqM_springOf_24 : decode cqM_springOf 24 = .ok (.getfield 13, 3) := by decide +kernel
theorem dqM_springOf_27 : decode cqM_springOf 27 = .ok (.iload_n 2, 1) := by decide +kernel
theorem dqM_springOf_28 : decode cqM_springOf 28 = .ok (.imul, 1) := by decide +kernel
theorem dqM_springOf_29 : decode cqM_springOf 29 = .ok (.iadd, 1) := by decide +kernel
theorem dqM_springOf_30 : decode cqM_springOf 30 = .ok (.i2l, 1) := by decide +kernel
theorem dqM_springOf_31 : decode cqM_springOf 31 = .ok (.lmul, 1) := by decide +kernel
theorem dqM_springOf_32 : decode cqM_springOf 32 = .ok (.aload_n 0, 1) := by decide +kernel
theorem dqM_springOf_33 : decode cqM_springOf 33 = .ok (.getfield 13, 3) := by decide +kernel
theorem dqM_springOf_36 : decode cqM_springOf 36 = .ok (.i2l, 1) := by decide +kernel
theorem dqM_springOf_37 : decode cqM_springOf 37 = .ok (.iload_n 1, 1) := by decide +kernel
theorem dqM_springOf_38 : decode cqM_springOf 38 = .ok (.iconst 1, 1) := by decide +kernel
theorem dqM_springOf_39 : decode cqM_springOf 39 = .ok (.iload_n 2, 1) := by decide +kernel
theorem dqM_springOf_40 : decode cqM_springOf 40 = .ok (.ishl, 1) := by decide +kernel
theorem dqM_springOf_41 : decode cqM_springOf 41 = .ok (.isub, 1) := by decide +kernel
theorem dqM_springOf_42 : decode cqM_springOf 42 = .ok (.i2l, 1) := by decide +kernel
theorem dqM_springOf_43 : decode cqM_springOf 43 = .ok (.lmul, 1) := by decide +kernel
theorem dqM_springOf_44 : decode cqM_springOf 44 = .ok (.ldc 99, 2) := by decide +kernel
theorem dqM_springOf_46 : decode cqM_springOf 46 = .ok (.iload_n 2, 1) := by decide +kernel
theorem dqM_springOf_47 : decode cqM_springOf 47 = .ok (.ishr, 1) := by decide +kernel
theorem dqM_springOf_48 : decode cqM_springOf 48 = .ok (.i2l, 1) := by decide +kernel
theorem dqM_springOf_49 : decode cqM_springOf 49 = .ok (.lmul, 1) := by decide +kernel
theorem dqM_springOf_50 : decode cqM_springOf 50 = .ok (.ladd, 1) := by decide +kernel
theorem dqM_springOf_51 : decode cqM_springOf 51 = .ok (.lreturn, 1) := by decide +kernel
theorem dqM_spring_0 : decode cqM_spring 0 = .ok (.iload_n 1, 1) := by decide +kernel
theorem dqM_spring_1 : decode cqM_spring 1 = .ok (.iconst 1, 1) := by decide +kernel
theorem dqM_spring_2 : decode cqM_spring 2 = .ok (.if_icmp .lt 9, 3) := by decide +kernel
theorem dqM_spring_5 : decode cqM_spring 5 = .ok (.iload_n 1, 1) := by decide +kernel
theorem dqM_spring_6 : decode cqM_spring 6 = .ok (.ldc 87, 2) := by decide +kernel
theorem dqM_spring_8 : decode cqM_spring 8 = .ok (.if_icmp .le 9, 3) := by decide +kernel
theorem dqM_spring_11 : decode cqM_spring 11 = .ok (.ldc2_w 100, 3) := by decide +kernel
theorem dqM_spring_14 : decode cqM_spring 14 = .ok (.goto 8, 3) := by decide +kernel
theorem dqM_spring_17 : decode cqM_spring 17 = .ok (.aload_n 0, 1) := by decide +kernel
theorem dqM_spring_18 : decode cqM_spring 18 = .ok (.iload_n 1, 1) := by decide +kernel
theorem dqM_spring_19 : decode cqM_spring 19 = .ok (.invokevirtual 102, 3) := by decide +kernel
theorem dqM_spring_22 : decode cqM_spring 22 = .ok (.lreturn, 1) := by decide +kernel
theorem dqM_isColumn_0 : decode cqM_isColumn 0 = .ok (.iload_n 1, 1) := by decide +kernel
theorem dqM_isColumn_1 : decode cqM_isColumn 1 = .ok (.ifCond .lt 15, 3) := by decide +kernel
theorem dqM_isColumn_4 : decode cqM_isColumn 4 = .ok (.iload_n 1, 1) := by decide +kernel
theorem dqM_isColumn_5 : decode cqM_isColumn 5 = .ok (.aload_n 0, 1) := by decide +kernel
theorem dqM_isColumn_6 : decode cqM_isColumn 6 = .ok (.getfield 88, 3) := by decide +kernel
theorem dqM_isColumn_9 : decode cqM_isColumn 9 = .ok (.if_icmp .ge 7, 3) := by decide +kernel
theorem dqM_isColumn_12 : decode cqM_isColumn 12 = .ok (.iconst 1, 1) := by decide +kernel
theorem dqM_isColumn_13 : decode cqM_isColumn 13 = .ok (.goto 4, 3) := by decide +kernel
theorem dqM_isColumn_16 : decode cqM_isColumn 16 = .ok (.iconst 0, 1) := by decide +kernel
theorem dqM_isColumn_17 : decode cqM_isColumn 17 = .ok (.ireturn, 1) := by decide +kernel
theorem dqM_least_0 : decode cqM_least 0 = .ok (.iload_n 1, 1) := by decide +kernel
theorem dqM_least_1 : decode cqM_least 1 = .ok (.ifCond .lt 13, 3) := by decide +kernel
theorem dqM_least_4 : decode cqM_least 4 = .ok (.iload_n 1, 1) := by decide +kernel
theorem dqM_least_5 : decode cqM_least 5 = .ok (.aload_n 0, 1) := by decide +kernel
theorem dqM_least_6 : decode cqM_least 6 = .ok (.getfield 88, 3) := by decide +kernel
theorem dqM_least_9 : decode cqM_least 9 = .ok (.iconst 1, 1) := by decide +kernel
theorem dqM_least_10 : decode cqM_least 10 = .ok (.isub, 1) := by decide +kernel
theorem dqM_least_11 : decode cqM_least 11 = .ok (.if_icmp .lt 5, 3) := by decide +kernel
theorem dqM_least_14 : decode cqM_least 14 = .ok (.iconst (-1), 1) := by decide +kernel
theorem dqM_least_15 : decode cqM_least 15 = .ok (.ireturn, 1) := by decide +kernel
theorem dqM_least_16 : decode cqM_least 16 = .ok (.iload_n 2, 1) := by decide +kernel
theorem dqM_least_17 : decode cqM_least 17 = .ok (.ifCond .lt 10, 3) := by decide +kernel
theorem dqM_least_20 : decode cqM_least 20 = .ok (.iload_n 2, 1) := by decide +kernel
theorem dqM_least_21 : decode cqM_least 21 = .ok (.sipush 1000, 3) := by decide +kernel
theorem dqM_least_24 : decode cqM_least 24 = .ok (.if_icmp .le 6, 3) := by decide +kernel
theorem dqM_least_27 : decode cqM_least 27 = .ok (.bipush (-2), 2) := by decide +kernel
theorem dqM_least_29 : decode cqM_least 29 = .ok (.ireturn, 1) := by decide +kernel
theorem dqM_least_30 : decode cqM_least 30 = .ok (.aload_n 0, 1) := by decide +kernel
theorem dqM_least_31 : decode cqM_least 31 = .ok (.getfield 20, 3) := by decide +kernel
theorem dqM_least_34 : decode cqM_least 34 = .ok (.iload_n 1, 1) := by decide +kernel
theorem dqM_least_35 : decode cqM_least 35 = .ok (.iaload, 1) := by decide +kernel
theorem dqM_least_36 : decode cqM_least 36 = .ok (.istore_n 3, 1) := by decide +kernel
theorem dqM_least_37 : decode cqM_least 37 = .ok (.aload_n 0, 1) := by decide +kernel
theorem dqM_least_38 : decode cqM_least 38 = .ok (.getfield 20, 3) := by decide +kernel
theorem dqM_least_41 : decode cqM_least 41 = .ok (.iload_n 1, 1) := by decide +kernel
theorem dqM_least_42 : decode cqM_least 42 = .ok (.iload_n 2, 1) := by decide +kernel
theorem dqM_least_43 : decode cqM_least 43 = .ok (.iastore, 1) := by decide +kernel
theorem dqM_least_44 : decode cqM_least 44 = .ok (.aload_n 0, 1) := by decide +kernel
theorem dqM_least_45 : decode cqM_least 45 = .ok (.invokevirtual 84, 3) := by decide +kernel
theorem dqM_least_48 : decode cqM_least 48 = .ok (.iload_n 3, 1) := by decide +kernel
theorem dqM_least_49 : decode cqM_least 49 = .ok (.ireturn, 1) := by decide +kernel
theorem dqM_item_0 : decode cqM_item 0 = .ok (.iload_n 1, 1) := by decide +kernel
theorem dqM_item_1 : decode cqM_item 1 = .ok (.ifCond .lt 16, 3) := by decide +kernel
theorem dqM_item_4 : decode cqM_item 4 = .ok (.iload_n 1, 1) := by decide +kernel
theorem dqM_item_5 : decode cqM_item 5 = .ok (.iconst 3, 1) := by decide +kernel
theorem dqM_item_6 : decode cqM_item 6 = .ok (.if_icmp .gt 11, 3) := by decide +kernel
theorem dqM_item_9 : decode cqM_item 9 = .ok (.aload_n 0, 1) := by decide +kernel
theorem dqM_item_10 : decode cqM_item 10 = .ok (.iload_n 2, 1) := by decide +kernel
theorem dqM_item_11 : decode cqM_item 11 = .ok (.invokevirtual 106, 3) := by decide +kernel
theorem dqM_item_14 : decode cqM_item 14 = .ok (.ifCond .ne 5, 3) := by decide +kernel
theorem dqM_item_17 : decode cqM_item 17 = .ok (.iconst (-1), 1) := by decide +kernel
theorem dqM_item_18 : decode cqM_item 18 = .ok (.ireturn, 1) := by decide +kernel
theorem dqM_item_19 : decode cqM_item 19 = .ok (.iload_n 3, 1) := by decide +kernel
theorem dqM_item_20 : decode cqM_item 20 = .ok (.ifCond .lt 23, 3) := by decide +kernel
theorem dqM_item_23 : decode cqM_item 23 = .ok (.iload_n 3, 1) := by decide +kernel
theorem dqM_item_24 : decode cqM_item 24 = .ok (.sipush 500, 3) := by decide +kernel
theorem dqM_item_27 : decode cqM_item 27 = .ok (.if_icmp .gt 16, 3) := by decide +kernel
theorem dqM_item_30 : decode cqM_item 30 = .ok (.iload 4, 2) := by decide +kernel
theorem dqM_item_32 : decode cqM_item 32 = .ok (.ifCond .lt 11, 3) := by decide +kernel
theorem dqM_item_35 : decode cqM_item 35 = .ok (.iload 4, 2) := by decide +kernel
theorem dqM_item_37 : decode cqM_item 37 = .ok (.sipush 500, 3) := by decide +kernel
theorem dqM_item_40 : decode cqM_item 40 = .ok (.if_icmp .le 6, 3) := by decide +kernel
theorem dqM_item_43 : decode cqM_item 43 = .ok (.bipush (-2), 2) := by decide +kernel
theorem dqM_item_45 : decode cqM_item 45 = .ok (.ireturn, 1) := by decide +kernel
theorem dqM_item_46 : decode cqM_item 46 = .ok (.bipush 24, 2) := by decide +kernel
theorem dqM_item_48 : decode cqM_item 48 = .ok (.iload_n 1, 1) := by decide +kernel
theorem dqM_item_49 : decode cqM_item 49 = .ok (.imul, 1) := by decide +kernel
theorem dqM_item_50 : decode cqM_item 50 = .ok (.iload_n 2, 1) := by decide +kernel
theorem dqM_item_51 : decode cqM_item 51 = .ok (.iadd, 1) := by decide +kernel
theorem dqM_item_52 : decode cqM_item 52 = .ok (.istore 5, 2) := by decide +kernel
theorem dqM_item_54 : decode cqM_item 54 = .ok (.aload_n 0, 1) := by decide +kernel
theorem dqM_item_55 : decode cqM_item 55 = .ok (.getfield 27, 3) := by decide +kernel
theorem dqM_item_58 : decode cqM_item 58 = .ok (.iload 5, 2) := by decide +kernel
theorem dqM_item_60 : decode cqM_item 60 = .ok (.baload, 1) := by decide +kernel
theorem dqM_item_61 : decode cqM_item 61 = .ok (.ifCond .eq 7, 3) := by decide +kernel
theorem dqM_item_64 : decode cqM_item 64 = .ok (.iconst 0, 1) := by decide +kernel
theorem dqM_item_65 : decode cqM_item 65 = .ok (.goto 4, 3) := by decide +kernel
theorem dqM_item_68 : decode cqM_item 68 = .ok (.iconst 1, 1) := by decide +kernel
theorem dqM_item_69 : decode cqM_item 69 = .ok (.istore 6, 2) := by decide +kernel
theorem dqM_item_71 : decode cqM_item 71 = .ok (.aload_n 0, 1) := by decide +kernel
theorem dqM_item_72 : decode cqM_item 72 = .ok (.getfield 27, 3) := by decide +kernel
theorem dqM_item_75 : decode cqM_item 75 = .ok (.iload 5, 2) := by decide +kernel
theorem dqM_item_77 : decode cqM_item 77 = .ok (.iconst 1, 1) := by decide +kernel
theorem dqM_item_78 : decode cqM_item 78 = .ok (.bastore, 1) := by decide +kernel
theorem dqM_item_79 : decode cqM_item 79 = .ok (.aload_n 0, 1) := by decide +kernel
theorem dqM_item_80 : decode cqM_item 80 = .ok (.getfield 30, 3) := by decide +kernel
theorem dqM_item_83 : decode cqM_item 83 = .ok (.iload 5, 2) := by decide +kernel
theorem dqM_item_85 : decode cqM_item 85 = .ok (.iload_n 3, 1) := by decide +kernel
theorem dqM_item_86 : decode cqM_item 86 = .ok (.iastore, 1) := by decide +kernel
theorem dqM_item_87 : decode cqM_item 87 = .ok (.aload_n 0, 1) := by decide +kernel
theorem dqM_item_88 : decode cqM_item 88 = .ok (.getfield 33, 3) := by decide +kernel
theorem dqM_item_91 : decode cqM_item 91 = .ok (.iload 5, 2) := by decide +kernel
theorem dqM_item_93 : decode cqM_item 93 = .ok (.iload 4, 2) := by decide +kernel
theorem dqM_item_95 : decode cqM_item 95 = .ok (.iastore, 1) := by decide +kernel
theorem dqM_item_96 : decode cqM_item 96 = .ok (.aload_n 0, 1) := by decide +kernel
theorem dqM_item_97 : decode cqM_item 97 = .ok (.invokevirtual 84, 3) := by decide +kernel
theorem dqM_item_100 : decode cqM_item 100 = .ok (.iload 6, 2) := by decide +kernel
theorem dqM_item_102 : decode cqM_item 102 = .ok (.ireturn, 1) := by decide +kernel
theorem dqM_remove_0 : decode cqM_remove 0 = .ok (.iload_n 1, 1) := by decide +kernel
theorem dqM_remove_1 : decode cqM_remove 1 = .ok (.ifCond .lt 30, 3) := by decide +kernel
theorem dqM_remove_4 : decode cqM_remove 4 = .ok (.iload_n 1, 1) := by decide +kernel
theorem dqM_remove_5 : decode cqM_remove 5 = .ok (.iconst 3, 1) := by decide +kernel
theorem dqM_remove_6 : decode cqM_remove 6 = .ok (.if_icmp .gt 25, 3) := by decide +kernel
theorem dqM_remove_9 : decode cqM_remove 9 = .ok (.aload_n 0, 1) := by decide +kernel
theorem dqM_remove_10 : decode cqM_remove 10 = .ok (.iload_n 2, 1) := by decide +kernel
theorem dqM_remove_11 : decode cqM_remove 11 = .ok (.invokevirtual 106, 3) := by decide +kernel
theorem dqM_remove_14 : decode cqM_remove 14 = .ok (.ifCond .eq 17, 3) := by decide +kernel
theorem dqM_remove_17 : decode cqM_remove 17 = .ok (.aload_n 0, 1) := by decide +kernel
theorem dqM_remove_18 : decode cqM_remove 18 = .ok (.getfield 27, 3) := by decide +kernel
theorem dqM_remove_21 : decode cqM_remove 21 = .ok (.bipush 24, 2) := by decide +kernel
theorem dqM_remove_23 : decode cqM_remove 23 = .ok (.iload_n 1, 1) := by decide +kernel
theorem dqM_remove_24 : decode cqM_remove 24 = .ok (.imul, 1) := by decide +kernel
theorem dqM_remove_25 : decode cqM_remove 25 = .ok (.iload_n 2, 1) := by decide +kernel
theorem dqM_remove_26 : decode cqM_remove 26 = .ok (.iadd, 1) := by decide +kernel
theorem dqM_remove_27 : decode cqM_remove 27 = .ok (.baload, 1) := by decide +kernel
theorem dqM_remove_28 : decode cqM_remove 28 = .ok (.ifCond .ne 5, 3) := by decide +kernel
theorem dqM_remove_31 : decode cqM_remove 31 = .ok (.iconst (-1), 1) := by decide +kernel
theorem dqM_remove_32 : decode cqM_remove 32 = .ok (.ireturn, 1) := by decide +kernel
theorem dqM_remove_33 : decode cqM_remove 33 = .ok (.aload_n 0, 1) := by decide +kernel
theorem dqM_remove_34 : decode cqM_remove 34 = .ok (.getfield 27, 3) := by decide +kernel
theorem dqM_remove_37 : decode cqM_remove 37 = .ok (.bipush 24, 2) := by decide +kernel
theorem dqM_remove_39 : decode cqM_remove 39 = .ok (.iload_n 1, 1) := by decide +kernel
theorem dqM_remove_40 : decode cqM_remove 40 = .ok (.imul, 1) := by decide +kernel
theorem dqM_remove_41 : decode cqM_remove 41 = .ok (.iload_n 2, 1) := by decide +kernel
theorem dqM_remove_42 : decode cqM_remove 42 = .ok (.iadd, 1) := by decide +kernel
theorem dqM_remove_43 : decode cqM_remove 43 = .ok (.iconst 0, 1) := by decide +kernel
theorem dqM_remove_44 : decode cqM_remove 44 = .ok (.bastore, 1) := by decide +kernel
theorem dqM_remove_45 : decode cqM_remove 45 = .ok (.aload_n 0, 1) := by decide +kernel
theorem dqM_remove_46 : decode cqM_remove 46 = .ok (.invokevirtual 84, 3) := by decide +kernel
theorem dqM_remove_49 : decode cqM_remove 49 = .ok (.iconst 1, 1) := by decide +kernel
theorem dqM_remove_50 : decode cqM_remove 50 = .ok (.ireturn, 1) := by decide +kernel
theorem dqM_rod_0 : decode cqM_rod 0 = .ok (.aload_n 0, 1) := by decide +kernel
theorem dqM_rod_1 : decode cqM_rod 1 = .ok (.iload_n 1, 1) := by decide +kernel
theorem dqM_rod_2 : decode cqM_rod 2 = .ok (.invokevirtual 106, 3) := by decide +kernel
theorem dqM_rod_5 : decode cqM_rod 5 = .ok (.ifCond .eq 11, 3) := by decide +kernel
theorem dqM_rod_8 : decode cqM_rod 8 = .ok (.aload_n 0, 1) := by decide +kernel
theorem dqM_rod_9 : decode cqM_rod 9 = .ok (.iload_n 2, 1) := by decide +kernel
theorem dqM_rod_10 : decode cqM_rod 10 = .ok (.invokevirtual 106, 3) := by decide +kernel
theorem dqM_rod_13 : decode cqM_rod 13 = .ok (.ifCond .ne 5, 3) := by decide +kernel
theorem dqM_rod_16 : decode cqM_rod 16 = .ok (.iconst (-1), 1) := by decide +kernel
theorem dqM_rod_17 : decode cqM_rod 17 = .ok (.ireturn, 1) := by decide +kernel
theorem dqM_rod_18 : decode cqM_rod 18 = .ok (.iload_n 1, 1) := by decide +kernel
theorem dqM_rod_19 : decode cqM_rod 19 = .ok (.iload_n 2, 1) := by decide +kernel
theorem dqM_rod_20 : decode cqM_rod 20 = .ok (.if_icmp .ge 14, 3) := by decide +kernel
theorem dqM_rod_23 : decode cqM_rod 23 = .ok (.iload_n 3, 1) := by decide +kernel
theorem dqM_rod_24 : decode cqM_rod 24 = .ok (.ifCond .lt 10, 3) := by decide +kernel
theorem dqM_rod_27 : decode cqM_rod 27 = .ok (.iload_n 3, 1) := by decide +kernel
theorem dqM_rod_28 : decode cqM_rod 28 = .ok (.sipush 5000, 3) := by decide +kernel
theorem dqM_rod_31 : decode cqM_rod 31 = .ok (.if_icmp .le 6, 3) := by decide +kernel
theorem dqM_rod_34 : decode cqM_rod 34 = .ok (.bipush (-2), 2) := by decide +kernel
theorem dqM_rod_36 : decode cqM_rod 36 = .ok (.ireturn, 1) := by decide +kernel
theorem dqM_rod_37 : decode cqM_rod 37 = .ok (.aload_n 0, 1) := by decide +kernel
theorem dqM_rod_38 : decode cqM_rod 38 = .ok (.getfield 91, 3) := by decide +kernel
theorem dqM_rod_41 : decode cqM_rod 41 = .ok (.bipush 20, 2) := by decide +kernel
theorem dqM_rod_43 : decode cqM_rod 43 = .ok (.if_icmp .ne 6, 3) := by decide +kernel
theorem dqM_rod_46 : decode cqM_rod 46 = .ok (.bipush (-4), 2) := by decide +kernel
theorem dqM_rod_48 : decode cqM_rod 48 = .ok (.ireturn, 1) := by decide +kernel
theorem dqM_rod_49 : decode cqM_rod 49 = .ok (.aload_n 0, 1) := by decide +kernel
theorem dqM_rod_50 : decode cqM_rod 50 = .ok (.getfield 36, 3) := by decide +kernel
theorem dqM_rod_53 : decode cqM_rod 53 = .ok (.aload_n 0, 1) := by decide +kernel
theorem dqM_rod_54 : decode cqM_rod 54 = .ok (.getfield 91, 3) := by decide +kernel
theorem dqM_rod_57 : decode cqM_rod 57 = .ok (.iload_n 1, 1) := by decide +kernel
theorem dqM_rod_58 : decode cqM_rod 58 = .ok (.iastore, 1) := by decide +kernel
theorem dqM_rod_59 : decode cqM_rod 59 = .ok (.aload_n 0, 1) := by decide +kernel
theorem dqM_rod_60 : decode cqM_rod 60 = .ok (.getfield 39, 3) := by decide +kernel
theorem dqM_rod_63 : decode cqM_rod 63 = .ok (.aload_n 0, 1) := by decide +kernel
theorem dqM_rod_64 : decode cqM_rod 64 = .ok (.getfield 91, 3) := by decide +kernel
theorem dqM_rod_67 : decode cqM_rod 67 = .ok (.iload_n 2, 1) := by decide +kernel
theorem dqM_rod_68 : decode cqM_rod 68 = .ok (.iastore, 1) := by decide +kernel
theorem dqM_rod_69 : decode cqM_rod 69 = .ok (.aload_n 0, 1) := by decide +kernel
theorem dqM_rod_70 : decode cqM_rod 70 = .ok (.getfield 42, 3) := by decide +kernel
theorem dqM_rod_73 : decode cqM_rod 73 = .ok (.aload_n 0, 1) := by decide +kernel
theorem dqM_rod_74 : decode cqM_rod 74 = .ok (.getfield 91, 3) := by decide +kernel
theorem dqM_rod_77 : decode cqM_rod 77 = .ok (.iload_n 3, 1) := by decide +kernel
theorem dqM_rod_78 : decode cqM_rod 78 = .ok (.iastore, 1) := by decide +kernel
theorem dqM_rod_79 : decode cqM_rod 79 = .ok (.aload_n 0, 1) := by decide +kernel
theorem dqM_rod_80 : decode cqM_rod 80 = .ok (.getfield 45, 3) := by decide +kernel
theorem dqM_rod_83 : decode cqM_rod 83 = .ok (.aload_n 0, 1) := by decide +kernel
theorem dqM_rod_84 : decode cqM_rod 84 = .ok (.getfield 91, 3) := by decide +kernel
theorem dqM_rod_87 : decode cqM_rod 87 = .ok (.iconst 1, 1) := by decide +kernel
theorem dqM_rod_88 : decode cqM_rod 88 = .ok (.bastore, 1) := by decide +kernel
theorem dqM_rod_89 : decode cqM_rod 89 = .ok (.aload_n 0, 1) := by decide +kernel
theorem dqM_rod_90 : decode cqM_rod 90 = .ok (.dup, 1) := by decide +kernel
theorem dqM_rod_91 : decode cqM_rod 91 = .ok (.getfield 91, 3) := by decide +kernel
theorem dqM_rod_94 : decode cqM_rod 94 = .ok (.iconst 1, 1) := by decide +kernel
theorem dqM_rod_95 : decode cqM_rod 95 = .ok (.iadd, 1) := by decide +kernel
theorem dqM_rod_96 : decode cqM_rod 96 = .ok (.putfield 91, 3) := by decide +kernel
theorem dqM_rod_99 : decode cqM_rod 99 = .ok (.aload_n 0, 1) := by decide +kernel
theorem dqM_rod_100 : decode cqM_rod 100 = .ok (.dup, 1) := by decide +kernel
theorem dqM_rod_101 : decode cqM_rod 101 = .ok (.getfield 94, 3) := by decide +kernel
theorem dqM_rod_104 : decode cqM_rod 104 = .ok (.iconst 1, 1) := by decide +kernel
theorem dqM_rod_105 : decode cqM_rod 105 = .ok (.iadd, 1) := by decide +kernel
theorem dqM_rod_106 : decode cqM_rod 106 = .ok (.putfield 94, 3) := by decide +kernel
theorem dqM_rod_109 : decode cqM_rod 109 = .ok (.aload_n 0, 1) := by decide +kernel
theorem dqM_rod_110 : decode cqM_rod 110 = .ok (.invokevirtual 84, 3) := by decide +kernel
theorem dqM_rod_113 : decode cqM_rod 113 = .ok (.aload_n 0, 1) := by decide +kernel
theorem dqM_rod_114 : decode cqM_rod 114 = .ok (.getfield 91, 3) := by decide +kernel
theorem dqM_rod_117 : decode cqM_rod 117 = .ok (.iconst 1, 1) := by decide +kernel
theorem dqM_rod_118 : decode cqM_rod 118 = .ok (.isub, 1) := by decide +kernel
theorem dqM_rod_119 : decode cqM_rod 119 = .ok (.ireturn, 1) := by decide +kernel
theorem dqM_drop_0 : decode cqM_drop 0 = .ok (.iload_n 1, 1) := by decide +kernel
theorem dqM_drop_1 : decode cqM_drop 1 = .ok (.ifCond .lt 20, 3) := by decide +kernel
theorem dqM_drop_4 : decode cqM_drop 4 = .ok (.iload_n 1, 1) := by decide +kernel
theorem dqM_drop_5 : decode cqM_drop 5 = .ok (.aload_n 0, 1) := by decide +kernel
theorem dqM_drop_6 : decode cqM_drop 6 = .ok (.getfield 91, 3) := by decide +kernel
theorem dqM_drop_9 : decode cqM_drop 9 = .ok (.if_icmp .ge 12, 3) := by decide +kernel
theorem dqM_drop_12 : decode cqM_drop 12 = .ok (.aload_n 0, 1) := by decide +kernel
theorem dqM_drop_13 : decode cqM_drop 13 = .ok (.getfield 45, 3) := by decide +kernel
theorem dqM_drop_16 : decode cqM_drop 16 = .ok (.iload_n 1, 1) := by decide +kernel
theorem dqM_drop_17 : decode cqM_drop 17 = .ok (.baload, 1) := by decide +kernel
theorem dqM_drop_18 : decode cqM_drop 18 = .ok (.ifCond .ne 5, 3) := by decide +kernel
theorem dqM_drop_21 : decode cqM_drop 21 = .ok (.iconst (-1), 1) := by decide +kernel
theorem dqM_drop_22 : decode cqM_drop 22 = .ok (.ireturn, 1) := by decide +kernel
theorem dqM_drop_23 : decode cqM_drop 23 = .ok (.aload_n 0, 1) := by decide +kernel
theorem dqM_drop_24 : decode cqM_drop 24 = .ok (.getfield 45, 3) := by decide +kernel
theorem dqM_drop_27 : decode cqM_drop 27 = .ok (.iload_n 1, 1) := by decide +kernel
theorem dqM_drop_28 : decode cqM_drop 28 = .ok (.iconst 0, 1) := by decide +kernel
theorem dqM_drop_29 : decode cqM_drop 29 = .ok (.bastore, 1) := by decide +kernel
theorem dqM_drop_30 : decode cqM_drop 30 = .ok (.aload_n 0, 1) := by decide +kernel
theorem dqM_drop_31 : decode cqM_drop 31 = .ok (.dup, 1) := by decide +kernel
theorem dqM_drop_32 : decode cqM_drop 32 = .ok (.getfield 94, 3) := by decide +kernel
theorem dqM_drop_35 : decode cqM_drop 35 = .ok (.iconst 1, 1) := by decide +kernel
theorem dqM_drop_36 : decode cqM_drop 36 = .ok (.isub, 1) := by decide +kernel
theorem dqM_drop_37 : decode cqM_drop 37 = .ok (.putfield 94, 3) := by decide +kernel
theorem dqM_drop_40 : decode cqM_drop 40 = .ok (.aload_n 0, 1) := by decide +kernel
theorem dqM_drop_41 : decode cqM_drop 41 = .ok (.invokevirtual 84, 3) := by decide +kernel
theorem dqM_drop_44 : decode cqM_drop 44 = .ok (.aload_n 0, 1) := by decide +kernel
theorem dqM_drop_45 : decode cqM_drop 45 = .ok (.getfield 94, 3) := by decide +kernel
theorem dqM_drop_48 : decode cqM_drop 48 = .ok (.ireturn, 1) := by decide +kernel
theorem dqM_bar_0 : decode cqM_bar 0 = .ok (.aload_n 0, 1) := by decide +kernel
theorem dqM_bar_1 : decode cqM_bar 1 = .ok (.iload_n 1, 1) := by decide +kernel
theorem dqM_bar_2 : decode cqM_bar 2 = .ok (.invokevirtual 106, 3) := by decide +kernel
theorem dqM_bar_5 : decode cqM_bar 5 = .ok (.ifCond .ne 5, 3) := by decide +kernel
theorem dqM_bar_8 : decode cqM_bar 8 = .ok (.iconst (-1), 1) := by decide +kernel
theorem dqM_bar_9 : decode cqM_bar 9 = .ok (.ireturn, 1) := by decide +kernel
theorem dqM_bar_10 : decode cqM_bar 10 = .ok (.aload_n 0, 1) := by decide +kernel
theorem dqM_bar_11 : decode cqM_bar 11 = .ok (.getfield 23, 3) := by decide +kernel
theorem dqM_bar_14 : decode cqM_bar 14 = .ok (.iload_n 1, 1) := by decide +kernel
theorem dqM_bar_15 : decode cqM_bar 15 = .ok (.baload, 1) := by decide +kernel
theorem dqM_bar_16 : decode cqM_bar 16 = .ok (.ifCond .eq 7, 3) := by decide +kernel
theorem dqM_bar_19 : decode cqM_bar 19 = .ok (.iconst 1, 1) := by decide +kernel
theorem dqM_bar_20 : decode cqM_bar 20 = .ok (.goto 4, 3) := by decide +kernel
theorem dqM_bar_23 : decode cqM_bar 23 = .ok (.iconst 0, 1) := by decide +kernel
theorem dqM_bar_24 : decode cqM_bar 24 = .ok (.istore_n 3, 1) := by decide +kernel
theorem dqM_bar_25 : decode cqM_bar 25 = .ok (.aload_n 0, 1) := by decide +kernel
theorem dqM_bar_26 : decode cqM_bar 26 = .ok (.getfield 23, 3) := by decide +kernel
theorem dqM_bar_29 : decode cqM_bar 29 = .ok (.iload_n 1, 1) := by decide +kernel
theorem dqM_bar_30 : decode cqM_bar 30 = .ok (.iload_n 2, 1) := by decide +kernel
theorem dqM_bar_31 : decode cqM_bar 31 = .ok (.bastore, 1) := by decide +kernel
theorem dqM_bar_32 : decode cqM_bar 32 = .ok (.aload_n 0, 1) := by decide +kernel
theorem dqM_bar_33 : decode cqM_bar 33 = .ok (.invokevirtual 84, 3) := by decide +kernel
theorem dqM_bar_36 : decode cqM_bar 36 = .ok (.iload_n 3, 1) := by decide +kernel
theorem dqM_bar_37 : decode cqM_bar 37 = .ok (.ireturn, 1) := by decide +kernel
theorem dqM_sum_0 : decode cqM_sum 0 = .ok (.iconst 0, 1) := by decide +kernel
theorem dqM_sum_1 : decode cqM_sum 1 = .ok (.istore_n 3, 1) := by decide +kernel
theorem dqM_sum_2 : decode cqM_sum 2 = .ok (.iload_n 1, 1) := by decide +kernel
theorem dqM_sum_3 : decode cqM_sum 3 = .ok (.istore 4, 2) := by decide +kernel
theorem dqM_sum_5 : decode cqM_sum 5 = .ok (.iload 4, 2) := by decide +kernel
theorem dqM_sum_7 : decode cqM_sum 7 = .ok (.iload_n 2, 1) := by decide +kernel
theorem dqM_sum_8 : decode cqM_sum 8 = .ok (.if_icmp .ge 19, 3) := by decide +kernel
theorem dqM_sum_11 : decode cqM_sum 11 = .ok (.iload_n 3, 1) := by decide +kernel
theorem dqM_sum_12 : decode cqM_sum 12 = .ok (.aload_n 0, 1) := by decide +kernel
theorem dqM_sum_13 : decode cqM_sum 13 = .ok (.getfield 62, 3) := by decide +kernel
theorem dqM_sum_16 : decode cqM_sum 16 = .ok (.iload 4, 2) := by decide +kernel
theorem dqM_sum_18 : decode cqM_sum 18 = .ok (.iaload, 1) := by decide +kernel
theorem dqM_sum_19 : decode cqM_sum 19 = .ok (.iadd, 1) := by decide +kernel
theorem dqM_sum_20 : decode cqM_sum 20 = .ok (.istore_n 3, 1) := by decide +kernel
theorem dqM_sum_21 : decode cqM_sum 21 = .ok (.iinc 4 1, 3) := by decide +kernel
theorem dqM_sum_24 : decode cqM_sum 24 = .ok (.goto (-19), 3) := by decide +kernel
theorem dqM_sum_27 : decode cqM_sum 27 = .ok (.iload_n 3, 1) := by decide +kernel
theorem dqM_sum_28 : decode cqM_sum 28 = .ok (.ireturn, 1) := by decide +kernel
theorem dqM_hasSpring_0 : decode cqM_hasSpring 0 = .ok (.iload_n 1, 1) := by decide +kernel
theorem dqM_hasSpring_1 : decode cqM_hasSpring 1 = .ok (.istore_n 3, 1) := by decide +kernel
theorem dqM_hasSpring_2 : decode cqM_hasSpring 2 = .ok (.iload_n 3, 1) := by decide +kernel
theorem dqM_hasSpring_3 : decode cqM_hasSpring 3 = .ok (.iload_n 2, 1) := by decide +kernel
theorem dqM_hasSpring_4 : decode cqM_hasSpring 4 = .ok (.if_icmp .ge 22, 3) := by decide +kernel
theorem dqM_hasSpring_7 : decode cqM_hasSpring 7 = .ok (.aload_n 0, 1) := by decide +kernel
theorem dqM_hasSpring_8 : decode cqM_hasSpring 8 = .ok (.getfield 55, 3) := by decide +kernel
theorem dqM_hasSpring_11 : decode cqM_hasSpring 11 = .ok (.iload_n 3, 1) := by decide +kernel
theorem dqM_hasSpring_12 : decode cqM_hasSpring 12 = .ok (.laload, 1) := by decide +kernel
theorem dqM_hasSpring_13 : decode cqM_hasSpring 13 = .ok (.lconst 0, 1) := by decide +kernel
theorem dqM_hasSpring_14 : decode cqM_hasSpring 14 = .ok (.lcmp, 1) := by decide +kernel
theorem dqM_hasSpring_15 : decode cqM_hasSpring 15 = .ok (.ifCond .le 5, 3) := by decide +kernel
theorem dqM_hasSpring_18 : decode cqM_hasSpring 18 = .ok (.iconst 1, 1) := by decide +kernel
theorem dqM_hasSpring_19 : decode cqM_hasSpring 19 = .ok (.ireturn, 1) := by decide +kernel
theorem dqM_hasSpring_20 : decode cqM_hasSpring 20 = .ok (.iinc 3 1, 3) := by decide +kernel
theorem dqM_hasSpring_23 : decode cqM_hasSpring 23 = .ok (.goto (-21), 3) := by decide +kernel
theorem dqM_hasSpring_26 : decode cqM_hasSpring 26 = .ok (.iconst 0, 1) := by decide +kernel
theorem dqM_hasSpring_27 : decode cqM_hasSpring 27 = .ok (.ireturn, 1) := by decide +kernel
theorem dqM_findForce_0 : decode cqM_findForce 0 = .ok (.aload_n 0, 1) := by decide +kernel
theorem dqM_findForce_1 : decode cqM_findForce 1 = .ok (.lconst 0, 1) := by decide +kernel
theorem dqM_findForce_2 : decode cqM_findForce 2 = .ok (.putfield 110, 3) := by decide +kernel
theorem dqM_findForce_5 : decode cqM_findForce 5 = .ok (.aload_n 0, 1) := by decide +kernel
theorem dqM_findForce_6 : decode cqM_findForce 6 = .ok (.lconst 1, 1) := by decide +kernel
theorem dqM_findForce_7 : decode cqM_findForce 7 = .ok (.putfield 113, 3) := by decide +kernel
theorem dqM_findForce_10 : decode cqM_findForce 10 = .ok (.aload_n 0, 1) := by decide +kernel
theorem dqM_findForce_11 : decode cqM_findForce 11 = .ok (.iload_n 1, 1) := by decide +kernel
theorem dqM_findForce_12 : decode cqM_findForce 12 = .ok (.iload_n 2, 1) := by decide +kernel
theorem dqM_findForce_13 : decode cqM_findForce 13 = .ok (.invokevirtual 116, 3) := by decide +kernel
theorem dqM_findForce_16 : decode cqM_findForce 16 = .ok (.i2l, 1) := by decide +kernel
theorem dqM_findForce_17 : decode cqM_findForce 17 = .ok (.lstore 4, 2) := by decide +kernel
theorem dqM_findForce_19 : decode cqM_findForce 19 = .ok (.lload 4, 2) := by decide +kernel
theorem dqM_findForce_21 : decode cqM_findForce 21 = .ok (.iload_n 3, 1) := by decide +kernel
theorem dqM_findForce_22 : decode cqM_findForce 22 = .ok (.i2l, 1) := by decide +kernel
theorem dqM_findForce_23 : decode cqM_findForce 23 = .ok (.lcmp, 1) := by decide +kernel
theorem dqM_findForce_24 : decode cqM_findForce 24 = .ok (.ifCond .ge 12, 3) := by decide +kernel
theorem dqM_findForce_27 : decode cqM_findForce 27 = .ok (.aload_n 0, 1) := by decide +kernel
theorem dqM_findForce_28 : decode cqM_findForce 28 = .ok (.iload_n 1, 1) := by decide +kernel
theorem dqM_findForce_29 : decode cqM_findForce 29 = .ok (.iload_n 2, 1) := by decide +kernel
theorem dqM_findForce_30 : decode cqM_findForce 30 = .ok (.invokevirtual 120, 3) := by decide +kernel
theorem dqM_findForce_33 : decode cqM_findForce 33 = .ok (.ifCond .ne 4, 3) := by decide +kernel
theorem dqM_findForce_36 : decode cqM_findForce 36 = .ok (.return_, 1) := by decide +kernel
theorem dqM_findForce_37 : decode cqM_findForce 37 = .ok (.iload_n 1, 1) := by decide +kernel
theorem dqM_findForce_38 : decode cqM_findForce 38 = .ok (.istore 6, 2) := by decide +kernel
theorem dqM_findForce_40 : decode cqM_findForce 40 = .ok (.iload 6, 2) := by decide +kernel
theorem dqM_findForce_42 : decode cqM_findForce 42 = .ok (.iload_n 2, 1) := by decide +kernel
theorem dqM_findForce_43 : decode cqM_findForce 43 = .ok (.if_icmp .ge 17, 3) := by decide +kernel
theorem dqM_findForce_46 : decode cqM_findForce 46 = .ok (.aload_n 0, 1) := by decide +kernel
theorem dqM_findForce_47 : decode cqM_findForce 47 = .ok (.getfield 65, 3) := by decide +kernel
theorem dqM_findForce_50 : decode cqM_findForce 50 = .ok (.iload 6, 2) := by decide +kernel
theorem dqM_findForce_52 : decode cqM_findForce 52 = .ok (.iconst 0, 1) := by decide +kernel
theorem dqM_findForce_53 : decode cqM_findForce 53 = .ok (.bastore, 1) := by decide +kernel
theorem dqM_findForce_54 : decode cqM_findForce 54 = .ok (.iinc 6 1, 3) := by decide +kernel
theorem dqM_findForce_57 : decode cqM_findForce 57 = .ok (.goto (-17), 3) := by decide +kernel
theorem dqM_findForce_60 : decode cqM_findForce 60 = .ok (.lconst 0, 1) := by decide +kernel
theorem dqM_findForce_61 : decode cqM_findForce 61 = .ok (.lstore 6, 2) := by decide +kernel
theorem dqM_findForce_63 : decode cqM_findForce 63 = .ok (.iconst 0, 1) := by decide +kernel
theorem dqM_findForce_64 : decode cqM_findForce 64 = .ok (.istore 8, 2) := by decide +kernel
theorem dqM_findForce_66 : decode cqM_findForce 66 = .ok (.iload 8, 2) := by decide +kernel
theorem dqM_findForce_68 : decode cqM_findForce 68 = .ok (.ifCond .ne 176, 3) := by decide +kernel
theorem dqM_findForce_71 : decode cqM_findForce 71 = .ok (.iconst (-1), 1) := by decide +kernel
theorem dqM_findForce_72 : decode cqM_findForce 72 = .ok (.istore 9, 2) := by decide +kernel
theorem dqM_findForce_74 : decode cqM_findForce 74 = .ok (.iload_n 1, 1) := by decide +kernel
theorem dqM_findForce_75 : decode cqM_findForce 75 = .ok (.istore 10, 2) := by decide +kernel
theorem dqM_findForce_77 : decode cqM_findForce 77 = .ok (.iload 10, 2) := by decide +kernel
theorem dqM_findForce_79 : decode cqM_findForce 79 = .ok (.iload_n 2, 1) := by decide +kernel
theorem dqM_findForce_80 : decode cqM_findForce 80 = .ok (.if_icmp .ge 76, 3) := by decide +kernel
theorem dqM_findForce_83 : decode cqM_findForce 83 = .ok (.aload_n 0, 1) := by decide +kernel
theorem dqM_findForce_84 : decode cqM_findForce 84 = .ok (.getfield 65, 3) := by decide +kernel
theorem dqM_findForce_87 : decode cqM_findForce 87 = .ok (.iload 10, 2) := by decide +kernel
theorem dqM_findForce_89 : decode cqM_findForce 89 = .ok (.baload, 1) := by decide +kernel
theorem dqM_findForce_90 : decode cqM_findForce 90 = .ok (.ifCond .ne 60, 3) := by decide +kernel
theorem dqM_findForce_93 : decode cqM_findForce 93 = .ok (.aload_n 0, 1) := by decide +kernel
theorem dqM_findForce_94 : decode cqM_findForce 94 = .ok (.getfield 55, 3) := by decide +kernel
theorem dqM_findForce_97 : decode cqM_findForce 97 = .ok (.iload 10, 2) := by decide +kernel
theorem dqM_findForce_99 : decode cqM_findForce 99 = .ok (.laload, 1) := by decide +kernel
theorem dqM_findForce_100 : decode cqM_findForce 100 = .ok (.lconst 0, 1) := by decide +kernel
theorem dqM_findForce_101 : decode cqM_findForce 101 = .ok (.lcmp, 1) := by decide +kernel
theorem dqM_findForce_102 : decode cqM_findForce 102 = .ok (.ifCond .le 48, 3) := by decide +kernel
theorem dqM_findForce_105 : decode cqM_findForce 105 = .ok (.iload 9, 2) := by decide +kernel
theorem dqM_findForce_107 : decode cqM_findForce 107 = .ok (.ifCond .lt 39, 3) := by decide +kernel
theorem dqM_findForce_110 : decode cqM_findForce 110 = .ok (.aload_n 0, 1) := by decide +kernel
theorem dqM_findForce_111 : decode cqM_findForce 111 = .ok (.getfield 62, 3) := by decide +kernel
theorem dqM_findForce_114 : decode cqM_findForce 114 = .ok (.iload 10, 2) := by decide +kernel
theorem dqM_findForce_116 : decode cqM_findForce 116 = .ok (.iaload, 1) := by decide +kernel
theorem dqM_findForce_117 : decode cqM_findForce 117 = .ok (.i2l, 1) := by decide +kernel
theorem dqM_findForce_118 : decode cqM_findForce 118 = .ok (.aload_n 0, 1) := by decide +kernel
theorem dqM_findForce_119 : decode cqM_findForce 119 = .ok (.getfield 55, 3) := by decide +kernel
theorem dqM_findForce_122 : decode cqM_findForce 122 = .ok (.iload 9, 2) := by decide +kernel
theorem dqM_findForce_124 : decode cqM_findForce 124 = .ok (.laload, 1) := by decide +kernel
theorem dqM_findForce_125 : decode cqM_findForce 125 = .ok (.lmul, 1) := by decide +kernel
theorem dqM_findForce_126 : decode cqM_findForce 126 = .ok (.aload_n 0, 1) := by decide +kernel
theorem dqM_findForce_127 : decode cqM_findForce 127 = .ok (.getfield 62, 3) := by decide +kernel
theorem dqM_findForce_130 : decode cqM_findForce 130 = .ok (.iload 9, 2) := by decide +kernel
theorem dqM_findForce_132 : decode cqM_findForce 132 = .ok (.iaload, 1) := by decide +kernel
theorem dqM_findForce_133 : decode cqM_findForce 133 = .ok (.i2l, 1) := by decide +kernel
theorem dqM_findForce_134 : decode cqM_findForce 134 = .ok (.aload_n 0, 1) := by decide +kernel
theorem dqM_findForce_135 : decode cqM_findForce 135 = .ok (.getfield 55, 3) := by decide +kernel
theorem dqM_findForce_138 : decode cqM_findForce 138 = .ok (.iload 10, 2) := by decide +kernel
theorem dqM_findForce_140 : decode cqM_findForce 140 = .ok (.laload, 1) := by decide +kernel
theorem dqM_findForce_141 : decode cqM_findForce 141 = .ok (.lmul, 1) := by decide +kernel
theorem dqM_findForce_142 : decode cqM_findForce 142 = .ok (.lcmp, 1) := by decide +kernel
theorem dqM_findForce_143 : decode cqM_findForce 143 = .ok (.ifCond .ge 7, 3) := by decide +kernel
theorem dqM_findForce_146 : decode cqM_findForce 146 = .ok (.iload 10, 2) := by decide +kernel
theorem dqM_findForce_148 : decode cqM_findForce 148 = .ok (.istore 9, 2) := by decide +kernel
theorem dqM_findForce_150 : decode cqM_findForce 150 = .ok (.iinc 10 1, 3) := by decide +kernel
theorem dqM_findForce_153 : decode cqM_findForce 153 = .ok (.goto (-76), 3) := by decide +kernel
theorem dqM_findForce_156 : decode cqM_findForce 156 = .ok (.iload 9, 2) := by decide +kernel
theorem dqM_findForce_158 : decode cqM_findForce 158 = .ok (.ifCond .lt 38, 3) := by decide +kernel
theorem dqM_findForce_161 : decode cqM_findForce 161 = .ok (.lload 6, 2) := by decide +kernel
theorem dqM_findForce_163 : decode cqM_findForce 163 = .ok (.lconst 0, 1) := by decide +kernel
theorem dqM_findForce_164 : decode cqM_findForce 164 = .ok (.lcmp, 1) := by decide +kernel
theorem dqM_findForce_165 : decode cqM_findForce 165 = .ok (.ifCond .le 35, 3) := by decide +kernel
theorem dqM_findForce_168 : decode cqM_findForce 168 = .ok (.iload_n 3, 1) := by decide +kernel
theorem dqM_findForce_169 : decode cqM_findForce 169 = .ok (.i2l, 1) := by decide +kernel
theorem dqM_findForce_170 : decode cqM_findForce 170 = .ok (.lload 4, 2) := by decide +kernel
theorem dqM_findForce_172 : decode cqM_findForce 172 = .ok (.lsub, 1) := by decide +kernel
theorem dqM_findForce_173 : decode cqM_findForce 173 = .ok (.aload_n 0, 1) := by decide +kernel
theorem dqM_findForce_174 : decode cqM_findForce 174 = .ok (.getfield 55, 3) := by decide +kernel
theorem dqM_findForce_177 : decode cqM_findForce 177 = .ok (.iload 9, 2) := by decide +kernel
theorem dqM_findForce_179 : decode cqM_findForce 179 = .ok (.laload, 1) := by decide +kernel
theorem dqM_findForce_180 : decode cqM_findForce 180 = .ok (.lmul, 1) := by decide +kernel
theorem dqM_findForce_181 : decode cqM_findForce 181 = .ok (.aload_n 0, 1) := by decide +kernel
theorem dqM_findForce_182 : decode cqM_findForce 182 = .ok (.getfield 62, 3) := by decide +kernel
theorem dqM_findForce_185 : decode cqM_findForce 185 = .ok (.iload 9, 2) := by decide +kernel
theorem dqM_findForce_187 : decode cqM_findForce 187 = .ok (.iaload, 1) := by decide +kernel
theorem dqM_findForce_188 : decode cqM_findForce 188 = .ok (.i2l, 1) := by decide +kernel
theorem dqM_findForce_189 : decode cqM_findForce 189 = .ok (.lload 6, 2) := by decide +kernel
theorem dqM_findForce_191 : decode cqM_findForce 191 = .ok (.lmul, 1) := by decide +kernel
theorem dqM_findForce_192 : decode cqM_findForce 192 = .ok (.lcmp, 1) := by decide +kernel
theorem dqM_findForce_193 : decode cqM_findForce 193 = .ok (.ifCond .gt 7, 3) := by decide +kernel
theorem dqM_findForce_196 : decode cqM_findForce 196 = .ok (.iconst 1, 1) := by decide +kernel
theorem dqM_findForce_197 : decode cqM_findForce 197 = .ok (.goto 4, 3) := by decide +kernel
theorem dqM_findForce_200 : decode cqM_findForce 200 = .ok (.iconst 0, 1) := by decide +kernel
theorem dqM_findForce_201 : decode cqM_findForce 201 = .ok (.istore 8, 2) := by decide +kernel
theorem dqM_findForce_203 : decode cqM_findForce 203 = .ok (.iload 8, 2) := by decide +kernel
theorem dqM_findForce_205 : decode cqM_findForce 205 = .ok (.ifCond .ne 36, 3) := by decide +kernel
theorem dqM_findForce_208 : decode cqM_findForce 208 = .ok (.aload_n 0, 1) := by decide +kernel
theorem dqM_findForce_209 : decode cqM_findForce 209 = .ok (.getfield 65, 3) := by decide +kernel
theorem dqM_findForce_212 : decode cqM_findForce 212 = .ok (.iload 9, 2) := by decide +kernel
theorem dqM_findForce_214 : decode cqM_findForce 214 = .ok (.iconst 1, 1) := by decide +kernel
theorem dqM_findForce_215 : decode cqM_findForce 215 = .ok (.bastore, 1) := by decide +kernel
theorem dqM_findForce_216 : decode cqM_findForce 216 = .ok (.lload 6, 2) := by decide +kernel
theorem dqM_findForce_218 : decode cqM_findForce 218 = .ok (.aload_n 0, 1) := by decide +kernel
theorem dqM_findForce_219 : decode cqM_findForce 219 = .ok (.getfield 55, 3) := by decide +kernel
theorem dqM_findForce_222 : decode cqM_findForce 222 = .ok (.iload 9, 2) := by decide +kernel
theorem dqM_findForce_224 : decode cqM_findForce 224 = .ok (.laload, 1) := by decide +kernel
theorem dqM_findForce_225 : decode cqM_findForce 225 = .ok (.ladd, 1) := by decide +kernel
theorem dqM_findForce_226 : decode cqM_findForce 226 = .ok (.lstore 6, 2) := by decide +kernel
theorem dqM_findForce_228 : decode cqM_findForce 228 = .ok (.lload 4, 2) := by decide +kernel
theorem dqM_findForce_230 : decode cqM_findForce 230 = .ok (.aload_n 0, 1) := by decide +kernel
theorem dqM_findForce_231 : decode cqM_findForce 231 = .ok (.getfield 62, 3) := by decide +kernel
theorem dqM_findForce_234 : decode cqM_findForce 234 = .ok (.iload 9, 2) := by decide +kernel
theorem dqM_findForce_236 : decode cqM_findForce 236 = .ok (.iaload, 1) := by decide +kernel
theorem dqM_findForce_237 : decode cqM_findForce 237 = .ok (.i2l, 1) := by decide +kernel
theorem dqM_findForce_238 : decode cqM_findForce 238 = .ok (.lsub, 1) := by decide +kernel
theorem dqM_findForce_239 : decode cqM_findForce 239 = .ok (.lstore 4, 2) := by decide +kernel
theorem dqM_findForce_241 : decode cqM_findForce 241 = .ok (.goto (-175), 3) := by decide +kernel
theorem dqM_findForce_244 : decode cqM_findForce 244 = .ok (.aload_n 0, 1) := by decide +kernel
theorem dqM_findForce_245 : decode cqM_findForce 245 = .ok (.iload_n 3, 1) := by decide +kernel
theorem dqM_findForce_246 : decode cqM_findForce 246 = .ok (.i2l, 1) := by decide +kernel
theorem dqM_findForce_247 : decode cqM_findForce 247 = .ok (.lload 4, 2) := by decide +kernel
theorem dqM_findForce_249 : decode cqM_findForce 249 = .ok (.lsub, 1) := by decide +kernel
theorem dqM_findForce_250 : decode cqM_findForce 250 = .ok (.putfield 110, 3) := by decide +kernel
theorem dqM_findForce_253 : decode cqM_findForce 253 = .ok (.aload_n 0, 1) := by decide +kernel
theorem dqM_findForce_254 : decode cqM_findForce 254 = .ok (.lload 6, 2) := by decide +kernel
theorem dqM_findForce_256 : decode cqM_findForce 256 = .ok (.putfield 113, 3) := by decide +kernel
theorem dqM_findForce_259 : decode cqM_findForce 259 = .ok (.return_, 1) := by decide +kernel
end
section
theorem dqM_need_0 : decode cqM_need 0 = .ok (.iload_n 1, 1) := by decide +kernel
theorem dqM_need_1 : decode cqM_need 1 = .ok (.iload 4, 2) := by decide +kernel
theorem dqM_need_3 : decode cqM_need 3 = .ok (.if_icmp .lt 19, 3) := by decide +kernel
theorem dqM_need_6 : decode cqM_need 6 = .ok (.iload_n 2, 1) := by decide +kernel
theorem dqM_need_7 : decode cqM_need 7 = .ok (.iload 5, 2) := by decide +kernel
theorem dqM_need_9 : decode cqM_need 9 = .ok (.if_icmp .gt 13, 3) := by decide +kernel
theorem dqM_need_12 : decode cqM_need 12 = .ok (.aload_n 0, 1) := by decide +kernel
theorem dqM_need_13 : decode cqM_need 13 = .ok (.iload_n 1, 1) := by decide +kernel
theorem dqM_need_14 : decode cqM_need 14 = .ok (.iload_n 2, 1) := by decide +kernel
theorem dqM_need_15 : decode cqM_need 15 = .ok (.invokevirtual 116, 3) := by decide +kernel
theorem dqM_need_18 : decode cqM_need 18 = .ok (.iload_n 3, 1) := by decide +kernel
theorem dqM_need_19 : decode cqM_need 19 = .ok (.if_icmp .lt 4, 3) := by decide +kernel
theorem dqM_need_22 : decode cqM_need 22 = .ok (.return_, 1) := by decide +kernel
theorem dqM_need_23 : decode cqM_need 23 = .ok (.aload_n 0, 1) := by decide +kernel
theorem dqM_need_24 : decode cqM_need 24 = .ok (.iload_n 1, 1) := by decide +kernel
theorem dqM_need_25 : decode cqM_need 25 = .ok (.iload_n 2, 1) := by decide +kernel
theorem dqM_need_26 : decode cqM_need 26 = .ok (.invokevirtual 120, 3) := by decide +kernel
theorem dqM_need_29 : decode cqM_need 29 = .ok (.ifCond .ne 23, 3) := by decide +kernel
theorem dqM_need_32 : decode cqM_need 32 = .ok (.aload_n 0, 1) := by decide +kernel
theorem dqM_need_33 : decode cqM_need 33 = .ok (.getfield 62, 3) := by decide +kernel
theorem dqM_need_36 : decode cqM_need 36 = .ok (.iload_n 2, 1) := by decide +kernel
theorem dqM_need_37 : decode cqM_need 37 = .ok (.iconst 1, 1) := by decide +kernel
theorem dqM_need_38 : decode cqM_need 38 = .ok (.isub, 1) := by decide +kernel
theorem dqM_need_39 : decode cqM_need 39 = .ok (.dup2, 1) := by decide +kernel
theorem dqM_need_40 : decode cqM_need 40 = .ok (.iaload, 1) := by decide +kernel
theorem dqM_need_41 : decode cqM_need 41 = .ok (.iload_n 3, 1) := by decide +kernel
theorem dqM_need_42 : decode cqM_need 42 = .ok (.aload_n 0, 1) := by decide +kernel
theorem dqM_need_43 : decode cqM_need 43 = .ok (.iload_n 1, 1) := by decide +kernel
theorem dqM_need_44 : decode cqM_need 44 = .ok (.iload_n 2, 1) := by decide +kernel
theorem dqM_need_45 : decode cqM_need 45 = .ok (.invokevirtual 116, 3) := by decide +kernel
theorem dqM_need_48 : decode cqM_need 48 = .ok (.isub, 1) := by decide +kernel
theorem dqM_need_49 : decode cqM_need 49 = .ok (.iadd, 1) := by decide +kernel
theorem dqM_need_50 : decode cqM_need 50 = .ok (.iastore, 1) := by decide +kernel
theorem dqM_need_51 : decode cqM_need 51 = .ok (.return_, 1) := by decide +kernel
theorem dqM_need_52 : decode cqM_need 52 = .ok (.aload_n 0, 1) := by decide +kernel
theorem dqM_need_53 : decode cqM_need 53 = .ok (.iload_n 1, 1) := by decide +kernel
theorem dqM_need_54 : decode cqM_need 54 = .ok (.iload_n 2, 1) := by decide +kernel
theorem dqM_need_55 : decode cqM_need 55 = .ok (.iload_n 3, 1) := by decide +kernel
theorem dqM_need_56 : decode cqM_need 56 = .ok (.invokevirtual 124, 3) := by decide +kernel
theorem dqM_need_59 : decode cqM_need 59 = .ok (.iload_n 1, 1) := by decide +kernel
theorem dqM_need_60 : decode cqM_need 60 = .ok (.istore 6, 2) := by decide +kernel
theorem dqM_need_62 : decode cqM_need 62 = .ok (.iload 6, 2) := by decide +kernel
theorem dqM_need_64 : decode cqM_need 64 = .ok (.iload_n 2, 1) := by decide +kernel
theorem dqM_need_65 : decode cqM_need 65 = .ok (.if_icmp .ge 69, 3) := by decide +kernel
theorem dqM_need_68 : decode cqM_need 68 = .ok (.aload_n 0, 1) := by decide +kernel
theorem dqM_need_69 : decode cqM_need 69 = .ok (.getfield 110, 3) := by decide +kernel
theorem dqM_need_72 : decode cqM_need 72 = .ok (.aload_n 0, 1) := by decide +kernel
theorem dqM_need_73 : decode cqM_need 73 = .ok (.getfield 55, 3) := by decide +kernel
theorem dqM_need_76 : decode cqM_need 76 = .ok (.iload 6, 2) := by decide +kernel
theorem dqM_need_78 : decode cqM_need 78 = .ok (.laload, 1) := by decide +kernel
theorem dqM_need_79 : decode cqM_need 79 = .ok (.lmul, 1) := by decide +kernel
theorem dqM_need_80 : decode cqM_need 80 = .ok (.aload_n 0, 1) := by decide +kernel
theorem dqM_need_81 : decode cqM_need 81 = .ok (.getfield 113, 3) := by decide +kernel
theorem dqM_need_84 : decode cqM_need 84 = .ok (.ladd, 1) := by decide +kernel
theorem dqM_need_85 : decode cqM_need 85 = .ok (.lconst 1, 1) := by decide +kernel
theorem dqM_need_86 : decode cqM_need 86 = .ok (.lsub, 1) := by decide +kernel
theorem dqM_need_87 : decode cqM_need 87 = .ok (.aload_n 0, 1) := by decide +kernel
theorem dqM_need_88 : decode cqM_need 88 = .ok (.getfield 113, 3) := by decide +kernel
theorem dqM_need_91 : decode cqM_need 91 = .ok (.ldiv, 1) := by decide +kernel
theorem dqM_need_92 : decode cqM_need 92 = .ok (.lstore 7, 2) := by decide +kernel
theorem dqM_need_94 : decode cqM_need 94 = .ok (.aload_n 0, 1) := by decide +kernel
theorem dqM_need_95 : decode cqM_need 95 = .ok (.getfield 62, 3) := by decide +kernel
theorem dqM_need_98 : decode cqM_need 98 = .ok (.iload 6, 2) := by decide +kernel
theorem dqM_need_100 : decode cqM_need 100 = .ok (.lload 7, 2) := by decide +kernel
theorem dqM_need_102 : decode cqM_need 102 = .ok (.aload_n 0, 1) := by decide +kernel
theorem dqM_need_103 : decode cqM_need 103 = .ok (.getfield 62, 3) := by decide +kernel
theorem dqM_need_106 : decode cqM_need 106 = .ok (.iload 6, 2) := by decide +kernel
theorem dqM_need_108 : decode cqM_need 108 = .ok (.iaload, 1) := by decide +kernel
theorem dqM_need_109 : decode cqM_need 109 = .ok (.i2l, 1) := by decide +kernel
theorem dqM_need_110 : decode cqM_need 110 = .ok (.lcmp, 1) := by decide +kernel
theorem dqM_need_111 : decode cqM_need 111 = .ok (.ifCond .le 9, 3) := by decide +kernel
theorem dqM_need_114 : decode cqM_need 114 = .ok (.lload 7, 2) := by decide +kernel
theorem dqM_need_116 : decode cqM_need 116 = .ok (.l2i, 1) := by decide +kernel
theorem dqM_need_117 : decode cqM_need 117 = .ok (.goto 10, 3) := by decide +kernel
theorem dqM_need_120 : decode cqM_need 120 = .ok (.aload_n 0, 1) := by decide +kernel
theorem dqM_need_121 : decode cqM_need 121 = .ok (.getfield 62, 3) := by decide +kernel
theorem dqM_need_124 : decode cqM_need 124 = .ok (.iload 6, 2) := by decide +kernel
theorem dqM_need_126 : decode cqM_need 126 = .ok (.iaload, 1) := by decide +kernel
theorem dqM_need_127 : decode cqM_need 127 = .ok (.iastore, 1) := by decide +kernel
theorem dqM_need_128 : decode cqM_need 128 = .ok (.iinc 6 1, 3) := by decide +kernel
theorem dqM_need_131 : decode cqM_need 131 = .ok (.goto (-69), 3) := by decide +kernel
theorem dqM_need_134 : decode cqM_need 134 = .ok (.return_, 1) := by decide +kernel
theorem dqM_settle_0 : decode cqM_settle 0 = .ok (.iconst 0, 1) := by decide +kernel
theorem dqM_settle_1 : decode cqM_settle 1 = .ok (.istore_n 3, 1) := by decide +kernel
theorem dqM_settle_2 : decode cqM_settle 2 = .ok (.iload_n 3, 1) := by decide +kernel
theorem dqM_settle_3 : decode cqM_settle 3 = .ok (.iconst 1, 1) := by decide +kernel
theorem dqM_settle_4 : decode cqM_settle 4 = .ok (.iadd, 1) := by decide +kernel
theorem dqM_settle_5 : decode cqM_settle 5 = .ok (.aload_n 0, 1) := by decide +kernel
theorem dqM_settle_6 : decode cqM_settle 6 = .ok (.getfield 88, 3) := by decide +kernel
theorem dqM_settle_9 : decode cqM_settle 9 = .ok (.if_icmp .ge 46, 3) := by decide +kernel
theorem dqM_settle_12 : decode cqM_settle 12 = .ok (.aload_n 0, 1) := by decide +kernel
theorem dqM_settle_13 : decode cqM_settle 13 = .ok (.getfield 55, 3) := by decide +kernel
theorem dqM_settle_16 : decode cqM_settle 16 = .ok (.iload_n 3, 1) := by decide +kernel
theorem dqM_settle_17 : decode cqM_settle 17 = .ok (.aload_n 0, 1) := by decide +kernel
theorem dqM_settle_18 : decode cqM_settle 18 = .ok (.aload_n 0, 1) := by decide +kernel
theorem dqM_settle_19 : decode cqM_settle 19 = .ok (.getfield 16, 3) := by decide +kernel
theorem dqM_settle_22 : decode cqM_settle 22 = .ok (.iload_n 3, 1) := by decide +kernel
theorem dqM_settle_23 : decode cqM_settle 23 = .ok (.iconst 1, 1) := by decide +kernel
theorem dqM_settle_24 : decode cqM_settle 24 = .ok (.iadd, 1) := by decide +kernel
theorem dqM_settle_25 : decode cqM_settle 25 = .ok (.iaload, 1) := by decide +kernel
theorem dqM_settle_26 : decode cqM_settle 26 = .ok (.aload_n 0, 1) := by decide +kernel
theorem dqM_settle_27 : decode cqM_settle 27 = .ok (.getfield 16, 3) := by decide +kernel
theorem dqM_settle_30 : decode cqM_settle 30 = .ok (.iload_n 3, 1) := by decide +kernel
theorem dqM_settle_31 : decode cqM_settle 31 = .ok (.iaload, 1) := by decide +kernel
theorem dqM_settle_32 : decode cqM_settle 32 = .ok (.isub, 1) := by decide +kernel
theorem dqM_settle_33 : decode cqM_settle 33 = .ok (.invokevirtual 102, 3) := by decide +kernel
theorem dqM_settle_36 : decode cqM_settle 36 = .ok (.lastore, 1) := by decide +kernel
theorem dqM_settle_37 : decode cqM_settle 37 = .ok (.aload_n 0, 1) := by decide +kernel
theorem dqM_settle_38 : decode cqM_settle 38 = .ok (.getfield 62, 3) := by decide +kernel
theorem dqM_settle_41 : decode cqM_settle 41 = .ok (.iload_n 3, 1) := by decide +kernel
theorem dqM_settle_42 : decode cqM_settle 42 = .ok (.aload_n 0, 1) := by decide +kernel
theorem dqM_settle_43 : decode cqM_settle 43 = .ok (.getfield 20, 3) := by decide +kernel
theorem dqM_settle_46 : decode cqM_settle 46 = .ok (.iload_n 3, 1) := by decide +kernel
theorem dqM_settle_47 : decode cqM_settle 47 = .ok (.iaload, 1) := by decide +kernel
theorem dqM_settle_48 : decode cqM_settle 48 = .ok (.iastore, 1) := by decide +kernel
theorem dqM_settle_49 : decode cqM_settle 49 = .ok (.iinc 3 1, 3) := by decide +kernel
theorem dqM_settle_52 : decode cqM_settle 52 = .ok (.goto (-50), 3) := by decide +kernel
theorem dqM_settle_55 : decode cqM_settle 55 = .ok (.iconst 0, 1) := by decide +kernel
theorem dqM_settle_56 : decode cqM_settle 56 = .ok (.istore_n 3, 1) := by decide +kernel
theorem dqM_settle_57 : decode cqM_settle 57 = .ok (.iload_n 3, 1) := by decide +kernel
theorem dqM_settle_58 : decode cqM_settle 58 = .ok (.iconst 4, 1) := by decide +kernel
theorem dqM_settle_59 : decode cqM_settle 59 = .ok (.if_icmp .ge 89, 3) := by decide +kernel
theorem dqM_settle_62 : decode cqM_settle 62 = .ok (.iconst (-1), 1) := by decide +kernel
theorem dqM_settle_63 : decode cqM_settle 63 = .ok (.istore 4, 2) := by decide +kernel
theorem dqM_settle_65 : decode cqM_settle 65 = .ok (.iconst 0, 1) := by decide +kernel
theorem dqM_settle_66 : decode cqM_settle 66 = .ok (.istore 5, 2) := by decide +kernel
theorem dqM_settle_68 : decode cqM_settle 68 = .ok (.iload 5, 2) := by decide +kernel
theorem dqM_settle_70 : decode cqM_settle 70 = .ok (.aload_n 0, 1) := by decide +kernel
theorem dqM_settle_71 : decode cqM_settle 71 = .ok (.getfield 88, 3) := by decide +kernel
theorem dqM_settle_74 : decode cqM_settle 74 = .ok (.if_icmp .ge 68, 3) := by decide +kernel
theorem dqM_settle_77 : decode cqM_settle 77 = .ok (.aload_n 0, 1) := by decide +kernel
theorem dqM_settle_78 : decode cqM_settle 78 = .ok (.getfield 27, 3) := by decide +kernel
theorem dqM_settle_81 : decode cqM_settle 81 = .ok (.bipush 24, 2) := by decide +kernel
theorem dqM_settle_83 : decode cqM_settle 83 = .ok (.iload_n 3, 1) := by decide +kernel
theorem dqM_settle_84 : decode cqM_settle 84 = .ok (.imul, 1) := by decide +kernel
theorem dqM_settle_85 : decode cqM_settle 85 = .ok (.iload 5, 2) := by decide +kernel
theorem dqM_settle_87 : decode cqM_settle 87 = .ok (.iadd, 1) := by decide +kernel
theorem dqM_settle_88 : decode cqM_settle 88 = .ok (.baload, 1) := by decide +kernel
theorem dqM_settle_89 : decode cqM_settle 89 = .ok (.ifCond .eq 47, 3) := by decide +kernel
theorem dqM_settle_92 : decode cqM_settle 92 = .ok (.iload 4, 2) := by decide +kernel
theorem dqM_settle_94 : decode cqM_settle 94 = .ok (.ifCond .lt 38, 3) := by decide +kernel
theorem dqM_settle_97 : decode cqM_settle 97 = .ok (.aload_n 0, 1) := by decide +kernel
theorem dqM_settle_98 : decode cqM_settle 98 = .ok (.iload 4, 2) := by decide +kernel
theorem dqM_settle_100 : decode cqM_settle 100 = .ok (.iload 5, 2) := by decide +kernel
theorem dqM_settle_102 : decode cqM_settle 102 = .ok (.aload_n 0, 1) := by decide +kernel
theorem dqM_settle_103 : decode cqM_settle 103 = .ok (.getfield 33, 3) := by decide +kernel
theorem dqM_settle_106 : decode cqM_settle 106 = .ok (.bipush 24, 2) := by decide +kernel
theorem dqM_settle_108 : decode cqM_settle 108 = .ok (.iload_n 3, 1) := by decide +kernel
theorem dqM_settle_109 : decode cqM_settle 109 = .ok (.imul, 1) := by decide +kernel
theorem dqM_settle_110 : decode cqM_settle 110 = .ok (.iload 4, 2) := by decide +kernel
theorem dqM_settle_112 : decode cqM_settle 112 = .ok (.iadd, 1) := by decide +kernel
theorem dqM_settle_113 : decode cqM_settle 113 = .ok (.iaload, 1) := by decide +kernel
theorem dqM_settle_114 : decode cqM_settle 114 = .ok (.aload_n 0, 1) := by decide +kernel
theorem dqM_settle_115 : decode cqM_settle 115 = .ok (.getfield 30, 3) := by decide +kernel
theorem dqM_settle_118 : decode cqM_settle 118 = .ok (.bipush 24, 2) := by decide +kernel
theorem dqM_settle_120 : decode cqM_settle 120 = .ok (.iload_n 3, 1) := by decide +kernel
theorem dqM_settle_121 : decode cqM_settle 121 = .ok (.imul, 1) := by decide +kernel
theorem dqM_settle_122 : decode cqM_settle 122 = .ok (.iload 5, 2) := by decide +kernel
theorem dqM_settle_124 : decode cqM_settle 124 = .ok (.iadd, 1) := by decide +kernel
theorem dqM_settle_125 : decode cqM_settle 125 = .ok (.iaload, 1) := by decide +kernel
theorem dqM_settle_126 : decode cqM_settle 126 = .ok (.iadd, 1) := by decide +kernel
theorem dqM_settle_127 : decode cqM_settle 127 = .ok (.iload_n 1, 1) := by decide +kernel
theorem dqM_settle_128 : decode cqM_settle 128 = .ok (.iload_n 2, 1) := by decide +kernel
theorem dqM_settle_129 : decode cqM_settle 129 = .ok (.invokevirtual 128, 3) := by decide +kernel
theorem dqM_settle_132 : decode cqM_settle 132 = .ok (.iload 5, 2) := by decide +kernel
theorem dqM_settle_134 : decode cqM_settle 134 = .ok (.istore 4, 2) := by decide +kernel
theorem dqM_settle_136 : decode cqM_settle 136 = .ok (.iinc 5 1, 3) := by decide +kernel
theorem dqM_settle_139 : decode cqM_settle 139 = .ok (.goto (-71), 3) := by decide +kernel
theorem dqM_settle_142 : decode cqM_settle 142 = .ok (.iinc 3 1, 3) := by decide +kernel
theorem dqM_settle_145 : decode cqM_settle 145 = .ok (.goto (-88), 3) := by decide +kernel
theorem dqM_settle_148 : decode cqM_settle 148 = .ok (.iconst 0, 1) := by decide +kernel
theorem dqM_settle_149 : decode cqM_settle 149 = .ok (.istore_n 3, 1) := by decide +kernel
theorem dqM_settle_150 : decode cqM_settle 150 = .ok (.iload_n 3, 1) := by decide +kernel
theorem dqM_settle_151 : decode cqM_settle 151 = .ok (.aload_n 0, 1) := by decide +kernel
theorem dqM_settle_152 : decode cqM_settle 152 = .ok (.getfield 91, 3) := by decide +kernel
theorem dqM_settle_155 : decode cqM_settle 155 = .ok (.if_icmp .ge 42, 3) := by decide +kernel
theorem dqM_settle_158 : decode cqM_settle 158 = .ok (.aload_n 0, 1) := by decide +kernel
theorem dqM_settle_159 : decode cqM_settle 159 = .ok (.getfield 45, 3) := by decide +kernel
theorem dqM_settle_162 : decode cqM_settle 162 = .ok (.iload_n 3, 1) := by decide +kernel
theorem dqM_settle_163 : decode cqM_settle 163 = .ok (.baload, 1) := by decide +kernel
theorem dqM_settle_164 : decode cqM_settle 164 = .ok (.ifCond .eq 27, 3) := by decide +kernel
theorem dqM_settle_167 : decode cqM_settle 167 = .ok (.aload_n 0, 1) := by decide +kernel
theorem dqM_settle_168 : decode cqM_settle 168 = .ok (.aload_n 0, 1) := by decide +kernel
theorem dqM_settle_169 : decode cqM_settle 169 = .ok (.getfield 36, 3) := by decide +kernel
theorem dqM_settle_172 : decode cqM_settle 172 = .ok (.iload_n 3, 1) := by decide +kernel
theorem dqM_settle_173 : decode cqM_settle 173 = .ok (.iaload, 1) := by decide +kernel
theorem dqM_settle_174 : decode cqM_settle 174 = .ok (.aload_n 0, 1) := by decide +kernel
theorem dqM_settle_175 : decode cqM_settle 175 = .ok (.getfield 39, 3) := by decide +kernel
theorem dqM_settle_178 : decode cqM_settle 178 = .ok (.iload_n 3, 1) := by decide +kernel
theorem dqM_settle_179 : decode cqM_settle 179 = .ok (.iaload, 1) := by decide +kernel
theorem dqM_settle_180 : decode cqM_settle 180 = .ok (.aload_n 0, 1) := by decide +kernel
theorem dqM_settle_181 : decode cqM_settle 181 = .ok (.getfield 42, 3) := by decide +kernel
theorem dqM_settle_184 : decode cqM_settle 184 = .ok (.iload_n 3, 1) := by decide +kernel
theorem dqM_settle_185 : decode cqM_settle 185 = .ok (.iaload, 1) := by decide +kernel
theorem dqM_settle_186 : decode cqM_settle 186 = .ok (.iload_n 1, 1) := by decide +kernel
theorem dqM_settle_187 : decode cqM_settle 187 = .ok (.iload_n 2, 1) := by decide +kernel
theorem dqM_settle_188 : decode cqM_settle 188 = .ok (.invokevirtual 128, 3) := by decide +kernel
theorem dqM_settle_191 : decode cqM_settle 191 = .ok (.iinc 3 1, 3) := by decide +kernel
theorem dqM_settle_194 : decode cqM_settle 194 = .ok (.goto (-44), 3) := by decide +kernel
theorem dqM_settle_197 : decode cqM_settle 197 = .ok (.return_, 1) := by decide +kernel
theorem dqM_run_0 : decode cqM_run 0 = .ok (.iload_n 1, 1) := by decide +kernel
theorem dqM_run_1 : decode cqM_run 1 = .ok (.ifCond .lt 10, 3) := by decide +kernel
theorem dqM_run_4 : decode cqM_run 4 = .ok (.iload_n 1, 1) := by decide +kernel
theorem dqM_run_5 : decode cqM_run 5 = .ok (.sipush 20000, 3) := by decide +kernel
theorem dqM_run_8 : decode cqM_run 8 = .ok (.if_icmp .le 6, 3) := by decide +kernel
theorem dqM_run_11 : decode cqM_run 11 = .ok (.bipush (-2), 2) := by decide +kernel
theorem dqM_run_13 : decode cqM_run 13 = .ok (.ireturn, 1) := by decide +kernel
theorem dqM_run_14 : decode cqM_run 14 = .ok (.aload_n 0, 1) := by decide +kernel
theorem dqM_run_15 : decode cqM_run 15 = .ok (.getfield 88, 3) := by decide +kernel
theorem dqM_run_18 : decode cqM_run 18 = .ok (.iconst 2, 1) := by decide +kernel
theorem dqM_run_19 : decode cqM_run 19 = .ok (.if_icmp .ge 8, 3) := by decide +kernel
theorem dqM_run_22 : decode cqM_run 22 = .ok (.bipush (-3), 2) := by decide +kernel
theorem dqM_run_24 : decode cqM_run 24 = .ok (.goto 15, 3) := by decide +kernel
theorem dqM_run_27 : decode cqM_run 27 = .ok (.aload_n 0, 1) := by decide +kernel
theorem dqM_run_28 : decode cqM_run 28 = .ok (.iconst 0, 1) := by decide +kernel
theorem dqM_run_29 : decode cqM_run 29 = .ok (.aload_n 0, 1) := by decide +kernel
theorem dqM_run_30 : decode cqM_run 30 = .ok (.getfield 88, 3) := by decide +kernel
theorem dqM_run_33 : decode cqM_run 33 = .ok (.iconst 1, 1) := by decide +kernel
theorem dqM_run_34 : decode cqM_run 34 = .ok (.isub, 1) := by decide +kernel
theorem dqM_run_35 : decode cqM_run 35 = .ok (.iload_n 1, 1) := by decide +kernel
theorem dqM_run_36 : decode cqM_run 36 = .ok (.invokevirtual 132, 3) := by decide +kernel
theorem dqM_run_39 : decode cqM_run 39 = .ok (.ireturn, 1) := by decide +kernel
theorem dqM_line_0 : decode cqM_line 0 = .ok (.aload_n 0, 1) := by decide +kernel
theorem dqM_line_1 : decode cqM_line 1 = .ok (.iload_n 1, 1) := by decide +kernel
theorem dqM_line_2 : decode cqM_line 2 = .ok (.invokevirtual 106, 3) := by decide +kernel
theorem dqM_line_5 : decode cqM_line 5 = .ok (.ifCond .eq 11, 3) := by decide +kernel
theorem dqM_line_8 : decode cqM_line 8 = .ok (.aload_n 0, 1) := by decide +kernel
theorem dqM_line_9 : decode cqM_line 9 = .ok (.iload_n 2, 1) := by decide +kernel
theorem dqM_line_10 : decode cqM_line 10 = .ok (.invokevirtual 106, 3) := by decide +kernel
theorem dqM_line_13 : decode cqM_line 13 = .ok (.ifCond .ne 5, 3) := by decide +kernel
theorem dqM_line_16 : decode cqM_line 16 = .ok (.iconst (-1), 1) := by decide +kernel
theorem dqM_line_17 : decode cqM_line 17 = .ok (.ireturn, 1) := by decide +kernel
theorem dqM_line_18 : decode cqM_line 18 = .ok (.iload_n 1, 1) := by decide +kernel
theorem dqM_line_19 : decode cqM_line 19 = .ok (.iload_n 2, 1) := by decide +kernel
theorem dqM_line_20 : decode cqM_line 20 = .ok (.if_icmp .ge 14, 3) := by decide +kernel
theorem dqM_line_23 : decode cqM_line 23 = .ok (.iload_n 3, 1) := by decide +kernel
theorem dqM_line_24 : decode cqM_line 24 = .ok (.ifCond .lt 10, 3) := by decide +kernel
theorem dqM_line_27 : decode cqM_line 27 = .ok (.iload_n 3, 1) := by decide +kernel
theorem dqM_line_28 : decode cqM_line 28 = .ok (.sipush 20000, 3) := by decide +kernel
theorem dqM_line_31 : decode cqM_line 31 = .ok (.if_icmp .le 8, 3) := by decide +kernel
theorem dqM_line_34 : decode cqM_line 34 = .ok (.bipush (-2), 2) := by decide +kernel
theorem dqM_line_36 : decode cqM_line 36 = .ok (.goto 10, 3) := by decide +kernel
theorem dqM_line_39 : decode cqM_line 39 = .ok (.aload_n 0, 1) := by decide +kernel
theorem dqM_line_40 : decode cqM_line 40 = .ok (.iload_n 1, 1) := by decide +kernel
theorem dqM_line_41 : decode cqM_line 41 = .ok (.iload_n 2, 1) := by decide +kernel
theorem dqM_line_42 : decode cqM_line 42 = .ok (.iload_n 3, 1) := by decide +kernel
theorem dqM_line_43 : decode cqM_line 43 = .ok (.invokevirtual 132, 3) := by decide +kernel
theorem dqM_line_46 : decode cqM_line 46 = .ok (.ireturn, 1) := by decide +kernel
theorem dqM_made_0 : decode cqM_made 0 = .ok (.aload_n 0, 1) := by decide +kernel
theorem dqM_made_1 : decode cqM_made 1 = .ok (.iload_n 1, 1) := by decide +kernel
theorem dqM_made_2 : decode cqM_made 2 = .ok (.iload_n 2, 1) := by decide +kernel
theorem dqM_made_3 : decode cqM_made 3 = .ok (.invokevirtual 136, 3) := by decide +kernel
theorem dqM_made_6 : decode cqM_made 6 = .ok (.aload_n 0, 1) := by decide +kernel
theorem dqM_made_7 : decode cqM_made 7 = .ok (.iconst 1, 1) := by decide +kernel
theorem dqM_made_8 : decode cqM_made 8 = .ok (.putfield 77, 3) := by decide +kernel
theorem dqM_made_11 : decode cqM_made 11 = .ok (.aload_n 0, 1) := by decide +kernel
theorem dqM_made_12 : decode cqM_made 12 = .ok (.iload_n 1, 1) := by decide +kernel
theorem dqM_made_13 : decode cqM_made 13 = .ok (.putfield 140, 3) := by decide +kernel
theorem dqM_made_16 : decode cqM_made 16 = .ok (.aload_n 0, 1) := by decide +kernel
theorem dqM_made_17 : decode cqM_made 17 = .ok (.iload_n 2, 1) := by decide +kernel
theorem dqM_made_18 : decode cqM_made 18 = .ok (.putfield 143, 3) := by decide +kernel
theorem dqM_made_21 : decode cqM_made 21 = .ok (.aload_n 0, 1) := by decide +kernel
theorem dqM_made_22 : decode cqM_made 22 = .ok (.iload_n 1, 1) := by decide +kernel
theorem dqM_made_23 : decode cqM_made 23 = .ok (.iload_n 2, 1) := by decide +kernel
theorem dqM_made_24 : decode cqM_made 24 = .ok (.invokevirtual 116, 3) := by decide +kernel
theorem dqM_made_27 : decode cqM_made 27 = .ok (.istore 4, 2) := by decide +kernel
theorem dqM_made_29 : decode cqM_made 29 = .ok (.aload_n 0, 1) := by decide +kernel
theorem dqM_made_30 : decode cqM_made 30 = .ok (.iload 4, 2) := by decide +kernel
theorem dqM_made_32 : decode cqM_made 32 = .ok (.iload_n 3, 1) := by decide +kernel
theorem dqM_made_33 : decode cqM_made 33 = .ok (.if_icmp .le 10, 3) := by decide +kernel
theorem dqM_made_36 : decode cqM_made 36 = .ok (.iload 4, 2) := by decide +kernel
theorem dqM_made_38 : decode cqM_made 38 = .ok (.iload_n 3, 1) := by decide +kernel
theorem dqM_made_39 : decode cqM_made 39 = .ok (.isub, 1) := by decide +kernel
theorem dqM_made_40 : decode cqM_made 40 = .ok (.goto 4, 3) := by decide +kernel
theorem dqM_made_43 : decode cqM_made 43 = .ok (.iconst 0, 1) := by decide +kernel
theorem dqM_made_44 : decode cqM_made 44 = .ok (.putfield 146, 3) := by decide +kernel
theorem dqM_made_47 : decode cqM_made 47 = .ok (.aload_n 0, 1) := by decide +kernel
theorem dqM_made_48 : decode cqM_made 48 = .ok (.iload_n 1, 1) := by decide +kernel
theorem dqM_made_49 : decode cqM_made 49 = .ok (.iload_n 2, 1) := by decide +kernel
theorem dqM_made_50 : decode cqM_made 50 = .ok (.iload_n 3, 1) := by decide +kernel
theorem dqM_made_51 : decode cqM_made 51 = .ok (.invokevirtual 124, 3) := by decide +kernel
theorem dqM_made_54 : decode cqM_made 54 = .ok (.aload_n 0, 1) := by decide +kernel
theorem dqM_made_55 : decode cqM_made 55 = .ok (.aload_n 0, 1) := by decide +kernel
theorem dqM_made_56 : decode cqM_made 56 = .ok (.getfield 110, 3) := by decide +kernel
theorem dqM_made_59 : decode cqM_made 59 = .ok (.putfield 149, 3) := by decide +kernel
theorem dqM_made_62 : decode cqM_made 62 = .ok (.aload_n 0, 1) := by decide +kernel
theorem dqM_made_63 : decode cqM_made 63 = .ok (.aload_n 0, 1) := by decide +kernel
theorem dqM_made_64 : decode cqM_made 64 = .ok (.getfield 113, 3) := by decide +kernel
theorem dqM_made_67 : decode cqM_made 67 = .ok (.putfield 48, 3) := by decide +kernel
theorem dqM_made_70 : decode cqM_made 70 = .ok (.iload_n 1, 1) := by decide +kernel
theorem dqM_made_71 : decode cqM_made 71 = .ok (.istore 5, 2) := by decide +kernel
theorem dqM_made_73 : decode cqM_made 73 = .ok (.iload 5, 2) := by decide +kernel
theorem dqM_made_75 : decode cqM_made 75 = .ok (.iload_n 2, 1) := by decide +kernel
theorem dqM_made_76 : decode cqM_made 76 = .ok (.if_icmp .ge 23, 3) := by decide +kernel
theorem dqM_made_79 : decode cqM_made 79 = .ok (.aload_n 0, 1) := by decide +kernel
theorem dqM_made_80 : decode cqM_made 80 = .ok (.getfield 52, 3) := by decide +kernel
theorem dqM_made_83 : decode cqM_made 83 = .ok (.iload 5, 2) := by decide +kernel
theorem dqM_made_85 : decode cqM_made 85 = .ok (.aload_n 0, 1) := by decide +kernel
theorem dqM_made_86 : decode cqM_made 86 = .ok (.getfield 62, 3) := by decide +kernel
theorem dqM_made_89 : decode cqM_made 89 = .ok (.iload 5, 2) := by decide +kernel
theorem dqM_made_91 : decode cqM_made 91 = .ok (.iaload, 1) := by decide +kernel
theorem dqM_made_92 : decode cqM_made 92 = .ok (.iastore, 1) := by decide +kernel
theorem dqM_made_93 : decode cqM_made 93 = .ok (.iinc 5 1, 3) := by decide +kernel
theorem dqM_made_96 : decode cqM_made 96 = .ok (.goto (-23), 3) := by decide +kernel
theorem dqM_made_99 : decode cqM_made 99 = .ok (.aload_n 0, 1) := by decide +kernel
theorem dqM_made_100 : decode cqM_made 100 = .ok (.getfield 146, 3) := by decide +kernel
theorem dqM_made_103 : decode cqM_made 103 = .ok (.ifCond .le 7, 3) := by decide +kernel
theorem dqM_made_106 : decode cqM_made 106 = .ok (.iconst 1, 1) := by decide +kernel
theorem dqM_made_107 : decode cqM_made 107 = .ok (.goto 23, 3) := by decide +kernel
theorem dqM_made_110 : decode cqM_made 110 = .ok (.iload 4, 2) := by decide +kernel
theorem dqM_made_112 : decode cqM_made 112 = .ok (.iload_n 3, 1) := by decide +kernel
theorem dqM_made_113 : decode cqM_made 113 = .ok (.if_icmp .ge 16, 3) := by decide +kernel
theorem dqM_made_116 : decode cqM_made 116 = .ok (.aload_n 0, 1) := by decide +kernel
theorem dqM_made_117 : decode cqM_made 117 = .ok (.iload_n 1, 1) := by decide +kernel
theorem dqM_made_118 : decode cqM_made 118 = .ok (.iload_n 2, 1) := by decide +kernel
theorem dqM_made_119 : decode cqM_made 119 = .ok (.invokevirtual 120, 3) := by decide +kernel
theorem dqM_made_122 : decode cqM_made 122 = .ok (.ifCond .ne 7, 3) := by decide +kernel
theorem dqM_made_125 : decode cqM_made 125 = .ok (.iconst 2, 1) := by decide +kernel
theorem dqM_made_126 : decode cqM_made 126 = .ok (.goto 4, 3) := by decide +kernel
theorem dqM_made_129 : decode cqM_made 129 = .ok (.iconst 0, 1) := by decide +kernel
theorem dqM_made_130 : decode cqM_made 130 = .ok (.ireturn, 1) := by decide +kernel
theorem dqM_common_0 : decode cqM_common 0 = .ok (.lload_n 0, 1) := by decide +kernel
theorem dqM_common_1 : decode cqM_common 1 = .ok (.lstore 4, 2) := by decide +kernel
theorem dqM_common_3 : decode cqM_common 3 = .ok (.lload_n 2, 1) := by decide +kernel
theorem dqM_common_4 : decode cqM_common 4 = .ok (.lstore 6, 2) := by decide +kernel
theorem dqM_common_6 : decode cqM_common 6 = .ok (.lload 6, 2) := by decide +kernel
theorem dqM_common_8 : decode cqM_common 8 = .ok (.lconst 0, 1) := by decide +kernel
theorem dqM_common_9 : decode cqM_common 9 = .ok (.lcmp, 1) := by decide +kernel
theorem dqM_common_10 : decode cqM_common 10 = .ok (.ifCond .eq 21, 3) := by decide +kernel
theorem dqM_common_13 : decode cqM_common 13 = .ok (.lload 4, 2) := by decide +kernel
theorem dqM_common_15 : decode cqM_common 15 = .ok (.lload 6, 2) := by decide +kernel
theorem dqM_common_17 : decode cqM_common 17 = .ok (.lrem, 1) := by decide +kernel
theorem dqM_common_18 : decode cqM_common 18 = .ok (.lstore 8, 2) := by decide +kernel
theorem dqM_common_20 : decode cqM_common 20 = .ok (.lload 6, 2) := by decide +kernel
theorem dqM_common_22 : decode cqM_common 22 = .ok (.lstore 4, 2) := by decide +kernel
theorem dqM_common_24 : decode cqM_common 24 = .ok (.lload 8, 2) := by decide +kernel
theorem dqM_common_26 : decode cqM_common 26 = .ok (.lstore 6, 2) := by decide +kernel
theorem dqM_common_28 : decode cqM_common 28 = .ok (.goto (-22), 3) := by decide +kernel
theorem dqM_common_31 : decode cqM_common 31 = .ok (.lload 4, 2) := by decide +kernel
theorem dqM_common_33 : decode cqM_common 33 = .ok (.lreturn, 1) := by decide +kernel
theorem dqM_part_0 : decode cqM_part 0 = .ok (.iload 4, 2) := by decide +kernel
theorem dqM_part_2 : decode cqM_part 2 = .ok (.ifCond .ne 7, 3) := by decide +kernel
theorem dqM_part_5 : decode cqM_part 5 = .ok (.lload_n 0, 1) := by decide +kernel
theorem dqM_part_6 : decode cqM_part 6 = .ok (.goto 4, 3) := by decide +kernel
theorem dqM_part_9 : decode cqM_part 9 = .ok (.lload_n 2, 1) := by decide +kernel
theorem dqM_part_10 : decode cqM_part 10 = .ok (.lload_n 0, 1) := by decide +kernel
theorem dqM_part_11 : decode cqM_part 11 = .ok (.lload_n 2, 1) := by decide +kernel
theorem dqM_part_12 : decode cqM_part 12 = .ok (.invokestatic 152, 3) := by decide +kernel
theorem dqM_part_15 : decode cqM_part 15 = .ok (.ldiv, 1) := by decide +kernel
theorem dqM_part_16 : decode cqM_part 16 = .ok (.lreturn, 1) := by decide +kernel
theorem dqM_over_0 : decode cqM_over 0 = .ok (.aload_n 0, 1) := by decide +kernel
theorem dqM_over_1 : decode cqM_over 1 = .ok (.getfield 77, 3) := by decide +kernel
theorem dqM_over_4 : decode cqM_over 4 = .ok (.ifCond .eq 10, 3) := by decide +kernel
theorem dqM_over_7 : decode cqM_over 7 = .ok (.aload_n 0, 1) := by decide +kernel
theorem dqM_over_8 : decode cqM_over 8 = .ok (.getfield 146, 3) := by decide +kernel
theorem dqM_over_11 : decode cqM_over 11 = .ok (.goto 5, 3) := by decide +kernel
theorem dqM_over_14 : decode cqM_over 14 = .ok (.bipush (-3), 2) := by decide +kernel
theorem dqM_over_16 : decode cqM_over 16 = .ok (.ireturn, 1) := by decide +kernel
theorem dqM_force_0 : decode cqM_force 0 = .ok (.iload_n 1, 1) := by decide +kernel
theorem dqM_force_1 : decode cqM_force 1 = .ok (.ifCond .eq 14, 3) := by decide +kernel
theorem dqM_force_4 : decode cqM_force 4 = .ok (.iload_n 1, 1) := by decide +kernel
theorem dqM_force_5 : decode cqM_force 5 = .ok (.iconst 1, 1) := by decide +kernel
theorem dqM_force_6 : decode cqM_force 6 = .ok (.if_icmp .eq 9, 3) := by decide +kernel
theorem dqM_force_9 : decode cqM_force 9 = .ok (.ldc2_w 100, 3) := by decide +kernel
theorem dqM_force_12 : decode cqM_force 12 = .ok (.goto 28, 3) := by decide +kernel
theorem dqM_force_15 : decode cqM_force 15 = .ok (.aload_n 0, 1) := by decide +kernel
theorem dqM_force_16 : decode cqM_force 16 = .ok (.getfield 77, 3) := by decide +kernel
theorem dqM_force_19 : decode cqM_force 19 = .ok (.ifCond .eq 18, 3) := by decide +kernel
theorem dqM_force_22 : decode cqM_force 22 = .ok (.aload_n 0, 1) := by decide +kernel
theorem dqM_force_23 : decode cqM_force 23 = .ok (.getfield 149, 3) := by decide +kernel
theorem dqM_force_26 : decode cqM_force 26 = .ok (.aload_n 0, 1) := by decide +kernel
theorem dqM_force_27 : decode cqM_force 27 = .ok (.getfield 48, 3) := by decide +kernel
theorem dqM_force_30 : decode cqM_force 30 = .ok (.iload_n 1, 1) := by decide +kernel
theorem dqM_force_31 : decode cqM_force 31 = .ok (.invokestatic 156, 3) := by decide +kernel
theorem dqM_force_34 : decode cqM_force 34 = .ok (.goto 6, 3) := by decide +kernel
theorem dqM_force_37 : decode cqM_force 37 = .ok (.ldc2_w 160, 3) := by decide +kernel
theorem dqM_force_40 : decode cqM_force 40 = .ok (.lreturn, 1) := by decide +kernel
theorem dqM_wide_0 : decode cqM_wide 0 = .ok (.aload_n 0, 1) := by decide +kernel
theorem dqM_wide_1 : decode cqM_wide 1 = .ok (.getfield 52, 3) := by decide +kernel
theorem dqM_wide_4 : decode cqM_wide 4 = .ok (.iload_n 1, 1) := by decide +kernel
theorem dqM_wide_5 : decode cqM_wide 5 = .ok (.iaload, 1) := by decide +kernel
theorem dqM_wide_6 : decode cqM_wide 6 = .ok (.i2l, 1) := by decide +kernel
theorem dqM_wide_7 : decode cqM_wide 7 = .ok (.aload_n 0, 1) := by decide +kernel
theorem dqM_wide_8 : decode cqM_wide 8 = .ok (.getfield 48, 3) := by decide +kernel
theorem dqM_wide_11 : decode cqM_wide 11 = .ok (.lmul, 1) := by decide +kernel
theorem dqM_wide_12 : decode cqM_wide 12 = .ok (.lstore_n 2, 1) := by decide +kernel
theorem dqM_wide_13 : decode cqM_wide 13 = .ok (.aload_n 0, 1) := by decide +kernel
theorem dqM_wide_14 : decode cqM_wide 14 = .ok (.getfield 149, 3) := by decide +kernel
theorem dqM_wide_17 : decode cqM_wide 17 = .ok (.aload_n 0, 1) := by decide +kernel
theorem dqM_wide_18 : decode cqM_wide 18 = .ok (.getfield 55, 3) := by decide +kernel
theorem dqM_wide_21 : decode cqM_wide 21 = .ok (.iload_n 1, 1) := by decide +kernel
theorem dqM_wide_22 : decode cqM_wide 22 = .ok (.laload, 1) := by decide +kernel
theorem dqM_wide_23 : decode cqM_wide 23 = .ok (.lmul, 1) := by decide +kernel
theorem dqM_wide_24 : decode cqM_wide 24 = .ok (.lstore 4, 2) := by decide +kernel
theorem dqM_wide_26 : decode cqM_wide 26 = .ok (.lload_n 2, 1) := by decide +kernel
theorem dqM_wide_27 : decode cqM_wide 27 = .ok (.lload 4, 2) := by decide +kernel
theorem dqM_wide_29 : decode cqM_wide 29 = .ok (.lcmp, 1) := by decide +kernel
theorem dqM_wide_30 : decode cqM_wide 30 = .ok (.ifCond .le 7, 3) := by decide +kernel
theorem dqM_wide_33 : decode cqM_wide 33 = .ok (.lload_n 2, 1) := by decide +kernel
theorem dqM_wide_34 : decode cqM_wide 34 = .ok (.goto 5, 3) := by decide +kernel
theorem dqM_wide_37 : decode cqM_wide 37 = .ok (.lload 4, 2) := by decide +kernel
theorem dqM_wide_39 : decode cqM_wide 39 = .ok (.lreturn, 1) := by decide +kernel
theorem dqM_width_0 : decode cqM_width 0 = .ok (.aload_n 0, 1) := by decide +kernel
theorem dqM_width_1 : decode cqM_width 1 = .ok (.getfield 77, 3) := by decide +kernel
theorem dqM_width_4 : decode cqM_width 4 = .ok (.ifCond .ne 7, 3) := by decide +kernel
theorem dqM_width_7 : decode cqM_width 7 = .ok (.ldc2_w 160, 3) := by decide +kernel
theorem dqM_width_10 : decode cqM_width 10 = .ok (.lreturn, 1) := by decide +kernel
theorem dqM_width_11 : decode cqM_width 11 = .ok (.iload_n 1, 1) := by decide +kernel
theorem dqM_width_12 : decode cqM_width 12 = .ok (.aload_n 0, 1) := by decide +kernel
theorem dqM_width_13 : decode cqM_width 13 = .ok (.getfield 140, 3) := by decide +kernel
theorem dqM_width_16 : decode cqM_width 16 = .ok (.if_icmp .lt 11, 3) := by decide +kernel
theorem dqM_width_19 : decode cqM_width 19 = .ok (.iload_n 1, 1) := by decide +kernel
theorem dqM_width_20 : decode cqM_width 20 = .ok (.aload_n 0, 1) := by decide +kernel
theorem dqM_width_21 : decode cqM_width 21 = .ok (.getfield 143, 3) := by decide +kernel
theorem dqM_width_24 : decode cqM_width 24 = .ok (.if_icmp .lt 7, 3) := by decide +kernel
theorem dqM_width_27 : decode cqM_width 27 = .ok (.ldc2_w 162, 3) := by decide +kernel
theorem dqM_width_30 : decode cqM_width 30 = .ok (.lreturn, 1) := by decide +kernel
theorem dqM_width_31 : decode cqM_width 31 = .ok (.iload_n 2, 1) := by decide +kernel
theorem dqM_width_32 : decode cqM_width 32 = .ok (.ifCond .eq 14, 3) := by decide +kernel
theorem dqM_width_35 : decode cqM_width 35 = .ok (.iload_n 2, 1) := by decide +kernel
theorem dqM_width_36 : decode cqM_width 36 = .ok (.iconst 1, 1) := by decide +kernel
theorem dqM_width_37 : decode cqM_width 37 = .ok (.if_icmp .eq 9, 3) := by decide +kernel
theorem dqM_width_40 : decode cqM_width 40 = .ok (.ldc2_w 100, 3) := by decide +kernel
theorem dqM_width_43 : decode cqM_width 43 = .ok (.goto 16, 3) := by decide +kernel
theorem dqM_width_46 : decode cqM_width 46 = .ok (.aload_n 0, 1) := by decide +kernel
theorem dqM_width_47 : decode cqM_width 47 = .ok (.iload_n 1, 1) := by decide +kernel
theorem dqM_width_48 : decode cqM_width 48 = .ok (.invokevirtual 164, 3) := by decide +kernel
theorem dqM_width_51 : decode cqM_width 51 = .ok (.aload_n 0, 1) := by decide +kernel
theorem dqM_width_52 : decode cqM_width 52 = .ok (.getfield 48, 3) := by decide +kernel
theorem dqM_width_55 : decode cqM_width 55 = .ok (.iload_n 2, 1) := by decide +kernel
theorem dqM_width_56 : decode cqM_width 56 = .ok (.invokestatic 156, 3) := by decide +kernel
theorem dqM_width_59 : decode cqM_width 59 = .ok (.lreturn, 1) := by decide +kernel
theorem dqM_settled_0 : decode cqM_settled 0 = .ok (.aload_n 0, 1) := by decide +kernel
theorem dqM_settled_1 : decode cqM_settled 1 = .ok (.getfield 77, 3) := by decide +kernel
theorem dqM_settled_4 : decode cqM_settled 4 = .ok (.ifCond .ne 8, 3) := by decide +kernel
theorem dqM_settled_7 : decode cqM_settled 7 = .ok (.bipush (-3), 2) := by decide +kernel
theorem dqM_settled_9 : decode cqM_settled 9 = .ok (.goto 29, 3) := by decide +kernel
theorem dqM_settled_12 : decode cqM_settled 12 = .ok (.iload_n 1, 1) := by decide +kernel
theorem dqM_settled_13 : decode cqM_settled 13 = .ok (.aload_n 0, 1) := by decide +kernel
theorem dqM_settled_14 : decode cqM_settled 14 = .ok (.getfield 140, 3) := by decide +kernel
theorem dqM_settled_17 : decode cqM_settled 17 = .ok (.if_icmp .lt 11, 3) := by decide +kernel
theorem dqM_settled_20 : decode cqM_settled 20 = .ok (.iload_n 1, 1) := by decide +kernel
theorem dqM_settled_21 : decode cqM_settled 21 = .ok (.aload_n 0, 1) := by decide +kernel
theorem dqM_settled_22 : decode cqM_settled 22 = .ok (.getfield 143, 3) := by decide +kernel
theorem dqM_settled_25 : decode cqM_settled 25 = .ok (.if_icmp .lt 7, 3) := by decide +kernel
theorem dqM_settled_28 : decode cqM_settled 28 = .ok (.iconst (-1), 1) := by decide +kernel
theorem dqM_settled_29 : decode cqM_settled 29 = .ok (.goto 9, 3) := by decide +kernel
theorem dqM_settled_32 : decode cqM_settled 32 = .ok (.aload_n 0, 1) := by decide +kernel
theorem dqM_settled_33 : decode cqM_settled 33 = .ok (.getfield 52, 3) := by decide +kernel
theorem dqM_settled_36 : decode cqM_settled 36 = .ok (.iload_n 1, 1) := by decide +kernel
theorem dqM_settled_37 : decode cqM_settled 37 = .ok (.iaload, 1) := by decide +kernel
theorem dqM_settled_38 : decode cqM_settled 38 = .ok (.ireturn, 1) := by decide +kernel
theorem dqM_before_0 : decode cqM_before 0 = .ok (.lconst 0, 1) := by decide +kernel
theorem dqM_before_1 : decode cqM_before 1 = .ok (.lstore_n 2, 1) := by decide +kernel
theorem dqM_before_2 : decode cqM_before 2 = .ok (.aload_n 0, 1) := by decide +kernel
theorem dqM_before_3 : decode cqM_before 3 = .ok (.getfield 140, 3) := by decide +kernel
theorem dqM_before_6 : decode cqM_before 6 = .ok (.istore 4, 2) := by decide +kernel
theorem dqM_before_8 : decode cqM_before 8 = .ok (.iload 4, 2) := by decide +kernel
theorem dqM_before_10 : decode cqM_before 10 = .ok (.iload_n 1, 1) := by decide +kernel
theorem dqM_before_11 : decode cqM_before 11 = .ok (.if_icmp .ge 18, 3) := by decide +kernel
theorem dqM_before_14 : decode cqM_before 14 = .ok (.lload_n 2, 1) := by decide +kernel
theorem dqM_before_15 : decode cqM_before 15 = .ok (.aload_n 0, 1) := by decide +kernel
theorem dqM_before_16 : decode cqM_before 16 = .ok (.iload 4, 2) := by decide +kernel
theorem dqM_before_18 : decode cqM_before 18 = .ok (.invokevirtual 164, 3) := by decide +kernel
theorem dqM_before_21 : decode cqM_before 21 = .ok (.ladd, 1) := by decide +kernel
theorem dqM_before_22 : decode cqM_before 22 = .ok (.lstore_n 2, 1) := by decide +kernel
theorem dqM_before_23 : decode cqM_before 23 = .ok (.iinc 4 1, 3) := by decide +kernel
theorem dqM_before_26 : decode cqM_before 26 = .ok (.goto (-18), 3) := by decide +kernel
theorem dqM_before_29 : decode cqM_before 29 = .ok (.lload_n 2, 1) := by decide +kernel
theorem dqM_before_30 : decode cqM_before 30 = .ok (.lreturn, 1) := by decide +kernel
theorem dqM_place_0 : decode cqM_place 0 = .ok (.aload_n 0, 1) := by decide +kernel
theorem dqM_place_1 : decode cqM_place 1 = .ok (.getfield 77, 3) := by decide +kernel
theorem dqM_place_4 : decode cqM_place 4 = .ok (.ifCond .ne 8, 3) := by decide +kernel
theorem dqM_place_7 : decode cqM_place 7 = .ok (.bipush (-3), 2) := by decide +kernel
theorem dqM_place_9 : decode cqM_place 9 = .ok (.goto 34, 3) := by decide +kernel
theorem dqM_place_12 : decode cqM_place 12 = .ok (.iload_n 1, 1) := by decide +kernel
theorem dqM_place_13 : decode cqM_place 13 = .ok (.aload_n 0, 1) := by decide +kernel
theorem dqM_place_14 : decode cqM_place 14 = .ok (.getfield 140, 3) := by decide +kernel
theorem dqM_place_17 : decode cqM_place 17 = .ok (.if_icmp .lt 11, 3) := by decide +kernel
theorem dqM_place_20 : decode cqM_place 20 = .ok (.iload_n 1, 1) := by decide +kernel
theorem dqM_place_21 : decode cqM_place 21 = .ok (.aload_n 0, 1) := by decide +kernel
theorem dqM_place_22 : decode cqM_place 22 = .ok (.getfield 143, 3) := by decide +kernel
theorem dqM_place_25 : decode cqM_place 25 = .ok (.if_icmp .le 7, 3) := by decide +kernel
theorem dqM_place_28 : decode cqM_place 28 = .ok (.iconst (-1), 1) := by decide +kernel
theorem dqM_place_29 : decode cqM_place 29 = .ok (.goto 14, 3) := by decide +kernel
theorem dqM_place_32 : decode cqM_place 32 = .ok (.aload_n 0, 1) := by decide +kernel
theorem dqM_place_33 : decode cqM_place 33 = .ok (.iload_n 1, 1) := by decide +kernel
theorem dqM_place_34 : decode cqM_place 34 = .ok (.invokevirtual 167, 3) := by decide +kernel
theorem dqM_place_37 : decode cqM_place 37 = .ok (.aload_n 0, 1) := by decide +kernel
theorem dqM_place_38 : decode cqM_place 38 = .ok (.getfield 48, 3) := by decide +kernel
theorem dqM_place_41 : decode cqM_place 41 = .ok (.ldiv, 1) := by decide +kernel
theorem dqM_place_42 : decode cqM_place 42 = .ok (.l2i, 1) := by decide +kernel
theorem dqM_place_43 : decode cqM_place 43 = .ok (.ireturn, 1) := by decide +kernel
theorem dqM_level_0 : decode cqM_level 0 = .ok (.aload_n 0, 1) := by decide +kernel
theorem dqM_level_1 : decode cqM_level 1 = .ok (.getfield 77, 3) := by decide +kernel
theorem dqM_level_4 : decode cqM_level 4 = .ok (.ifCond .ne 6, 3) := by decide +kernel
theorem dqM_level_7 : decode cqM_level 7 = .ok (.bipush (-3), 2) := by decide +kernel
theorem dqM_level_9 : decode cqM_level 9 = .ok (.ireturn, 1) := by decide +kernel
theorem dqM_level_10 : decode cqM_level 10 = .ok (.iload_n 1, 1) := by decide +kernel
theorem dqM_level_11 : decode cqM_level 11 = .ok (.aload_n 0, 1) := by decide +kernel
theorem dqM_level_12 : decode cqM_level 12 = .ok (.getfield 16, 3) := by decide +kernel
theorem dqM_level_15 : decode cqM_level 15 = .ok (.aload_n 0, 1) := by decide +kernel
theorem dqM_level_16 : decode cqM_level 16 = .ok (.getfield 140, 3) := by decide +kernel
theorem dqM_level_19 : decode cqM_level 19 = .ok (.iaload, 1) := by decide +kernel
theorem dqM_level_20 : decode cqM_level 20 = .ok (.if_icmp .lt 16, 3) := by decide +kernel
theorem dqM_level_23 : decode cqM_level 23 = .ok (.iload_n 1, 1) := by decide +kernel
theorem dqM_level_24 : decode cqM_level 24 = .ok (.aload_n 0, 1) := by decide +kernel
theorem dqM_level_25 : decode cqM_level 25 = .ok (.getfield 16, 3) := by decide +kernel
theorem dqM_level_28 : decode cqM_level 28 = .ok (.aload_n 0, 1) := by decide +kernel
theorem dqM_level_29 : decode cqM_level 29 = .ok (.getfield 143, 3) := by decide +kernel
theorem dqM_level_32 : decode cqM_level 32 = .ok (.iaload, 1) := by decide +kernel
theorem dqM_level_33 : decode cqM_level 33 = .ok (.if_icmp .le 6, 3) := by decide +kernel
theorem dqM_level_36 : decode cqM_level 36 = .ok (.bipush (-2), 2) := by decide +kernel
theorem dqM_level_38 : decode cqM_level 38 = .ok (.ireturn, 1) := by decide +kernel
theorem dqM_level_39 : decode cqM_level 39 = .ok (.aload_n 0, 1) := by decide +kernel
theorem dqM_level_40 : decode cqM_level 40 = .ok (.getfield 143, 3) := by decide +kernel
theorem dqM_level_43 : decode cqM_level 43 = .ok (.istore_n 2, 1) := by decide +kernel
theorem dqM_level_44 : decode cqM_level 44 = .ok (.aload_n 0, 1) := by decide +kernel
theorem dqM_level_45 : decode cqM_level 45 = .ok (.getfield 16, 3) := by decide +kernel
theorem dqM_level_48 : decode cqM_level 48 = .ok (.iload_n 2, 1) := by decide +kernel
theorem dqM_level_49 : decode cqM_level 49 = .ok (.iaload, 1) := by decide +kernel
theorem dqM_level_50 : decode cqM_level 50 = .ok (.iload_n 1, 1) := by decide +kernel
theorem dqM_level_51 : decode cqM_level 51 = .ok (.if_icmp .le 9, 3) := by decide +kernel
theorem dqM_level_54 : decode cqM_level 54 = .ok (.iinc 2 (-1), 3) := by decide +kernel
theorem dqM_level_57 : decode cqM_level 57 = .ok (.goto (-13), 3) := by decide +kernel
theorem dqM_level_60 : decode cqM_level 60 = .ok (.aload_n 0, 1) := by decide +kernel
theorem dqM_level_61 : decode cqM_level 61 = .ok (.iload_n 2, 1) := by decide +kernel
theorem dqM_level_62 : decode cqM_level 62 = .ok (.invokevirtual 167, 3) := by decide +kernel
theorem dqM_level_65 : decode cqM_level 65 = .ok (.lstore_n 3, 1) := by decide +kernel
theorem dqM_level_66 : decode cqM_level 66 = .ok (.iload_n 2, 1) := by decide +kernel
theorem dqM_level_67 : decode cqM_level 67 = .ok (.aload_n 0, 1) := by decide +kernel
theorem dqM_level_68 : decode cqM_level 68 = .ok (.getfield 143, 3) := by decide +kernel
theorem dqM_level_71 : decode cqM_level 71 = .ok (.if_icmp .ne 11, 3) := by decide +kernel
theorem dqM_level_74 : decode cqM_level 74 = .ok (.lload_n 3, 1) := by decide +kernel
theorem dqM_level_75 : decode cqM_level 75 = .ok (.aload_n 0, 1) := by decide +kernel
theorem dqM_level_76 : decode cqM_level 76 = .ok (.getfield 48, 3) := by decide +kernel
theorem dqM_level_79 : decode cqM_level 79 = .ok (.ldiv, 1) := by decide +kernel
theorem dqM_level_80 : decode cqM_level 80 = .ok (.l2i, 1) := by decide +kernel
theorem dqM_level_81 : decode cqM_level 81 = .ok (.ireturn, 1) := by decide +kernel
theorem dqM_level_82 : decode cqM_level 82 = .ok (.aload_n 0, 1) := by decide +kernel
theorem dqM_level_83 : decode cqM_level 83 = .ok (.getfield 16, 3) := by decide +kernel
theorem dqM_level_86 : decode cqM_level 86 = .ok (.iload_n 2, 1) := by decide +kernel
theorem dqM_level_87 : decode cqM_level 87 = .ok (.iconst 1, 1) := by decide +kernel
theorem dqM_level_88 : decode cqM_level 88 = .ok (.iadd, 1) := by decide +kernel
theorem dqM_level_89 : decode cqM_level 89 = .ok (.iaload, 1) := by decide +kernel
theorem dqM_level_90 : decode cqM_level 90 = .ok (.aload_n 0, 1) := by decide +kernel
theorem dqM_level_91 : decode cqM_level 91 = .ok (.getfield 16, 3) := by decide +kernel
theorem dqM_level_94 : decode cqM_level 94 = .ok (.iload_n 2, 1) := by decide +kernel
theorem dqM_level_95 : decode cqM_level 95 = .ok (.iaload, 1) := by decide +kernel
theorem dqM_level_96 : decode cqM_level 96 = .ok (.isub, 1) := by decide +kernel
theorem dqM_level_97 : decode cqM_level 97 = .ok (.i2l, 1) := by decide +kernel
theorem dqM_level_98 : decode cqM_level 98 = .ok (.lstore 5, 2) := by decide +kernel
theorem dqM_level_100 : decode cqM_level 100 = .ok (.iload_n 1, 1) := by decide +kernel
theorem dqM_level_101 : decode cqM_level 101 = .ok (.aload_n 0, 1) := by decide +kernel
theorem dqM_level_102 : decode cqM_level 102 = .ok (.getfield 16, 3) := by decide +kernel
theorem dqM_level_105 : decode cqM_level 105 = .ok (.iload_n 2, 1) := by decide +kernel
theorem dqM_level_106 : decode cqM_level 106 = .ok (.iaload, 1) := by decide +kernel
theorem dqM_level_107 : decode cqM_level 107 = .ok (.isub, 1) := by decide +kernel
theorem dqM_level_108 : decode cqM_level 108 = .ok (.i2l, 1) := by decide +kernel
theorem dqM_level_109 : decode cqM_level 109 = .ok (.lstore 7, 2) := by decide +kernel
theorem dqM_level_111 : decode cqM_level 111 = .ok (.aload_n 0, 1) := by decide +kernel
theorem dqM_level_112 : decode cqM_level 112 = .ok (.iload_n 2, 1) := by decide +kernel
theorem dqM_level_113 : decode cqM_level 113 = .ok (.invokevirtual 164, 3) := by decide +kernel
theorem dqM_level_116 : decode cqM_level 116 = .ok (.lstore 9, 2) := by decide +kernel
theorem dqM_level_118 : decode cqM_level 118 = .ok (.lload 9, 2) := by decide +kernel
theorem dqM_level_120 : decode cqM_level 120 = .ok (.aload_n 0, 1) := by decide +kernel
theorem dqM_level_121 : decode cqM_level 121 = .ok (.getfield 48, 3) := by decide +kernel
theorem dqM_level_124 : decode cqM_level 124 = .ok (.ldiv, 1) := by decide +kernel
theorem dqM_level_125 : decode cqM_level 125 = .ok (.lload 7, 2) := by decide +kernel
theorem dqM_level_127 : decode cqM_level 127 = .ok (.lmul, 1) := by decide +kernel
theorem dqM_level_128 : decode cqM_level 128 = .ok (.lstore 11, 2) := by decide +kernel
theorem dqM_level_130 : decode cqM_level 130 = .ok (.lload_n 3, 1) := by decide +kernel
theorem dqM_level_131 : decode cqM_level 131 = .ok (.aload_n 0, 1) := by decide +kernel
theorem dqM_level_132 : decode cqM_level 132 = .ok (.getfield 48, 3) := by decide +kernel
theorem dqM_level_135 : decode cqM_level 135 = .ok (.lrem, 1) := by decide +kernel
theorem dqM_level_136 : decode cqM_level 136 = .ok (.lload 5, 2) := by decide +kernel
theorem dqM_level_138 : decode cqM_level 138 = .ok (.lmul, 1) := by decide +kernel
theorem dqM_level_139 : decode cqM_level 139 = .ok (.lload 9, 2) := by decide +kernel
theorem dqM_level_141 : decode cqM_level 141 = .ok (.aload_n 0, 1) := by decide +kernel
theorem dqM_level_142 : decode cqM_level 142 = .ok (.getfield 48, 3) := by decide +kernel
theorem dqM_level_145 : decode cqM_level 145 = .ok (.lrem, 1) := by decide +kernel
theorem dqM_level_146 : decode cqM_level 146 = .ok (.lload 7, 2) := by decide +kernel
theorem dqM_level_148 : decode cqM_level 148 = .ok (.lmul, 1) := by decide +kernel
theorem dqM_level_149 : decode cqM_level 149 = .ok (.ladd, 1) := by decide +kernel
theorem dqM_level_150 : decode cqM_level 150 = .ok (.lload 11, 2) := by decide +kernel
theorem dqM_level_152 : decode cqM_level 152 = .ok (.lload 5, 2) := by decide +kernel
theorem dqM_level_154 : decode cqM_level 154 = .ok (.lrem, 1) := by decide +kernel
theorem dqM_level_155 : decode cqM_level 155 = .ok (.aload_n 0, 1) := by decide +kernel
theorem dqM_level_156 : decode cqM_level 156 = .ok (.getfield 48, 3) := by decide +kernel
theorem dqM_level_159 : decode cqM_level 159 = .ok (.lmul, 1) := by decide +kernel
theorem dqM_level_160 : decode cqM_level 160 = .ok (.ladd, 1) := by decide +kernel
theorem dqM_level_161 : decode cqM_level 161 = .ok (.lstore 13, 2) := by decide +kernel
theorem dqM_level_163 : decode cqM_level 163 = .ok (.lload_n 3, 1) := by decide +kernel
theorem dqM_level_164 : decode cqM_level 164 = .ok (.aload_n 0, 1) := by decide +kernel
theorem dqM_level_165 : decode cqM_level 165 = .ok (.getfield 48, 3) := by decide +kernel
theorem dqM_level_168 : decode cqM_level 168 = .ok (.ldiv, 1) := by decide +kernel
theorem dqM_level_169 : decode cqM_level 169 = .ok (.lload 11, 2) := by decide +kernel
theorem dqM_level_171 : decode cqM_level 171 = .ok (.lload 5, 2) := by decide +kernel
theorem dqM_level_173 : decode cqM_level 173 = .ok (.ldiv, 1) := by decide +kernel
theorem dqM_level_174 : decode cqM_level 174 = .ok (.ladd, 1) := by decide +kernel
theorem dqM_level_175 : decode cqM_level 175 = .ok (.lload 13, 2) := by decide +kernel
theorem dqM_level_177 : decode cqM_level 177 = .ok (.aload_n 0, 1) := by decide +kernel
theorem dqM_level_178 : decode cqM_level 178 = .ok (.getfield 48, 3) := by decide +kernel
theorem dqM_level_181 : decode cqM_level 181 = .ok (.lload 5, 2) := by decide +kernel
theorem dqM_level_183 : decode cqM_level 183 = .ok (.lmul, 1) := by decide +kernel
theorem dqM_level_184 : decode cqM_level 184 = .ok (.ldiv, 1) := by decide +kernel
theorem dqM_level_185 : decode cqM_level 185 = .ok (.ladd, 1) := by decide +kernel
theorem dqM_level_186 : decode cqM_level 186 = .ok (.l2i, 1) := by decide +kernel
theorem dqM_level_187 : decode cqM_level 187 = .ok (.ireturn, 1) := by decide +kernel
theorem dqM_naturalOf_0 : decode cqM_naturalOf 0 = .ok (.aload_n 0, 1) := by decide +kernel
theorem dqM_naturalOf_1 : decode cqM_naturalOf 1 = .ok (.iload_n 1, 1) := by decide +kernel
theorem dqM_naturalOf_2 : decode cqM_naturalOf 2 = .ok (.iload_n 2, 1) := by decide +kernel
theorem dqM_naturalOf_3 : decode cqM_naturalOf 3 = .ok (.invokevirtual 136, 3) := by decide +kernel
theorem dqM_naturalOf_6 : decode cqM_naturalOf 6 = .ok (.iconst 0, 1) := by decide +kernel
theorem dqM_naturalOf_7 : decode cqM_naturalOf 7 = .ok (.istore_n 3, 1) := by decide +kernel
theorem dqM_naturalOf_8 : decode cqM_naturalOf 8 = .ok (.iload_n 1, 1) := by decide +kernel
theorem dqM_naturalOf_9 : decode cqM_naturalOf 9 = .ok (.istore 4, 2) := by decide +kernel
theorem dqM_naturalOf_11 : decode cqM_naturalOf 11 = .ok (.iload 4, 2) := by decide +kernel
theorem dqM_naturalOf_13 : decode cqM_naturalOf 13 = .ok (.iload_n 2, 1) := by decide +kernel
theorem dqM_naturalOf_14 : decode cqM_naturalOf 14 = .ok (.if_icmp .ge 50, 3) := by decide +kernel
theorem dqM_naturalOf_17 : decode cqM_naturalOf 17 = .ok (.aload_n 0, 1) := by decide +kernel
theorem dqM_naturalOf_18 : decode cqM_naturalOf 18 = .ok (.getfield 55, 3) := by decide +kernel
theorem dqM_naturalOf_21 : decode cqM_naturalOf 21 = .ok (.iload 4, 2) := by decide +kernel
theorem dqM_naturalOf_23 : decode cqM_naturalOf 23 = .ok (.laload, 1) := by decide +kernel
theorem dqM_naturalOf_24 : decode cqM_naturalOf 24 = .ok (.ldc2_w 97, 3) := by decide +kernel
theorem dqM_naturalOf_27 : decode cqM_naturalOf 27 = .ok (.ldiv, 1) := by decide +kernel
theorem dqM_naturalOf_28 : decode cqM_naturalOf 28 = .ok (.l2i, 1) := by decide +kernel
theorem dqM_naturalOf_29 : decode cqM_naturalOf 29 = .ok (.istore 5, 2) := by decide +kernel
theorem dqM_naturalOf_31 : decode cqM_naturalOf 31 = .ok (.iload_n 3, 1) := by decide +kernel
theorem dqM_naturalOf_32 : decode cqM_naturalOf 32 = .ok (.iload 5, 2) := by decide +kernel
theorem dqM_naturalOf_34 : decode cqM_naturalOf 34 = .ok (.aload_n 0, 1) := by decide +kernel
theorem dqM_naturalOf_35 : decode cqM_naturalOf 35 = .ok (.getfield 62, 3) := by decide +kernel
theorem dqM_naturalOf_38 : decode cqM_naturalOf 38 = .ok (.iload 4, 2) := by decide +kernel
theorem dqM_naturalOf_40 : decode cqM_naturalOf 40 = .ok (.iaload, 1) := by decide +kernel
theorem dqM_naturalOf_41 : decode cqM_naturalOf 41 = .ok (.if_icmp .le 8, 3) := by decide +kernel
theorem dqM_naturalOf_44 : decode cqM_naturalOf 44 = .ok (.iload 5, 2) := by decide +kernel
theorem dqM_naturalOf_46 : decode cqM_naturalOf 46 = .ok (.goto 10, 3) := by decide +kernel
theorem dqM_naturalOf_49 : decode cqM_naturalOf 49 = .ok (.aload_n 0, 1) := by decide +kernel
theorem dqM_naturalOf_50 : decode cqM_naturalOf 50 = .ok (.getfield 62, 3) := by decide +kernel
theorem dqM_naturalOf_53 : decode cqM_naturalOf 53 = .ok (.iload 4, 2) := by decide +kernel
theorem dqM_naturalOf_55 : decode cqM_naturalOf 55 = .ok (.iaload, 1) := by decide +kernel
theorem dqM_naturalOf_56 : decode cqM_naturalOf 56 = .ok (.iadd, 1) := by decide +kernel
theorem dqM_naturalOf_57 : decode cqM_naturalOf 57 = .ok (.istore_n 3, 1) := by decide +kernel
theorem dqM_naturalOf_58 : decode cqM_naturalOf 58 = .ok (.iinc 4 1, 3) := by decide +kernel
theorem dqM_naturalOf_61 : decode cqM_naturalOf 61 = .ok (.goto (-50), 3) := by decide +kernel
theorem dqM_naturalOf_64 : decode cqM_naturalOf 64 = .ok (.iload_n 3, 1) := by decide +kernel
theorem dqM_naturalOf_65 : decode cqM_naturalOf 65 = .ok (.ireturn, 1) := by decide +kernel
theorem dqM_natural_0 : decode cqM_natural 0 = .ok (.aload_n 0, 1) := by decide +kernel
theorem dqM_natural_1 : decode cqM_natural 1 = .ok (.iload_n 1, 1) := by decide +kernel
theorem dqM_natural_2 : decode cqM_natural 2 = .ok (.invokevirtual 106, 3) := by decide +kernel
theorem dqM_natural_5 : decode cqM_natural 5 = .ok (.ifCond .eq 11, 3) := by decide +kernel
theorem dqM_natural_8 : decode cqM_natural 8 = .ok (.aload_n 0, 1) := by decide +kernel
theorem dqM_natural_9 : decode cqM_natural 9 = .ok (.iload_n 2, 1) := by decide +kernel
theorem dqM_natural_10 : decode cqM_natural 10 = .ok (.invokevirtual 106, 3) := by decide +kernel
theorem dqM_natural_13 : decode cqM_natural 13 = .ok (.ifCond .ne 7, 3) := by decide +kernel
theorem dqM_natural_16 : decode cqM_natural 16 = .ok (.iconst (-1), 1) := by decide +kernel
theorem dqM_natural_17 : decode cqM_natural 17 = .ok (.goto 19, 3) := by decide +kernel
theorem dqM_natural_20 : decode cqM_natural 20 = .ok (.iload_n 1, 1) := by decide +kernel
theorem dqM_natural_21 : decode cqM_natural 21 = .ok (.iload_n 2, 1) := by decide +kernel
theorem dqM_natural_22 : decode cqM_natural 22 = .ok (.if_icmp .lt 8, 3) := by decide +kernel
theorem dqM_natural_25 : decode cqM_natural 25 = .ok (.bipush (-2), 2) := by decide +kernel
theorem dqM_natural_27 : decode cqM_natural 27 = .ok (.goto 9, 3) := by decide +kernel
theorem dqM_natural_30 : decode cqM_natural 30 = .ok (.aload_n 0, 1) := by decide +kernel
theorem dqM_natural_31 : decode cqM_natural 31 = .ok (.iload_n 1, 1) := by decide +kernel
theorem dqM_natural_32 : decode cqM_natural 32 = .ok (.iload_n 2, 1) := by decide +kernel
theorem dqM_natural_33 : decode cqM_natural 33 = .ok (.invokevirtual 170, 3) := by decide +kernel
theorem dqM_natural_36 : decode cqM_natural 36 = .ok (.ireturn, 1) := by decide +kernel
end
section
theorem dqM_costOf_0 : decode cqM_costOf 0 = .ok (.aload_n 0, 1) := by decide +kernel
theorem dqM_costOf_1 : decode cqM_costOf 1 = .ok (.iload_n 1, 1) := by decide +kernel
theorem dqM_costOf_2 : decode cqM_costOf 2 = .ok (.iload_n 2, 1) := by decide +kernel
theorem dqM_costOf_3 : decode cqM_costOf 3 = .ok (.invokevirtual 170, 3) := by decide +kernel
theorem dqM_costOf_6 : decode cqM_costOf 6 = .ok (.istore 4, 2) := by decide +kernel
theorem dqM_costOf_8 : decode cqM_costOf 8 = .ok (.iload_n 2, 1) := by decide +kernel
theorem dqM_costOf_9 : decode cqM_costOf 9 = .ok (.aload_n 0, 1) := by decide +kernel
theorem dqM_costOf_10 : decode cqM_costOf 10 = .ok (.getfield 88, 3) := by decide +kernel
theorem dqM_costOf_13 : decode cqM_costOf 13 = .ok (.iconst 1, 1) := by decide +kernel
theorem dqM_costOf_14 : decode cqM_costOf 14 = .ok (.isub, 1) := by decide +kernel
theorem dqM_costOf_15 : decode cqM_costOf 15 = .ok (.if_icmp .ne 11, 3) := by decide +kernel
theorem dqM_costOf_18 : decode cqM_costOf 18 = .ok (.iload 4, 2) := by decide +kernel
theorem dqM_costOf_20 : decode cqM_costOf 20 = .ok (.iload_n 3, 1) := by decide +kernel
theorem dqM_costOf_21 : decode cqM_costOf 21 = .ok (.if_icmp .gt 5, 3) := by decide +kernel
theorem dqM_costOf_24 : decode cqM_costOf 24 = .ok (.lconst 0, 1) := by decide +kernel
theorem dqM_costOf_25 : decode cqM_costOf 25 = .ok (.lreturn, 1) := by decide +kernel
theorem dqM_costOf_26 : decode cqM_costOf 26 = .ok (.iload_n 3, 1) := by decide +kernel
theorem dqM_costOf_27 : decode cqM_costOf 27 = .ok (.iload 4, 2) := by decide +kernel
theorem dqM_costOf_29 : decode cqM_costOf 29 = .ok (.isub, 1) := by decide +kernel
theorem dqM_costOf_30 : decode cqM_costOf 30 = .ok (.i2l, 1) := by decide +kernel
theorem dqM_costOf_31 : decode cqM_costOf 31 = .ok (.lstore 5, 2) := by decide +kernel
theorem dqM_costOf_33 : decode cqM_costOf 33 = .ok (.lload 5, 2) := by decide +kernel
theorem dqM_costOf_35 : decode cqM_costOf 35 = .ok (.lload 5, 2) := by decide +kernel
theorem dqM_costOf_37 : decode cqM_costOf 37 = .ok (.lmul, 1) := by decide +kernel
theorem dqM_costOf_38 : decode cqM_costOf 38 = .ok (.aload_n 0, 1) := by decide +kernel
theorem dqM_costOf_39 : decode cqM_costOf 39 = .ok (.iload_n 1, 1) := by decide +kernel
theorem dqM_costOf_40 : decode cqM_costOf 40 = .ok (.iload_n 2, 1) := by decide +kernel
theorem dqM_costOf_41 : decode cqM_costOf 41 = .ok (.invokevirtual 116, 3) := by decide +kernel
theorem dqM_costOf_44 : decode cqM_costOf 44 = .ok (.iload_n 3, 1) := by decide +kernel
theorem dqM_costOf_45 : decode cqM_costOf 45 = .ok (.if_icmp .le 9, 3) := by decide +kernel
theorem dqM_costOf_48 : decode cqM_costOf 48 = .ok (.ldc2_w 173, 3) := by decide +kernel
theorem dqM_costOf_51 : decode cqM_costOf 51 = .ok (.goto 4, 3) := by decide +kernel
theorem dqM_costOf_54 : decode cqM_costOf 54 = .ok (.lconst 0, 1) := by decide +kernel
theorem dqM_costOf_55 : decode cqM_costOf 55 = .ok (.ladd, 1) := by decide +kernel
theorem dqM_costOf_56 : decode cqM_costOf 56 = .ok (.lreturn, 1) := by decide +kernel
theorem dqM_isBreak_0 : decode cqM_isBreak 0 = .ok (.iload_n 1, 1) := by decide +kernel
theorem dqM_isBreak_1 : decode cqM_isBreak 1 = .ok (.ifCond .eq 22, 3) := by decide +kernel
theorem dqM_isBreak_4 : decode cqM_isBreak 4 = .ok (.iload_n 1, 1) := by decide +kernel
theorem dqM_isBreak_5 : decode cqM_isBreak 5 = .ok (.aload_n 0, 1) := by decide +kernel
theorem dqM_isBreak_6 : decode cqM_isBreak 6 = .ok (.getfield 88, 3) := by decide +kernel
theorem dqM_isBreak_9 : decode cqM_isBreak 9 = .ok (.iconst 1, 1) := by decide +kernel
theorem dqM_isBreak_10 : decode cqM_isBreak 10 = .ok (.isub, 1) := by decide +kernel
theorem dqM_isBreak_11 : decode cqM_isBreak 11 = .ok (.if_icmp .eq 12, 3) := by decide +kernel
theorem dqM_isBreak_14 : decode cqM_isBreak 14 = .ok (.aload_n 0, 1) := by decide +kernel
theorem dqM_isBreak_15 : decode cqM_isBreak 15 = .ok (.getfield 23, 3) := by decide +kernel
theorem dqM_isBreak_18 : decode cqM_isBreak 18 = .ok (.iload_n 1, 1) := by decide +kernel
theorem dqM_isBreak_19 : decode cqM_isBreak 19 = .ok (.baload, 1) := by decide +kernel
theorem dqM_isBreak_20 : decode cqM_isBreak 20 = .ok (.ifCond .eq 7, 3) := by decide +kernel
theorem dqM_isBreak_23 : decode cqM_isBreak 23 = .ok (.iconst 1, 1) := by decide +kernel
theorem dqM_isBreak_24 : decode cqM_isBreak 24 = .ok (.goto 4, 3) := by decide +kernel
theorem dqM_isBreak_27 : decode cqM_isBreak 27 = .ok (.iconst 0, 1) := by decide +kernel
theorem dqM_isBreak_28 : decode cqM_isBreak 28 = .ok (.ireturn, 1) := by decide +kernel
theorem dqM_lines_0 : decode cqM_lines 0 = .ok (.iload_n 1, 1) := by decide +kernel
theorem dqM_lines_1 : decode cqM_lines 1 = .ok (.ifCond .lt 10, 3) := by decide +kernel
theorem dqM_lines_4 : decode cqM_lines 4 = .ok (.iload_n 1, 1) := by decide +kernel
theorem dqM_lines_5 : decode cqM_lines 5 = .ok (.sipush 20000, 3) := by decide +kernel
theorem dqM_lines_8 : decode cqM_lines 8 = .ok (.if_icmp .le 6, 3) := by decide +kernel
theorem dqM_lines_11 : decode cqM_lines 11 = .ok (.bipush (-2), 2) := by decide +kernel
theorem dqM_lines_13 : decode cqM_lines 13 = .ok (.ireturn, 1) := by decide +kernel
theorem dqM_lines_14 : decode cqM_lines 14 = .ok (.aload_n 0, 1) := by decide +kernel
theorem dqM_lines_15 : decode cqM_lines 15 = .ok (.getfield 88, 3) := by decide +kernel
theorem dqM_lines_18 : decode cqM_lines 18 = .ok (.iconst 2, 1) := by decide +kernel
theorem dqM_lines_19 : decode cqM_lines 19 = .ok (.if_icmp .ge 6, 3) := by decide +kernel
theorem dqM_lines_22 : decode cqM_lines 22 = .ok (.bipush (-3), 2) := by decide +kernel
theorem dqM_lines_24 : decode cqM_lines 24 = .ok (.ireturn, 1) := by decide +kernel
theorem dqM_lines_25 : decode cqM_lines 25 = .ok (.aload_n 0, 1) := by decide +kernel
theorem dqM_lines_26 : decode cqM_lines 26 = .ok (.getfield 68, 3) := by decide +kernel
theorem dqM_lines_29 : decode cqM_lines 29 = .ok (.aload_n 0, 1) := by decide +kernel
theorem dqM_lines_30 : decode cqM_lines 30 = .ok (.getfield 88, 3) := by decide +kernel
theorem dqM_lines_33 : decode cqM_lines 33 = .ok (.iconst 1, 1) := by decide +kernel
theorem dqM_lines_34 : decode cqM_lines 34 = .ok (.isub, 1) := by decide +kernel
theorem dqM_lines_35 : decode cqM_lines 35 = .ok (.lconst 0, 1) := by decide +kernel
theorem dqM_lines_36 : decode cqM_lines 36 = .ok (.lastore, 1) := by decide +kernel
theorem dqM_lines_37 : decode cqM_lines 37 = .ok (.aload_n 0, 1) := by decide +kernel
theorem dqM_lines_38 : decode cqM_lines 38 = .ok (.getfield 71, 3) := by decide +kernel
theorem dqM_lines_41 : decode cqM_lines 41 = .ok (.aload_n 0, 1) := by decide +kernel
theorem dqM_lines_42 : decode cqM_lines 42 = .ok (.getfield 88, 3) := by decide +kernel
theorem dqM_lines_45 : decode cqM_lines 45 = .ok (.iconst 1, 1) := by decide +kernel
theorem dqM_lines_46 : decode cqM_lines 46 = .ok (.isub, 1) := by decide +kernel
theorem dqM_lines_47 : decode cqM_lines 47 = .ok (.iconst 0, 1) := by decide +kernel
theorem dqM_lines_48 : decode cqM_lines 48 = .ok (.iastore, 1) := by decide +kernel
theorem dqM_lines_49 : decode cqM_lines 49 = .ok (.aload_n 0, 1) := by decide +kernel
theorem dqM_lines_50 : decode cqM_lines 50 = .ok (.getfield 88, 3) := by decide +kernel
theorem dqM_lines_53 : decode cqM_lines 53 = .ok (.iconst 2, 1) := by decide +kernel
theorem dqM_lines_54 : decode cqM_lines 54 = .ok (.isub, 1) := by decide +kernel
theorem dqM_lines_55 : decode cqM_lines 55 = .ok (.istore_n 2, 1) := by decide +kernel
theorem dqM_lines_56 : decode cqM_lines 56 = .ok (.iload_n 2, 1) := by decide +kernel
theorem dqM_lines_57 : decode cqM_lines 57 = .ok (.ifCond .lt 146, 3) := by decide +kernel
theorem dqM_lines_60 : decode cqM_lines 60 = .ok (.aload_n 0, 1) := by decide +kernel
theorem dqM_lines_61 : decode cqM_lines 61 = .ok (.getfield 74, 3) := by decide +kernel
theorem dqM_lines_64 : decode cqM_lines 64 = .ok (.iload_n 2, 1) := by decide +kernel
theorem dqM_lines_65 : decode cqM_lines 65 = .ok (.iconst (-1), 1) := by decide +kernel
theorem dqM_lines_66 : decode cqM_lines 66 = .ok (.iastore, 1) := by decide +kernel
theorem dqM_lines_67 : decode cqM_lines 67 = .ok (.aload_n 0, 1) := by decide +kernel
theorem dqM_lines_68 : decode cqM_lines 68 = .ok (.getfield 88, 3) := by decide +kernel
theorem dqM_lines_71 : decode cqM_lines 71 = .ok (.iconst 1, 1) := by decide +kernel
theorem dqM_lines_72 : decode cqM_lines 72 = .ok (.isub, 1) := by decide +kernel
theorem dqM_lines_73 : decode cqM_lines 73 = .ok (.istore_n 3, 1) := by decide +kernel
theorem dqM_lines_74 : decode cqM_lines 74 = .ok (.iload_n 3, 1) := by decide +kernel
theorem dqM_lines_75 : decode cqM_lines 75 = .ok (.iload_n 2, 1) := by decide +kernel
theorem dqM_lines_76 : decode cqM_lines 76 = .ok (.if_icmp .le 121, 3) := by decide +kernel
theorem dqM_lines_79 : decode cqM_lines 79 = .ok (.aload_n 0, 1) := by decide +kernel
theorem dqM_lines_80 : decode cqM_lines 80 = .ok (.iload_n 2, 1) := by decide +kernel
theorem dqM_lines_81 : decode cqM_lines 81 = .ok (.invokevirtual 175, 3) := by decide +kernel
theorem dqM_lines_84 : decode cqM_lines 84 = .ok (.ifCond .eq 113, 3) := by decide +kernel
theorem dqM_lines_87 : decode cqM_lines 87 = .ok (.aload_n 0, 1) := by decide +kernel
theorem dqM_lines_88 : decode cqM_lines 88 = .ok (.iload_n 3, 1) := by decide +kernel
theorem dqM_lines_89 : decode cqM_lines 89 = .ok (.invokevirtual 175, 3) := by decide +kernel
theorem dqM_lines_92 : decode cqM_lines 92 = .ok (.ifCond .ne 6, 3) := by decide +kernel
theorem dqM_lines_95 : decode cqM_lines 95 = .ok (.goto 96, 3) := by decide +kernel
theorem dqM_lines_98 : decode cqM_lines 98 = .ok (.aload_n 0, 1) := by decide +kernel
theorem dqM_lines_99 : decode cqM_lines 99 = .ok (.iload_n 2, 1) := by decide +kernel
theorem dqM_lines_100 : decode cqM_lines 100 = .ok (.iload_n 3, 1) := by decide +kernel
theorem dqM_lines_101 : decode cqM_lines 101 = .ok (.iload_n 1, 1) := by decide +kernel
theorem dqM_lines_102 : decode cqM_lines 102 = .ok (.invokevirtual 178, 3) := by decide +kernel
theorem dqM_lines_105 : decode cqM_lines 105 = .ok (.aload_n 0, 1) := by decide +kernel
theorem dqM_lines_106 : decode cqM_lines 106 = .ok (.getfield 68, 3) := by decide +kernel
theorem dqM_lines_109 : decode cqM_lines 109 = .ok (.iload_n 3, 1) := by decide +kernel
theorem dqM_lines_110 : decode cqM_lines 110 = .ok (.laload, 1) := by decide +kernel
theorem dqM_lines_111 : decode cqM_lines 111 = .ok (.ladd, 1) := by decide +kernel
theorem dqM_lines_112 : decode cqM_lines 112 = .ok (.lstore 4, 2) := by decide +kernel
theorem dqM_lines_114 : decode cqM_lines 114 = .ok (.iconst 1, 1) := by decide +kernel
theorem dqM_lines_115 : decode cqM_lines 115 = .ok (.aload_n 0, 1) := by decide +kernel
theorem dqM_lines_116 : decode cqM_lines 116 = .ok (.getfield 71, 3) := by decide +kernel
theorem dqM_lines_119 : decode cqM_lines 119 = .ok (.iload_n 3, 1) := by decide +kernel
theorem dqM_lines_120 : decode cqM_lines 120 = .ok (.iaload, 1) := by decide +kernel
theorem dqM_lines_121 : decode cqM_lines 121 = .ok (.iadd, 1) := by decide +kernel
theorem dqM_lines_122 : decode cqM_lines 122 = .ok (.istore 6, 2) := by decide +kernel
theorem dqM_lines_124 : decode cqM_lines 124 = .ok (.aload_n 0, 1) := by decide +kernel
theorem dqM_lines_125 : decode cqM_lines 125 = .ok (.getfield 74, 3) := by decide +kernel
theorem dqM_lines_128 : decode cqM_lines 128 = .ok (.iload_n 2, 1) := by decide +kernel
theorem dqM_lines_129 : decode cqM_lines 129 = .ok (.iaload, 1) := by decide +kernel
theorem dqM_lines_130 : decode cqM_lines 130 = .ok (.ifCond .lt 38, 3) := by decide +kernel
theorem dqM_lines_133 : decode cqM_lines 133 = .ok (.lload 4, 2) := by decide +kernel
theorem dqM_lines_135 : decode cqM_lines 135 = .ok (.aload_n 0, 1) := by decide +kernel
theorem dqM_lines_136 : decode cqM_lines 136 = .ok (.getfield 68, 3) := by decide +kernel
theorem dqM_lines_139 : decode cqM_lines 139 = .ok (.iload_n 2, 1) := by decide +kernel
theorem dqM_lines_140 : decode cqM_lines 140 = .ok (.laload, 1) := by decide +kernel
theorem dqM_lines_141 : decode cqM_lines 141 = .ok (.lcmp, 1) := by decide +kernel
theorem dqM_lines_142 : decode cqM_lines 142 = .ok (.ifCond .lt 26, 3) := by decide +kernel
theorem dqM_lines_145 : decode cqM_lines 145 = .ok (.lload 4, 2) := by decide +kernel
theorem dqM_lines_147 : decode cqM_lines 147 = .ok (.aload_n 0, 1) := by decide +kernel
theorem dqM_lines_148 : decode cqM_lines 148 = .ok (.getfield 68, 3) := by decide +kernel
theorem dqM_lines_151 : decode cqM_lines 151 = .ok (.iload_n 2, 1) := by decide +kernel
theorem dqM_lines_152 : decode cqM_lines 152 = .ok (.laload, 1) := by decide +kernel
theorem dqM_lines_153 : decode cqM_lines 153 = .ok (.lcmp, 1) := by decide +kernel
theorem dqM_lines_154 : decode cqM_lines 154 = .ok (.ifCond .ne 37, 3) := by decide +kernel
theorem dqM_lines_157 : decode cqM_lines 157 = .ok (.iload 6, 2) := by decide +kernel
theorem dqM_lines_159 : decode cqM_lines 159 = .ok (.aload_n 0, 1) := by decide +kernel
theorem dqM_lines_160 : decode cqM_lines 160 = .ok (.getfield 71, 3) := by decide +kernel
theorem dqM_lines_163 : decode cqM_lines 163 = .ok (.iload_n 2, 1) := by decide +kernel
theorem dqM_lines_164 : decode cqM_lines 164 = .ok (.iaload, 1) := by decide +kernel
theorem dqM_lines_165 : decode cqM_lines 165 = .ok (.if_icmp .ge 26, 3) := by decide +kernel
theorem dqM_lines_168 : decode cqM_lines 168 = .ok (.aload_n 0, 1) := by decide +kernel
theorem dqM_lines_169 : decode cqM_lines 169 = .ok (.getfield 68, 3) := by decide +kernel
theorem dqM_lines_172 : decode cqM_lines 172 = .ok (.iload_n 2, 1) := by decide +kernel
theorem dqM_lines_173 : decode cqM_lines 173 = .ok (.lload 4, 2) := by decide +kernel
theorem dqM_lines_175 : decode cqM_lines 175 = .ok (.lastore, 1) := by decide +kernel
theorem dqM_lines_176 : decode cqM_lines 176 = .ok (.aload_n 0, 1) := by decide +kernel
theorem dqM_lines_177 : decode cqM_lines 177 = .ok (.getfield 71, 3) := by decide +kernel
theorem dqM_lines_180 : decode cqM_lines 180 = .ok (.iload_n 2, 1) := by decide +kernel
theorem dqM_lines_181 : decode cqM_lines 181 = .ok (.iload 6, 2) := by decide +kernel
theorem dqM_lines_183 : decode cqM_lines 183 = .ok (.iastore, 1) := by decide +kernel
theorem dqM_lines_184 : decode cqM_lines 184 = .ok (.aload_n 0, 1) := by decide +kernel
theorem dqM_lines_185 : decode cqM_lines 185 = .ok (.getfield 74, 3) := by decide +kernel
theorem dqM_lines_188 : decode cqM_lines 188 = .ok (.iload_n 2, 1) := by decide +kernel
theorem dqM_lines_189 : decode cqM_lines 189 = .ok (.iload_n 3, 1) := by decide +kernel
theorem dqM_lines_190 : decode cqM_lines 190 = .ok (.iastore, 1) := by decide +kernel
theorem dqM_lines_191 : decode cqM_lines 191 = .ok (.iinc 3 (-1), 3) := by decide +kernel
theorem dqM_lines_194 : decode cqM_lines 194 = .ok (.goto (-120), 3) := by decide +kernel
theorem dqM_lines_197 : decode cqM_lines 197 = .ok (.iinc 2 (-1), 3) := by decide +kernel
theorem dqM_lines_200 : decode cqM_lines 200 = .ok (.goto (-144), 3) := by decide +kernel
theorem dqM_lines_203 : decode cqM_lines 203 = .ok (.aload_n 0, 1) := by decide +kernel
theorem dqM_lines_204 : decode cqM_lines 204 = .ok (.iconst 1, 1) := by decide +kernel
theorem dqM_lines_205 : decode cqM_lines 205 = .ok (.putfield 81, 3) := by decide +kernel
theorem dqM_lines_208 : decode cqM_lines 208 = .ok (.aload_n 0, 1) := by decide +kernel
theorem dqM_lines_209 : decode cqM_lines 209 = .ok (.aload_n 0, 1) := by decide +kernel
theorem dqM_lines_210 : decode cqM_lines 210 = .ok (.getfield 71, 3) := by decide +kernel
theorem dqM_lines_213 : decode cqM_lines 213 = .ok (.iconst 0, 1) := by decide +kernel
theorem dqM_lines_214 : decode cqM_lines 214 = .ok (.iaload, 1) := by decide +kernel
theorem dqM_lines_215 : decode cqM_lines 215 = .ok (.putfield 182, 3) := by decide +kernel
theorem dqM_lines_218 : decode cqM_lines 218 = .ok (.aload_n 0, 1) := by decide +kernel
theorem dqM_lines_219 : decode cqM_lines 219 = .ok (.aload_n 0, 1) := by decide +kernel
theorem dqM_lines_220 : decode cqM_lines 220 = .ok (.getfield 68, 3) := by decide +kernel
theorem dqM_lines_223 : decode cqM_lines 223 = .ok (.iconst 0, 1) := by decide +kernel
theorem dqM_lines_224 : decode cqM_lines 224 = .ok (.laload, 1) := by decide +kernel
theorem dqM_lines_225 : decode cqM_lines 225 = .ok (.putfield 185, 3) := by decide +kernel
theorem dqM_lines_228 : decode cqM_lines 228 = .ok (.iconst 0, 1) := by decide +kernel
theorem dqM_lines_229 : decode cqM_lines 229 = .ok (.istore_n 2, 1) := by decide +kernel
theorem dqM_lines_230 : decode cqM_lines 230 = .ok (.iconst 0, 1) := by decide +kernel
theorem dqM_lines_231 : decode cqM_lines 231 = .ok (.istore_n 3, 1) := by decide +kernel
theorem dqM_lines_232 : decode cqM_lines 232 = .ok (.iload_n 3, 1) := by decide +kernel
theorem dqM_lines_233 : decode cqM_lines 233 = .ok (.aload_n 0, 1) := by decide +kernel
theorem dqM_lines_234 : decode cqM_lines 234 = .ok (.getfield 182, 3) := by decide +kernel
theorem dqM_lines_237 : decode cqM_lines 237 = .ok (.if_icmp .gt 35, 3) := by decide +kernel
theorem dqM_lines_240 : decode cqM_lines 240 = .ok (.aload_n 0, 1) := by decide +kernel
theorem dqM_lines_241 : decode cqM_lines 241 = .ok (.getfield 59, 3) := by decide +kernel
theorem dqM_lines_244 : decode cqM_lines 244 = .ok (.iload_n 3, 1) := by decide +kernel
theorem dqM_lines_245 : decode cqM_lines 245 = .ok (.iload_n 2, 1) := by decide +kernel
theorem dqM_lines_246 : decode cqM_lines 246 = .ok (.iastore, 1) := by decide +kernel
theorem dqM_lines_247 : decode cqM_lines 247 = .ok (.iload_n 3, 1) := by decide +kernel
theorem dqM_lines_248 : decode cqM_lines 248 = .ok (.aload_n 0, 1) := by decide +kernel
theorem dqM_lines_249 : decode cqM_lines 249 = .ok (.getfield 182, 3) := by decide +kernel
theorem dqM_lines_252 : decode cqM_lines 252 = .ok (.if_icmp .ge 12, 3) := by decide +kernel
theorem dqM_lines_255 : decode cqM_lines 255 = .ok (.aload_n 0, 1) := by decide +kernel
theorem dqM_lines_256 : decode cqM_lines 256 = .ok (.getfield 74, 3) := by decide +kernel
theorem dqM_lines_259 : decode cqM_lines 259 = .ok (.iload_n 2, 1) := by decide +kernel
theorem dqM_lines_260 : decode cqM_lines 260 = .ok (.iaload, 1) := by decide +kernel
theorem dqM_lines_261 : decode cqM_lines 261 = .ok (.goto 4, 3) := by decide +kernel
theorem dqM_lines_264 : decode cqM_lines 264 = .ok (.iload_n 2, 1) := by decide +kernel
theorem dqM_lines_265 : decode cqM_lines 265 = .ok (.istore_n 2, 1) := by decide +kernel
theorem dqM_lines_266 : decode cqM_lines 266 = .ok (.iinc 3 1, 3) := by decide +kernel
theorem dqM_lines_269 : decode cqM_lines 269 = .ok (.goto (-37), 3) := by decide +kernel
theorem dqM_lines_272 : decode cqM_lines 272 = .ok (.aload_n 0, 1) := by decide +kernel
theorem dqM_lines_273 : decode cqM_lines 273 = .ok (.getfield 182, 3) := by decide +kernel
theorem dqM_lines_276 : decode cqM_lines 276 = .ok (.ireturn, 1) := by decide +kernel
theorem dqM_begin_0 : decode cqM_begin 0 = .ok (.aload_n 0, 1) := by decide +kernel
theorem dqM_begin_1 : decode cqM_begin 1 = .ok (.getfield 81, 3) := by decide +kernel
theorem dqM_begin_4 : decode cqM_begin 4 = .ok (.ifCond .ne 8, 3) := by decide +kernel
theorem dqM_begin_7 : decode cqM_begin 7 = .ok (.bipush (-3), 2) := by decide +kernel
theorem dqM_begin_9 : decode cqM_begin 9 = .ok (.goto 25, 3) := by decide +kernel
theorem dqM_begin_12 : decode cqM_begin 12 = .ok (.iload_n 1, 1) := by decide +kernel
theorem dqM_begin_13 : decode cqM_begin 13 = .ok (.ifCond .lt 11, 3) := by decide +kernel
theorem dqM_begin_16 : decode cqM_begin 16 = .ok (.iload_n 1, 1) := by decide +kernel
theorem dqM_begin_17 : decode cqM_begin 17 = .ok (.aload_n 0, 1) := by decide +kernel
theorem dqM_begin_18 : decode cqM_begin 18 = .ok (.getfield 182, 3) := by decide +kernel
theorem dqM_begin_21 : decode cqM_begin 21 = .ok (.if_icmp .le 7, 3) := by decide +kernel
theorem dqM_begin_24 : decode cqM_begin 24 = .ok (.iconst (-1), 1) := by decide +kernel
theorem dqM_begin_25 : decode cqM_begin 25 = .ok (.goto 9, 3) := by decide +kernel
theorem dqM_begin_28 : decode cqM_begin 28 = .ok (.aload_n 0, 1) := by decide +kernel
theorem dqM_begin_29 : decode cqM_begin 29 = .ok (.getfield 59, 3) := by decide +kernel
theorem dqM_begin_32 : decode cqM_begin 32 = .ok (.iload_n 1, 1) := by decide +kernel
theorem dqM_begin_33 : decode cqM_begin 33 = .ok (.iaload, 1) := by decide +kernel
theorem dqM_begin_34 : decode cqM_begin 34 = .ok (.ireturn, 1) := by decide +kernel
theorem dqM_cost_0 : decode cqM_cost 0 = .ok (.aload_n 0, 1) := by decide +kernel
theorem dqM_cost_1 : decode cqM_cost 1 = .ok (.getfield 81, 3) := by decide +kernel
theorem dqM_cost_4 : decode cqM_cost 4 = .ok (.ifCond .eq 10, 3) := by decide +kernel
theorem dqM_cost_7 : decode cqM_cost 7 = .ok (.aload_n 0, 1) := by decide +kernel
theorem dqM_cost_8 : decode cqM_cost 8 = .ok (.getfield 185, 3) := by decide +kernel
theorem dqM_cost_11 : decode cqM_cost 11 = .ok (.goto 6, 3) := by decide +kernel
theorem dqM_cost_14 : decode cqM_cost 14 = .ok (.ldc2_w 160, 3) := by decide +kernel
theorem dqM_cost_17 : decode cqM_cost 17 = .ok (.lreturn, 1) := by decide +kernel
theorem dqBr_init_0 : decode cqBr_init 0 = .ok (.aload_n 0, 1) := by decide +kernel
theorem dqBr_init_1 : decode cqBr_init 1 = .ok (.invokespecial 3, 3) := by decide +kernel
theorem dqBr_init_4 : decode cqBr_init 4 = .ok (.aload_n 0, 1) := by decide +kernel
theorem dqBr_init_5 : decode cqBr_init 5 = .ok (.bipush 24, 2) := by decide +kernel
theorem dqBr_init_7 : decode cqBr_init 7 = .ok (.newarray .long, 2) := by decide +kernel
theorem dqBr_init_9 : decode cqBr_init 9 = .ok (.putfield 9, 3) := by decide +kernel
theorem dqBr_init_12 : decode cqBr_init 12 = .ok (.aload_n 0, 1) := by decide +kernel
theorem dqBr_init_13 : decode cqBr_init 13 = .ok (.bipush 24, 2) := by decide +kernel
theorem dqBr_init_15 : decode cqBr_init 15 = .ok (.newarray .int, 2) := by decide +kernel
theorem dqBr_init_17 : decode cqBr_init 17 = .ok (.putfield 15, 3) := by decide +kernel
theorem dqBr_init_20 : decode cqBr_init 20 = .ok (.aload_n 0, 1) := by decide +kernel
theorem dqBr_init_21 : decode cqBr_init 21 = .ok (.bipush 24, 2) := by decide +kernel
theorem dqBr_init_23 : decode cqBr_init 23 = .ok (.newarray .int, 2) := by decide +kernel
theorem dqBr_init_25 : decode cqBr_init 25 = .ok (.putfield 19, 3) := by decide +kernel
theorem dqBr_init_28 : decode cqBr_init 28 = .ok (.aload_n 0, 1) := by decide +kernel
theorem dqBr_init_29 : decode cqBr_init 29 = .ok (.bipush 24, 2) := by decide +kernel
theorem dqBr_init_31 : decode cqBr_init 31 = .ok (.newarray .int, 2) := by decide +kernel
theorem dqBr_init_33 : decode cqBr_init 33 = .ok (.putfield 22, 3) := by decide +kernel
theorem dqBr_init_36 : decode cqBr_init 36 = .ok (.aload_n 0, 1) := by decide +kernel
theorem dqBr_init_37 : decode cqBr_init 37 = .ok (.iconst 0, 1) := by decide +kernel
theorem dqBr_init_38 : decode cqBr_init 38 = .ok (.putfield 25, 3) := by decide +kernel
theorem dqBr_init_41 : decode cqBr_init 41 = .ok (.return_, 1) := by decide +kernel
theorem dqBr_choose_0 : decode cqBr_choose 0 = .ok (.aload_n 1, 1) := by decide +kernel
theorem dqBr_choose_1 : decode cqBr_choose 1 = .ok (.invokevirtual 29, 3) := by decide +kernel
theorem dqBr_choose_4 : decode cqBr_choose 4 = .ok (.istore 5, 2) := by decide +kernel
theorem dqBr_choose_6 : decode cqBr_choose 6 = .ok (.aload_n 0, 1) := by decide +kernel
theorem dqBr_choose_7 : decode cqBr_choose 7 = .ok (.getfield 9, 3) := by decide +kernel
theorem dqBr_choose_10 : decode cqBr_choose 10 = .ok (.iload 5, 2) := by decide +kernel
theorem dqBr_choose_12 : decode cqBr_choose 12 = .ok (.lconst 0, 1) := by decide +kernel
theorem dqBr_choose_13 : decode cqBr_choose 13 = .ok (.lastore, 1) := by decide +kernel
theorem dqBr_choose_14 : decode cqBr_choose 14 = .ok (.aload_n 0, 1) := by decide +kernel
theorem dqBr_choose_15 : decode cqBr_choose 15 = .ok (.getfield 15, 3) := by decide +kernel
theorem dqBr_choose_18 : decode cqBr_choose 18 = .ok (.iload 5, 2) := by decide +kernel
theorem dqBr_choose_20 : decode cqBr_choose 20 = .ok (.iconst 0, 1) := by decide +kernel
theorem dqBr_choose_21 : decode cqBr_choose 21 = .ok (.iastore, 1) := by decide +kernel
theorem dqBr_choose_22 : decode cqBr_choose 22 = .ok (.iload 5, 2) := by decide +kernel
theorem dqBr_choose_24 : decode cqBr_choose 24 = .ok (.iconst 1, 1) := by decide +kernel
theorem dqBr_choose_25 : decode cqBr_choose 25 = .ok (.isub, 1) := by decide +kernel
theorem dqBr_choose_26 : decode cqBr_choose 26 = .ok (.istore 6, 2) := by decide +kernel
theorem dqBr_choose_28 : decode cqBr_choose 28 = .ok (.iload 6, 2) := by decide +kernel
theorem dqBr_choose_30 : decode cqBr_choose 30 = .ok (.ifCond .lt 29, 3) := by decide +kernel
theorem dqBr_choose_33 : decode cqBr_choose 33 = .ok (.aload_n 1, 1) := by decide +kernel
theorem dqBr_choose_34 : decode cqBr_choose 34 = .ok (.iload 6, 2) := by decide +kernel
theorem dqBr_choose_36 : decode cqBr_choose 36 = .ok (.invokevirtual 35, 3) := by decide +kernel
theorem dqBr_choose_39 : decode cqBr_choose 39 = .ok (.ifCond .eq 14, 3) := by decide +kernel
theorem dqBr_choose_42 : decode cqBr_choose 42 = .ok (.aload_n 0, 1) := by decide +kernel
theorem dqBr_choose_43 : decode cqBr_choose 43 = .ok (.iload 6, 2) := by decide +kernel
theorem dqBr_choose_45 : decode cqBr_choose 45 = .ok (.aload_n 1, 1) := by decide +kernel
theorem dqBr_choose_46 : decode cqBr_choose 46 = .ok (.aload_n 2, 1) := by decide +kernel
theorem dqBr_choose_47 : decode cqBr_choose 47 = .ok (.aload_n 3, 1) := by decide +kernel
theorem dqBr_choose_48 : decode cqBr_choose 48 = .ok (.iload 4, 2) := by decide +kernel
theorem dqBr_choose_50 : decode cqBr_choose 50 = .ok (.invokevirtual 39, 3) := by decide +kernel
theorem dqBr_choose_53 : decode cqBr_choose 53 = .ok (.iinc 6 (-1), 3) := by decide +kernel
theorem dqBr_choose_56 : decode cqBr_choose 56 = .ok (.goto (-28), 3) := by decide +kernel
theorem dqBr_choose_59 : decode cqBr_choose 59 = .ok (.aload_n 0, 1) := by decide +kernel
theorem dqBr_choose_60 : decode cqBr_choose 60 = .ok (.iload 5, 2) := by decide +kernel
theorem dqBr_choose_62 : decode cqBr_choose 62 = .ok (.invokevirtual 43, 3) := by decide +kernel
theorem dqBr_choose_65 : decode cqBr_choose 65 = .ok (.return_, 1) := by decide +kernel
theorem dqBr_chooseFrom_0 : decode cqBr_chooseFrom 0 = .ok (.aload_n 2, 1) := by decide +kernel
theorem dqBr_chooseFrom_1 : decode cqBr_chooseFrom 1 = .ok (.invokevirtual 29, 3) := by decide +kernel
theorem dqBr_chooseFrom_4 : decode cqBr_chooseFrom 4 = .ok (.istore 6, 2) := by decide +kernel
theorem dqBr_chooseFrom_6 : decode cqBr_chooseFrom 6 = .ok (.iload 6, 2) := by decide +kernel
theorem dqBr_chooseFrom_8 : decode cqBr_chooseFrom 8 = .ok (.istore 7, 2) := by decide +kernel
theorem dqBr_chooseFrom_10 : decode cqBr_chooseFrom 10 = .ok (.iload 7, 2) := by decide +kernel
theorem dqBr_chooseFrom_12 : decode cqBr_chooseFrom 12 = .ok (.iload_n 1, 1) := by decide +kernel
theorem dqBr_chooseFrom_13 : decode cqBr_chooseFrom 13 = .ok (.if_icmp .le 146, 3) := by decide +kernel
theorem dqBr_chooseFrom_16 : decode cqBr_chooseFrom 16 = .ok (.aload_n 2, 1) := by decide +kernel
theorem dqBr_chooseFrom_17 : decode cqBr_chooseFrom 17 = .ok (.iload 7, 2) := by decide +kernel
theorem dqBr_chooseFrom_19 : decode cqBr_chooseFrom 19 = .ok (.invokevirtual 35, 3) := by decide +kernel
theorem dqBr_chooseFrom_22 : decode cqBr_chooseFrom 22 = .ok (.ifCond .eq 131, 3) := by decide +kernel
theorem dqBr_chooseFrom_25 : decode cqBr_chooseFrom 25 = .ok (.aload 4, 2) := by decide +kernel
theorem dqBr_chooseFrom_27 : decode cqBr_chooseFrom 27 = .ok (.aload_n 2, 1) := by decide +kernel
theorem dqBr_chooseFrom_28 : decode cqBr_chooseFrom 28 = .ok (.aload_n 3, 1) := by decide +kernel
theorem dqBr_chooseFrom_29 : decode cqBr_chooseFrom 29 = .ok (.iload_n 1, 1) := by decide +kernel
theorem dqBr_chooseFrom_30 : decode cqBr_chooseFrom 30 = .ok (.iload 7, 2) := by decide +kernel
theorem dqBr_chooseFrom_32 : decode cqBr_chooseFrom 32 = .ok (.invokevirtual 47, 3) := by decide +kernel
theorem dqBr_chooseFrom_35 : decode cqBr_chooseFrom 35 = .ok (.aload 4, 2) := by decide +kernel
theorem dqBr_chooseFrom_37 : decode cqBr_chooseFrom 37 = .ok (.iload 5, 2) := by decide +kernel
theorem dqBr_chooseFrom_39 : decode cqBr_chooseFrom 39 = .ok (.iload 7, 2) := by decide +kernel
theorem dqBr_chooseFrom_41 : decode cqBr_chooseFrom 41 = .ok (.iload 6, 2) := by decide +kernel
theorem dqBr_chooseFrom_43 : decode cqBr_chooseFrom 43 = .ok (.if_icmp .ne 7, 3) := by decide +kernel
theorem dqBr_chooseFrom_46 : decode cqBr_chooseFrom 46 = .ok (.iconst 1, 1) := by decide +kernel
theorem dqBr_chooseFrom_47 : decode cqBr_chooseFrom 47 = .ok (.goto 4, 3) := by decide +kernel
theorem dqBr_chooseFrom_50 : decode cqBr_chooseFrom 50 = .ok (.iconst 0, 1) := by decide +kernel
theorem dqBr_chooseFrom_51 : decode cqBr_chooseFrom 51 = .ok (.invokestatic 53, 3) := by decide +kernel
theorem dqBr_chooseFrom_54 : decode cqBr_chooseFrom 54 = .ok (.aload_n 0, 1) := by decide +kernel
theorem dqBr_chooseFrom_55 : decode cqBr_chooseFrom 55 = .ok (.getfield 9, 3) := by decide +kernel
theorem dqBr_chooseFrom_58 : decode cqBr_chooseFrom 58 = .ok (.iload 7, 2) := by decide +kernel
theorem dqBr_chooseFrom_60 : decode cqBr_chooseFrom 60 = .ok (.laload, 1) := by decide +kernel
theorem dqBr_chooseFrom_61 : decode cqBr_chooseFrom 61 = .ok (.ladd, 1) := by decide +kernel
theorem dqBr_chooseFrom_62 : decode cqBr_chooseFrom 62 = .ok (.lstore 8, 2) := by decide +kernel
theorem dqBr_chooseFrom_64 : decode cqBr_chooseFrom 64 = .ok (.iconst 1, 1) := by decide +kernel
theorem dqBr_chooseFrom_65 : decode cqBr_chooseFrom 65 = .ok (.aload_n 0, 1) := by decide +kernel
theorem dqBr_chooseFrom_66 : decode cqBr_chooseFrom 66 = .ok (.getfield 15, 3) := by decide +kernel
theorem dqBr_chooseFrom_69 : decode cqBr_chooseFrom 69 = .ok (.iload 7, 2) := by decide +kernel
theorem dqBr_chooseFrom_71 : decode cqBr_chooseFrom 71 = .ok (.iaload, 1) := by decide +kernel
theorem dqBr_chooseFrom_72 : decode cqBr_chooseFrom 72 = .ok (.iadd, 1) := by decide +kernel
theorem dqBr_chooseFrom_73 : decode cqBr_chooseFrom 73 = .ok (.istore 10, 2) := by decide +kernel
theorem dqBr_chooseFrom_75 : decode cqBr_chooseFrom 75 = .ok (.lload 8, 2) := by decide +kernel
theorem dqBr_chooseFrom_77 : decode cqBr_chooseFrom 77 = .ok (.aload_n 0, 1) := by decide +kernel
theorem dqBr_chooseFrom_78 : decode cqBr_chooseFrom 78 = .ok (.getfield 9, 3) := by decide +kernel
theorem dqBr_chooseFrom_81 : decode cqBr_chooseFrom 81 = .ok (.iload_n 1, 1) := by decide +kernel
theorem dqBr_chooseFrom_82 : decode cqBr_chooseFrom 82 = .ok (.laload, 1) := by decide +kernel
theorem dqBr_chooseFrom_83 : decode cqBr_chooseFrom 83 = .ok (.lcmp, 1) := by decide +kernel
theorem dqBr_chooseFrom_84 : decode cqBr_chooseFrom 84 = .ok (.ifCond .lt 26, 3) := by decide +kernel
theorem dqBr_chooseFrom_87 : decode cqBr_chooseFrom 87 = .ok (.lload 8, 2) := by decide +kernel
theorem dqBr_chooseFrom_89 : decode cqBr_chooseFrom 89 = .ok (.aload_n 0, 1) := by decide +kernel
theorem dqBr_chooseFrom_90 : decode cqBr_chooseFrom 90 = .ok (.getfield 9, 3) := by decide +kernel
theorem dqBr_chooseFrom_93 : decode cqBr_chooseFrom 93 = .ok (.iload_n 1, 1) := by decide +kernel
theorem dqBr_chooseFrom_94 : decode cqBr_chooseFrom 94 = .ok (.laload, 1) := by decide +kernel
theorem dqBr_chooseFrom_95 : decode cqBr_chooseFrom 95 = .ok (.lcmp, 1) := by decide +kernel
theorem dqBr_chooseFrom_96 : decode cqBr_chooseFrom 96 = .ok (.ifCond .ne 18, 3) := by decide +kernel
theorem dqBr_chooseFrom_99 : decode cqBr_chooseFrom 99 = .ok (.iload 10, 2) := by decide +kernel
theorem dqBr_chooseFrom_101 : decode cqBr_chooseFrom 101 = .ok (.aload_n 0, 1) := by decide +kernel
theorem dqBr_chooseFrom_102 : decode cqBr_chooseFrom 102 = .ok (.getfield 15, 3) := by decide +kernel
theorem dqBr_chooseFrom_105 : decode cqBr_chooseFrom 105 = .ok (.iload_n 1, 1) := by decide +kernel
theorem dqBr_chooseFrom_106 : decode cqBr_chooseFrom 106 = .ok (.iaload, 1) := by decide +kernel
theorem dqBr_chooseFrom_107 : decode cqBr_chooseFrom 107 = .ok (.if_icmp .ge 7, 3) := by decide +kernel
theorem dqBr_chooseFrom_110 : decode cqBr_chooseFrom 110 = .ok (.iconst 1, 1) := by decide +kernel
theorem dqBr_chooseFrom_111 : decode cqBr_chooseFrom 111 = .ok (.goto 4, 3) := by decide +kernel
theorem dqBr_chooseFrom_114 : decode cqBr_chooseFrom 114 = .ok (.iconst 0, 1) := by decide +kernel
theorem dqBr_chooseFrom_115 : decode cqBr_chooseFrom 115 = .ok (.istore 11, 2) := by decide +kernel
theorem dqBr_chooseFrom_117 : decode cqBr_chooseFrom 117 = .ok (.iload 7, 2) := by decide +kernel
theorem dqBr_chooseFrom_119 : decode cqBr_chooseFrom 119 = .ok (.iload 6, 2) := by decide +kernel
theorem dqBr_chooseFrom_121 : decode cqBr_chooseFrom 121 = .ok (.if_icmp .eq 8, 3) := by decide +kernel
theorem dqBr_chooseFrom_124 : decode cqBr_chooseFrom 124 = .ok (.iload 11, 2) := by decide +kernel
theorem dqBr_chooseFrom_126 : decode cqBr_chooseFrom 126 = .ok (.ifCond .eq 27, 3) := by decide +kernel
theorem dqBr_chooseFrom_129 : decode cqBr_chooseFrom 129 = .ok (.aload_n 0, 1) := by decide +kernel
theorem dqBr_chooseFrom_130 : decode cqBr_chooseFrom 130 = .ok (.getfield 9, 3) := by decide +kernel
theorem dqBr_chooseFrom_133 : decode cqBr_chooseFrom 133 = .ok (.iload_n 1, 1) := by decide +kernel
theorem dqBr_chooseFrom_134 : decode cqBr_chooseFrom 134 = .ok (.lload 8, 2) := by decide +kernel
theorem dqBr_chooseFrom_136 : decode cqBr_chooseFrom 136 = .ok (.lastore, 1) := by decide +kernel
theorem dqBr_chooseFrom_137 : decode cqBr_chooseFrom 137 = .ok (.aload_n 0, 1) := by decide +kernel
theorem dqBr_chooseFrom_138 : decode cqBr_chooseFrom 138 = .ok (.getfield 15, 3) := by decide +kernel
theorem dqBr_chooseFrom_141 : decode cqBr_chooseFrom 141 = .ok (.iload_n 1, 1) := by decide +kernel
theorem dqBr_chooseFrom_142 : decode cqBr_chooseFrom 142 = .ok (.iload 10, 2) := by decide +kernel
theorem dqBr_chooseFrom_144 : decode cqBr_chooseFrom 144 = .ok (.iastore, 1) := by decide +kernel
theorem dqBr_chooseFrom_145 : decode cqBr_chooseFrom 145 = .ok (.aload_n 0, 1) := by decide +kernel
theorem dqBr_chooseFrom_146 : decode cqBr_chooseFrom 146 = .ok (.getfield 19, 3) := by decide +kernel
theorem dqBr_chooseFrom_149 : decode cqBr_chooseFrom 149 = .ok (.iload_n 1, 1) := by decide +kernel
theorem dqBr_chooseFrom_150 : decode cqBr_chooseFrom 150 = .ok (.iload 7, 2) := by decide +kernel
theorem dqBr_chooseFrom_152 : decode cqBr_chooseFrom 152 = .ok (.iastore, 1) := by decide +kernel
theorem dqBr_chooseFrom_153 : decode cqBr_chooseFrom 153 = .ok (.iinc 7 (-1), 3) := by decide +kernel
theorem dqBr_chooseFrom_156 : decode cqBr_chooseFrom 156 = .ok (.goto (-146), 3) := by decide +kernel
theorem dqBr_chooseFrom_159 : decode cqBr_chooseFrom 159 = .ok (.return_, 1) := by decide +kernel
theorem dqBr_costOf_0 : decode cqBr_costOf 0 = .ok (.iload_n 1, 1) := by decide +kernel
theorem dqBr_costOf_1 : decode cqBr_costOf 1 = .ok (.i2l, 1) := by decide +kernel
theorem dqBr_costOf_2 : decode cqBr_costOf 2 = .ok (.aload_n 0, 1) := by decide +kernel
theorem dqBr_costOf_3 : decode cqBr_costOf 3 = .ok (.invokevirtual 57, 3) := by decide +kernel
theorem dqBr_costOf_6 : decode cqBr_costOf 6 = .ok (.lsub, 1) := by decide +kernel
theorem dqBr_costOf_7 : decode cqBr_costOf 7 = .ok (.lstore_n 3, 1) := by decide +kernel
theorem dqBr_costOf_8 : decode cqBr_costOf 8 = .ok (.iload_n 2, 1) := by decide +kernel
theorem dqBr_costOf_9 : decode cqBr_costOf 9 = .ok (.ifCond .eq 11, 3) := by decide +kernel
theorem dqBr_costOf_12 : decode cqBr_costOf 12 = .ok (.lload_n 3, 1) := by decide +kernel
theorem dqBr_costOf_13 : decode cqBr_costOf 13 = .ok (.lconst 0, 1) := by decide +kernel
theorem dqBr_costOf_14 : decode cqBr_costOf 14 = .ok (.lcmp, 1) := by decide +kernel
theorem dqBr_costOf_15 : decode cqBr_costOf 15 = .ok (.ifCond .lt 5, 3) := by decide +kernel
theorem dqBr_costOf_18 : decode cqBr_costOf 18 = .ok (.lconst 0, 1) := by decide +kernel
theorem dqBr_costOf_19 : decode cqBr_costOf 19 = .ok (.lreturn, 1) := by decide +kernel
theorem dqBr_costOf_20 : decode cqBr_costOf 20 = .ok (.lload_n 3, 1) := by decide +kernel
theorem dqBr_costOf_21 : decode cqBr_costOf 21 = .ok (.lload_n 3, 1) := by decide +kernel
theorem dqBr_costOf_22 : decode cqBr_costOf 22 = .ok (.lmul, 1) := by decide +kernel
theorem dqBr_costOf_23 : decode cqBr_costOf 23 = .ok (.lstore 5, 2) := by decide +kernel
theorem dqBr_costOf_25 : decode cqBr_costOf 25 = .ok (.aload_n 0, 1) := by decide +kernel
theorem dqBr_costOf_26 : decode cqBr_costOf 26 = .ok (.invokevirtual 61, 3) := by decide +kernel
theorem dqBr_costOf_29 : decode cqBr_costOf 29 = .ok (.iload_n 1, 1) := by decide +kernel
theorem dqBr_costOf_30 : decode cqBr_costOf 30 = .ok (.i2l, 1) := by decide +kernel
theorem dqBr_costOf_31 : decode cqBr_costOf 31 = .ok (.lcmp, 1) := by decide +kernel
theorem dqBr_costOf_32 : decode cqBr_costOf 32 = .ok (.ifCond .le 12, 3) := by decide +kernel
theorem dqBr_costOf_35 : decode cqBr_costOf 35 = .ok (.lload 5, 2) := by decide +kernel
theorem dqBr_costOf_37 : decode cqBr_costOf 37 = .ok (.ldc2_w 64, 3) := by decide +kernel
theorem dqBr_costOf_40 : decode cqBr_costOf 40 = .ok (.ladd, 1) := by decide +kernel
theorem dqBr_costOf_41 : decode cqBr_costOf 41 = .ok (.goto 5, 3) := by decide +kernel
theorem dqBr_costOf_44 : decode cqBr_costOf 44 = .ok (.lload 5, 2) := by decide +kernel
theorem dqBr_costOf_46 : decode cqBr_costOf 46 = .ok (.lreturn, 1) := by decide +kernel
theorem dqBr_tellBegins_0 : decode cqBr_tellBegins 0 = .ok (.aload_n 0, 1) := by decide +kernel
theorem dqBr_tellBegins_1 : decode cqBr_tellBegins 1 = .ok (.aload_n 0, 1) := by decide +kernel
theorem dqBr_tellBegins_2 : decode cqBr_tellBegins 2 = .ok (.getfield 15, 3) := by decide +kernel
theorem dqBr_tellBegins_5 : decode cqBr_tellBegins 5 = .ok (.iconst 0, 1) := by decide +kernel
theorem dqBr_tellBegins_6 : decode cqBr_tellBegins 6 = .ok (.iaload, 1) := by decide +kernel
theorem dqBr_tellBegins_7 : decode cqBr_tellBegins 7 = .ok (.putfield 25, 3) := by decide +kernel
theorem dqBr_tellBegins_10 : decode cqBr_tellBegins 10 = .ok (.iconst 0, 1) := by decide +kernel
theorem dqBr_tellBegins_11 : decode cqBr_tellBegins 11 = .ok (.istore_n 2, 1) := by decide +kernel
theorem dqBr_tellBegins_12 : decode cqBr_tellBegins 12 = .ok (.iconst 0, 1) := by decide +kernel
theorem dqBr_tellBegins_13 : decode cqBr_tellBegins 13 = .ok (.istore_n 3, 1) := by decide +kernel
theorem dqBr_tellBegins_14 : decode cqBr_tellBegins 14 = .ok (.iload_n 3, 1) := by decide +kernel
theorem dqBr_tellBegins_15 : decode cqBr_tellBegins 15 = .ok (.aload_n 0, 1) := by decide +kernel
theorem dqBr_tellBegins_16 : decode cqBr_tellBegins 16 = .ok (.getfield 25, 3) := by decide +kernel
theorem dqBr_tellBegins_19 : decode cqBr_tellBegins 19 = .ok (.if_icmp .ge 28, 3) := by decide +kernel
theorem dqBr_tellBegins_22 : decode cqBr_tellBegins 22 = .ok (.iload_n 2, 1) := by decide +kernel
theorem dqBr_tellBegins_23 : decode cqBr_tellBegins 23 = .ok (.iload_n 1, 1) := by decide +kernel
theorem dqBr_tellBegins_24 : decode cqBr_tellBegins 24 = .ok (.if_icmp .ge 23, 3) := by decide +kernel
theorem dqBr_tellBegins_27 : decode cqBr_tellBegins 27 = .ok (.aload_n 0, 1) := by decide +kernel
theorem dqBr_tellBegins_28 : decode cqBr_tellBegins 28 = .ok (.getfield 22, 3) := by decide +kernel
theorem dqBr_tellBegins_31 : decode cqBr_tellBegins 31 = .ok (.iload_n 3, 1) := by decide +kernel
theorem dqBr_tellBegins_32 : decode cqBr_tellBegins 32 = .ok (.iload_n 2, 1) := by decide +kernel
theorem dqBr_tellBegins_33 : decode cqBr_tellBegins 33 = .ok (.iastore, 1) := by decide +kernel
theorem dqBr_tellBegins_34 : decode cqBr_tellBegins 34 = .ok (.aload_n 0, 1) := by decide +kernel
theorem dqBr_tellBegins_35 : decode cqBr_tellBegins 35 = .ok (.getfield 19, 3) := by decide +kernel
theorem dqBr_tellBegins_38 : decode cqBr_tellBegins 38 = .ok (.iload_n 2, 1) := by decide +kernel
theorem dqBr_tellBegins_39 : decode cqBr_tellBegins 39 = .ok (.iaload, 1) := by decide +kernel
theorem dqBr_tellBegins_40 : decode cqBr_tellBegins 40 = .ok (.istore_n 2, 1) := by decide +kernel
theorem dqBr_tellBegins_41 : decode cqBr_tellBegins 41 = .ok (.iinc 3 1, 3) := by decide +kernel
theorem dqBr_tellBegins_44 : decode cqBr_tellBegins 44 = .ok (.goto (-30), 3) := by decide +kernel
theorem dqBr_tellBegins_47 : decode cqBr_tellBegins 47 = .ok (.aload_n 0, 1) := by decide +kernel
theorem dqBr_tellBegins_48 : decode cqBr_tellBegins 48 = .ok (.getfield 22, 3) := by decide +kernel
theorem dqBr_tellBegins_51 : decode cqBr_tellBegins 51 = .ok (.aload_n 0, 1) := by decide +kernel
theorem dqBr_tellBegins_52 : decode cqBr_tellBegins 52 = .ok (.getfield 25, 3) := by decide +kernel
theorem dqBr_tellBegins_55 : decode cqBr_tellBegins 55 = .ok (.iload_n 1, 1) := by decide +kernel
theorem dqBr_tellBegins_56 : decode cqBr_tellBegins 56 = .ok (.iastore, 1) := by decide +kernel
theorem dqBr_tellBegins_57 : decode cqBr_tellBegins 57 = .ok (.return_, 1) := by decide +kernel
theorem dqBr_size_0 : decode cqBr_size 0 = .ok (.aload_n 0, 1) := by decide +kernel
theorem dqBr_size_1 : decode cqBr_size 1 = .ok (.getfield 25, 3) := by decide +kernel
theorem dqBr_size_4 : decode cqBr_size 4 = .ok (.ireturn, 1) := by decide +kernel
theorem dqBr_beginOf_0 : decode cqBr_beginOf 0 = .ok (.aload_n 0, 1) := by decide +kernel
theorem dqBr_beginOf_1 : decode cqBr_beginOf 1 = .ok (.getfield 22, 3) := by decide +kernel
theorem dqBr_beginOf_4 : decode cqBr_beginOf 4 = .ok (.iload_n 1, 1) := by decide +kernel
theorem dqBr_beginOf_5 : decode cqBr_beginOf 5 = .ok (.iaload, 1) := by decide +kernel
theorem dqBr_beginOf_6 : decode cqBr_beginOf 6 = .ok (.ireturn, 1) := by decide +kernel
theorem dqBr_wholeCost_0 : decode cqBr_wholeCost 0 = .ok (.aload_n 0, 1) := by decide +kernel
theorem dqBr_wholeCost_1 : decode cqBr_wholeCost 1 = .ok (.getfield 9, 3) := by decide +kernel
theorem dqBr_wholeCost_4 : decode cqBr_wholeCost 4 = .ok (.iconst 0, 1) := by decide +kernel
theorem dqBr_wholeCost_5 : decode cqBr_wholeCost 5 = .ok (.laload, 1) := by decide +kernel
theorem dqBr_wholeCost_6 : decode cqBr_wholeCost 6 = .ok (.lreturn, 1) := by decide +kernel
theorem dqCo_init_0 : decode cqCo_init 0 = .ok (.aload_n 0, 1) := by decide +kernel
theorem dqCo_init_1 : decode cqCo_init 1 = .ok (.invokespecial 3, 3) := by decide +kernel
theorem dqCo_init_4 : decode cqCo_init 4 = .ok (.aload_n 0, 1) := by decide +kernel
theorem dqCo_init_5 : decode cqCo_init 5 = .ok (.bipush 24, 2) := by decide +kernel
theorem dqCo_init_7 : decode cqCo_init 7 = .ok (.newarray .int, 2) := by decide +kernel
theorem dqCo_init_9 : decode cqCo_init 9 = .ok (.putfield 9, 3) := by decide +kernel
theorem dqCo_init_12 : decode cqCo_init 12 = .ok (.aload_n 0, 1) := by decide +kernel
theorem dqCo_init_13 : decode cqCo_init 13 = .ok (.bipush 24, 2) := by decide +kernel
theorem dqCo_init_15 : decode cqCo_init 15 = .ok (.newarray .int, 2) := by decide +kernel
theorem dqCo_init_17 : decode cqCo_init 17 = .ok (.putfield 15, 3) := by decide +kernel
theorem dqCo_init_20 : decode cqCo_init 20 = .ok (.aload_n 0, 1) := by decide +kernel
theorem dqCo_init_21 : decode cqCo_init 21 = .ok (.bipush 24, 2) := by decide +kernel
theorem dqCo_init_23 : decode cqCo_init 23 = .ok (.newarray .boolean, 2) := by decide +kernel
theorem dqCo_init_25 : decode cqCo_init 25 = .ok (.putfield 18, 3) := by decide +kernel
theorem dqCo_init_28 : decode cqCo_init 28 = .ok (.aload_n 0, 1) := by decide +kernel
theorem dqCo_init_29 : decode cqCo_init 29 = .ok (.iconst 0, 1) := by decide +kernel
theorem dqCo_init_30 : decode cqCo_init 30 = .ok (.putfield 22, 3) := by decide +kernel
theorem dqCo_init_33 : decode cqCo_init 33 = .ok (.aload_n 0, 1) := by decide +kernel
theorem dqCo_init_34 : decode cqCo_init 34 = .ok (.bipush 10, 2) := by decide +kernel
theorem dqCo_init_36 : decode cqCo_init 36 = .ok (.putfield 26, 3) := by decide +kernel
theorem dqCo_init_39 : decode cqCo_init 39 = .ok (.aload_n 0, 1) := by decide +kernel
theorem dqCo_init_40 : decode cqCo_init 40 = .ok (.bipush 6, 2) := by decide +kernel
theorem dqCo_init_42 : decode cqCo_init 42 = .ok (.putfield 29, 3) := by decide +kernel
theorem dqCo_init_45 : decode cqCo_init 45 = .ok (.return_, 1) := by decide +kernel
theorem dqCo_useTable_0 : decode cqCo_useTable 0 = .ok (.aload_n 0, 1) := by decide +kernel
theorem dqCo_useTable_1 : decode cqCo_useTable 1 = .ok (.iload_n 1, 1) := by decide +kernel
theorem dqCo_useTable_2 : decode cqCo_useTable 2 = .ok (.putfield 26, 3) := by decide +kernel
theorem dqCo_useTable_5 : decode cqCo_useTable 5 = .ok (.aload_n 0, 1) := by decide +kernel
theorem dqCo_useTable_6 : decode cqCo_useTable 6 = .ok (.iload_n 2, 1) := by decide +kernel
theorem dqCo_useTable_7 : decode cqCo_useTable 7 = .ok (.putfield 29, 3) := by decide +kernel
theorem dqCo_useTable_10 : decode cqCo_useTable 10 = .ok (.return_, 1) := by decide +kernel
theorem dqCo_size_0 : decode cqCo_size 0 = .ok (.aload_n 0, 1) := by decide +kernel
theorem dqCo_size_1 : decode cqCo_size 1 = .ok (.getfield 22, 3) := by decide +kernel
theorem dqCo_size_4 : decode cqCo_size 4 = .ok (.ireturn, 1) := by decide +kernel
theorem dqCo_lastOne_0 : decode cqCo_lastOne 0 = .ok (.aload_n 0, 1) := by decide +kernel
theorem dqCo_lastOne_1 : decode cqCo_lastOne 1 = .ok (.getfield 22, 3) := by decide +kernel
theorem dqCo_lastOne_4 : decode cqCo_lastOne 4 = .ok (.iconst 1, 1) := by decide +kernel
theorem dqCo_lastOne_5 : decode cqCo_lastOne 5 = .ok (.isub, 1) := by decide +kernel
theorem dqCo_lastOne_6 : decode cqCo_lastOne 6 = .ok (.ireturn, 1) := by decide +kernel
theorem dqCo_areFull_0 : decode cqCo_areFull 0 = .ok (.aload_n 0, 1) := by decide +kernel
theorem dqCo_areFull_1 : decode cqCo_areFull 1 = .ok (.getfield 22, 3) := by decide +kernel
theorem dqCo_areFull_4 : decode cqCo_areFull 4 = .ok (.bipush 24, 2) := by decide +kernel
theorem dqCo_areFull_6 : decode cqCo_areFull 6 = .ok (.if_icmp .lt 7, 3) := by decide +kernel
theorem dqCo_areFull_9 : decode cqCo_areFull 9 = .ok (.iconst 1, 1) := by decide +kernel
theorem dqCo_areFull_10 : decode cqCo_areFull 10 = .ok (.goto 4, 3) := by decide +kernel
theorem dqCo_areFull_13 : decode cqCo_areFull 13 = .ok (.iconst 0, 1) := by decide +kernel
theorem dqCo_areFull_14 : decode cqCo_areFull 14 = .ok (.ireturn, 1) := by decide +kernel
theorem dqCo_have_0 : decode cqCo_have 0 = .ok (.iload_n 1, 1) := by decide +kernel
theorem dqCo_have_1 : decode cqCo_have 1 = .ok (.iconst 0, 1) := by decide +kernel
theorem dqCo_have_2 : decode cqCo_have 2 = .ok (.aload_n 0, 1) := by decide +kernel
theorem dqCo_have_3 : decode cqCo_have 3 = .ok (.getfield 22, 3) := by decide +kernel
theorem dqCo_have_6 : decode cqCo_have 6 = .ok (.iconst 1, 1) := by decide +kernel
theorem dqCo_have_7 : decode cqCo_have 7 = .ok (.isub, 1) := by decide +kernel
theorem dqCo_have_8 : decode cqCo_have 8 = .ok (.invokestatic 32, 3) := by decide +kernel
theorem dqCo_have_11 : decode cqCo_have 11 = .ok (.ireturn, 1) := by decide +kernel
theorem dqCo_haveGap_0 : decode cqCo_haveGap 0 = .ok (.iload_n 1, 1) := by decide +kernel
theorem dqCo_haveGap_1 : decode cqCo_haveGap 1 = .ok (.iconst 0, 1) := by decide +kernel
theorem dqCo_haveGap_2 : decode cqCo_haveGap 2 = .ok (.aload_n 0, 1) := by decide +kernel
theorem dqCo_haveGap_3 : decode cqCo_haveGap 3 = .ok (.getfield 22, 3) := by decide +kernel
theorem dqCo_haveGap_6 : decode cqCo_haveGap 6 = .ok (.iconst 2, 1) := by decide +kernel
theorem dqCo_haveGap_7 : decode cqCo_haveGap 7 = .ok (.isub, 1) := by decide +kernel
theorem dqCo_haveGap_8 : decode cqCo_haveGap 8 = .ok (.invokestatic 32, 3) := by decide +kernel
theorem dqCo_haveGap_11 : decode cqCo_haveGap 11 = .ok (.ireturn, 1) := by decide +kernel
theorem dqCo_mayFollow_0 : decode cqCo_mayFollow 0 = .ok (.aload_n 0, 1) := by decide +kernel
theorem dqCo_mayFollow_1 : decode cqCo_mayFollow 1 = .ok (.getfield 22, 3) := by decide +kernel
theorem dqCo_mayFollow_4 : decode cqCo_mayFollow 4 = .ok (.ifCond .eq 18, 3) := by decide +kernel
theorem dqCo_mayFollow_7 : decode cqCo_mayFollow 7 = .ok (.iload_n 1, 1) := by decide +kernel
theorem dqCo_mayFollow_8 : decode cqCo_mayFollow 8 = .ok (.aload_n 0, 1) := by decide +kernel
theorem dqCo_mayFollow_9 : decode cqCo_mayFollow 9 = .ok (.getfield 9, 3) := by decide +kernel
theorem dqCo_mayFollow_12 : decode cqCo_mayFollow 12 = .ok (.aload_n 0, 1) := by decide +kernel
theorem dqCo_mayFollow_13 : decode cqCo_mayFollow 13 = .ok (.getfield 22, 3) := by decide +kernel
theorem dqCo_mayFollow_16 : decode cqCo_mayFollow 16 = .ok (.iconst 1, 1) := by decide +kernel
theorem dqCo_mayFollow_17 : decode cqCo_mayFollow 17 = .ok (.isub, 1) := by decide +kernel
theorem dqCo_mayFollow_18 : decode cqCo_mayFollow 18 = .ok (.iaload, 1) := by decide +kernel
theorem dqCo_mayFollow_19 : decode cqCo_mayFollow 19 = .ok (.if_icmp .le 7, 3) := by decide +kernel
theorem dqCo_mayFollow_22 : decode cqCo_mayFollow 22 = .ok (.iconst 1, 1) := by decide +kernel
theorem dqCo_mayFollow_23 : decode cqCo_mayFollow 23 = .ok (.goto 4, 3) := by decide +kernel
theorem dqCo_mayFollow_26 : decode cqCo_mayFollow 26 = .ok (.iconst 0, 1) := by decide +kernel
theorem dqCo_mayFollow_27 : decode cqCo_mayFollow 27 = .ok (.ireturn, 1) := by decide +kernel
theorem dqCo_append_0 : decode cqCo_append 0 = .ok (.aload_n 0, 1) := by decide +kernel
theorem dqCo_append_1 : decode cqCo_append 1 = .ok (.getfield 22, 3) := by decide +kernel
theorem dqCo_append_4 : decode cqCo_append 4 = .ok (.istore_n 2, 1) := by decide +kernel
theorem dqCo_append_5 : decode cqCo_append 5 = .ok (.aload_n 0, 1) := by decide +kernel
theorem dqCo_append_6 : decode cqCo_append 6 = .ok (.getfield 9, 3) := by decide +kernel
theorem dqCo_append_9 : decode cqCo_append 9 = .ok (.iload_n 2, 1) := by decide +kernel
theorem dqCo_append_10 : decode cqCo_append 10 = .ok (.iload_n 1, 1) := by decide +kernel
theorem dqCo_append_11 : decode cqCo_append 11 = .ok (.iastore, 1) := by decide +kernel
theorem dqCo_append_12 : decode cqCo_append 12 = .ok (.aload_n 0, 1) := by decide +kernel
theorem dqCo_append_13 : decode cqCo_append 13 = .ok (.getfield 15, 3) := by decide +kernel
theorem dqCo_append_16 : decode cqCo_append 16 = .ok (.iload_n 2, 1) := by decide +kernel
theorem dqCo_append_17 : decode cqCo_append 17 = .ok (.iconst 0, 1) := by decide +kernel
theorem dqCo_append_18 : decode cqCo_append 18 = .ok (.iastore, 1) := by decide +kernel
theorem dqCo_append_19 : decode cqCo_append 19 = .ok (.aload_n 0, 1) := by decide +kernel
theorem dqCo_append_20 : decode cqCo_append 20 = .ok (.getfield 18, 3) := by decide +kernel
theorem dqCo_append_23 : decode cqCo_append 23 = .ok (.iload_n 2, 1) := by decide +kernel
theorem dqCo_append_24 : decode cqCo_append 24 = .ok (.iconst 0, 1) := by decide +kernel
theorem dqCo_append_25 : decode cqCo_append 25 = .ok (.bastore, 1) := by decide +kernel
theorem dqCo_append_26 : decode cqCo_append 26 = .ok (.aload_n 0, 1) := by decide +kernel
theorem dqCo_append_27 : decode cqCo_append 27 = .ok (.dup, 1) := by decide +kernel
theorem dqCo_append_28 : decode cqCo_append 28 = .ok (.getfield 22, 3) := by decide +kernel
theorem dqCo_append_31 : decode cqCo_append 31 = .ok (.iconst 1, 1) := by decide +kernel
theorem dqCo_append_32 : decode cqCo_append 32 = .ok (.iadd, 1) := by decide +kernel
theorem dqCo_append_33 : decode cqCo_append 33 = .ok (.putfield 22, 3) := by decide +kernel
theorem dqCo_append_36 : decode cqCo_append 36 = .ok (.iload_n 2, 1) := by decide +kernel
theorem dqCo_append_37 : decode cqCo_append 37 = .ok (.ireturn, 1) := by decide +kernel
theorem dqCo_takeAll_0 : decode cqCo_takeAll 0 = .ok (.aload_n 0, 1) := by decide +kernel
theorem dqCo_takeAll_1 : decode cqCo_takeAll 1 = .ok (.getfield 22, 3) := by decide +kernel
theorem dqCo_takeAll_4 : decode cqCo_takeAll 4 = .ok (.istore_n 1, 1) := by decide +kernel
theorem dqCo_takeAll_5 : decode cqCo_takeAll 5 = .ok (.aload_n 0, 1) := by decide +kernel
theorem dqCo_takeAll_6 : decode cqCo_takeAll 6 = .ok (.iconst 0, 1) := by decide +kernel
theorem dqCo_takeAll_7 : decode cqCo_takeAll 7 = .ok (.putfield 22, 3) := by decide +kernel
theorem dqCo_takeAll_10 : decode cqCo_takeAll 10 = .ok (.iload_n 1, 1) := by decide +kernel
theorem dqCo_takeAll_11 : decode cqCo_takeAll 11 = .ok (.ireturn, 1) := by decide +kernel
theorem dqCo_setLeast_0 : decode cqCo_setLeast 0 = .ok (.aload_n 0, 1) := by decide +kernel
theorem dqCo_setLeast_1 : decode cqCo_setLeast 1 = .ok (.getfield 15, 3) := by decide +kernel
theorem dqCo_setLeast_4 : decode cqCo_setLeast 4 = .ok (.iload_n 1, 1) := by decide +kernel
theorem dqCo_setLeast_5 : decode cqCo_setLeast 5 = .ok (.iaload, 1) := by decide +kernel
theorem dqCo_setLeast_6 : decode cqCo_setLeast 6 = .ok (.istore_n 3, 1) := by decide +kernel
theorem dqCo_setLeast_7 : decode cqCo_setLeast 7 = .ok (.aload_n 0, 1) := by decide +kernel
theorem dqCo_setLeast_8 : decode cqCo_setLeast 8 = .ok (.getfield 15, 3) := by decide +kernel
theorem dqCo_setLeast_11 : decode cqCo_setLeast 11 = .ok (.iload_n 1, 1) := by decide +kernel
theorem dqCo_setLeast_12 : decode cqCo_setLeast 12 = .ok (.iload_n 2, 1) := by decide +kernel
theorem dqCo_setLeast_13 : decode cqCo_setLeast 13 = .ok (.iastore, 1) := by decide +kernel
theorem dqCo_setLeast_14 : decode cqCo_setLeast 14 = .ok (.iload_n 3, 1) := by decide +kernel
theorem dqCo_setLeast_15 : decode cqCo_setLeast 15 = .ok (.ireturn, 1) := by decide +kernel
theorem dqCo_setBar_0 : decode cqCo_setBar 0 = .ok (.aload_n 0, 1) := by decide +kernel
theorem dqCo_setBar_1 : decode cqCo_setBar 1 = .ok (.getfield 18, 3) := by decide +kernel
theorem dqCo_setBar_4 : decode cqCo_setBar 4 = .ok (.iload_n 1, 1) := by decide +kernel
theorem dqCo_setBar_5 : decode cqCo_setBar 5 = .ok (.baload, 1) := by decide +kernel
theorem dqCo_setBar_6 : decode cqCo_setBar 6 = .ok (.istore_n 3, 1) := by decide +kernel
theorem dqCo_setBar_7 : decode cqCo_setBar 7 = .ok (.aload_n 0, 1) := by decide +kernel
theorem dqCo_setBar_8 : decode cqCo_setBar 8 = .ok (.getfield 18, 3) := by decide +kernel
theorem dqCo_setBar_11 : decode cqCo_setBar 11 = .ok (.iload_n 1, 1) := by decide +kernel
theorem dqCo_setBar_12 : decode cqCo_setBar 12 = .ok (.iload_n 2, 1) := by decide +kernel
theorem dqCo_setBar_13 : decode cqCo_setBar 13 = .ok (.bastore, 1) := by decide +kernel
theorem dqCo_setBar_14 : decode cqCo_setBar 14 = .ok (.iload_n 3, 1) := by decide +kernel
theorem dqCo_setBar_15 : decode cqCo_setBar 15 = .ok (.ireturn, 1) := by decide +kernel
theorem dqCo_timeOf_0 : decode cqCo_timeOf 0 = .ok (.aload_n 0, 1) := by decide +kernel
theorem dqCo_timeOf_1 : decode cqCo_timeOf 1 = .ok (.getfield 9, 3) := by decide +kernel
theorem dqCo_timeOf_4 : decode cqCo_timeOf 4 = .ok (.iload_n 1, 1) := by decide +kernel
theorem dqCo_timeOf_5 : decode cqCo_timeOf 5 = .ok (.iaload, 1) := by decide +kernel
theorem dqCo_timeOf_6 : decode cqCo_timeOf 6 = .ok (.ireturn, 1) := by decide +kernel
theorem dqCo_toldLeastOf_0 : decode cqCo_toldLeastOf 0 = .ok (.aload_n 0, 1) := by decide +kernel
theorem dqCo_toldLeastOf_1 : decode cqCo_toldLeastOf 1 = .ok (.getfield 15, 3) := by decide +kernel
theorem dqCo_toldLeastOf_4 : decode cqCo_toldLeastOf 4 = .ok (.iload_n 1, 1) := by decide +kernel
theorem dqCo_toldLeastOf_5 : decode cqCo_toldLeastOf 5 = .ok (.iaload, 1) := by decide +kernel
theorem dqCo_toldLeastOf_6 : decode cqCo_toldLeastOf 6 = .ok (.ireturn, 1) := by decide +kernel
theorem dqCo_durationOf_0 : decode cqCo_durationOf 0 = .ok (.aload_n 0, 1) := by decide +kernel
theorem dqCo_durationOf_1 : decode cqCo_durationOf 1 = .ok (.getfield 9, 3) := by decide +kernel
theorem dqCo_durationOf_4 : decode cqCo_durationOf 4 = .ok (.iload_n 1, 1) := by decide +kernel
theorem dqCo_durationOf_5 : decode cqCo_durationOf 5 = .ok (.iconst 1, 1) := by decide +kernel
theorem dqCo_durationOf_6 : decode cqCo_durationOf 6 = .ok (.iadd, 1) := by decide +kernel
theorem dqCo_durationOf_7 : decode cqCo_durationOf 7 = .ok (.iaload, 1) := by decide +kernel
theorem dqCo_durationOf_8 : decode cqCo_durationOf 8 = .ok (.aload_n 0, 1) := by decide +kernel
theorem dqCo_durationOf_9 : decode cqCo_durationOf 9 = .ok (.getfield 9, 3) := by decide +kernel
theorem dqCo_durationOf_12 : decode cqCo_durationOf 12 = .ok (.iload_n 1, 1) := by decide +kernel
theorem dqCo_durationOf_13 : decode cqCo_durationOf 13 = .ok (.iaload, 1) := by decide +kernel
theorem dqCo_durationOf_14 : decode cqCo_durationOf 14 = .ok (.isub, 1) := by decide +kernel
theorem dqCo_durationOf_15 : decode cqCo_durationOf 15 = .ok (.ireturn, 1) := by decide +kernel
theorem dqCo_mayBreakAt_0 : decode cqCo_mayBreakAt 0 = .ok (.iload_n 1, 1) := by decide +kernel
theorem dqCo_mayBreakAt_1 : decode cqCo_mayBreakAt 1 = .ok (.ifCond .eq 22, 3) := by decide +kernel
theorem dqCo_mayBreakAt_4 : decode cqCo_mayBreakAt 4 = .ok (.iload_n 1, 1) := by decide +kernel
theorem dqCo_mayBreakAt_5 : decode cqCo_mayBreakAt 5 = .ok (.aload_n 0, 1) := by decide +kernel
theorem dqCo_mayBreakAt_6 : decode cqCo_mayBreakAt 6 = .ok (.getfield 22, 3) := by decide +kernel
theorem dqCo_mayBreakAt_9 : decode cqCo_mayBreakAt 9 = .ok (.iconst 1, 1) := by decide +kernel
theorem dqCo_mayBreakAt_10 : decode cqCo_mayBreakAt 10 = .ok (.isub, 1) := by decide +kernel
theorem dqCo_mayBreakAt_11 : decode cqCo_mayBreakAt 11 = .ok (.if_icmp .eq 12, 3) := by decide +kernel
theorem dqCo_mayBreakAt_14 : decode cqCo_mayBreakAt 14 = .ok (.aload_n 0, 1) := by decide +kernel
theorem dqCo_mayBreakAt_15 : decode cqCo_mayBreakAt 15 = .ok (.getfield 18, 3) := by decide +kernel
theorem dqCo_mayBreakAt_18 : decode cqCo_mayBreakAt 18 = .ok (.iload_n 1, 1) := by decide +kernel
theorem dqCo_mayBreakAt_19 : decode cqCo_mayBreakAt 19 = .ok (.baload, 1) := by decide +kernel
theorem dqCo_mayBreakAt_20 : decode cqCo_mayBreakAt 20 = .ok (.ifCond .eq 7, 3) := by decide +kernel
theorem dqCo_mayBreakAt_23 : decode cqCo_mayBreakAt 23 = .ok (.iconst 1, 1) := by decide +kernel
theorem dqCo_mayBreakAt_24 : decode cqCo_mayBreakAt 24 = .ok (.goto 4, 3) := by decide +kernel
theorem dqCo_mayBreakAt_27 : decode cqCo_mayBreakAt 27 = .ok (.iconst 0, 1) := by decide +kernel
theorem dqCo_mayBreakAt_28 : decode cqCo_mayBreakAt 28 = .ok (.ireturn, 1) := by decide +kernel
theorem dqCo_springFor_0 : decode cqCo_springFor 0 = .ok (.iconst 0, 1) := by decide +kernel
theorem dqCo_springFor_1 : decode cqCo_springFor 1 = .ok (.istore_n 2, 1) := by decide +kernel
theorem dqCo_springFor_2 : decode cqCo_springFor 2 = .ok (.iload_n 2, 1) := by decide +kernel
theorem dqCo_springFor_3 : decode cqCo_springFor 3 = .ok (.bipush 16, 2) := by decide +kernel
theorem dqCo_springFor_5 : decode cqCo_springFor 5 = .ok (.if_icmp .ge 16, 3) := by decide +kernel
theorem dqCo_springFor_8 : decode cqCo_springFor 8 = .ok (.iconst 2, 1) := by decide +kernel
theorem dqCo_springFor_9 : decode cqCo_springFor 9 = .ok (.iload_n 2, 1) := by decide +kernel
theorem dqCo_springFor_10 : decode cqCo_springFor 10 = .ok (.ishl, 1) := by decide +kernel
theorem dqCo_springFor_11 : decode cqCo_springFor 11 = .ok (.iload_n 1, 1) := by decide +kernel
theorem dqCo_springFor_12 : decode cqCo_springFor 12 = .ok (.if_icmp .gt 9, 3) := by decide +kernel
theorem dqCo_springFor_15 : decode cqCo_springFor 15 = .ok (.iinc 2 1, 3) := by decide +kernel
theorem dqCo_springFor_18 : decode cqCo_springFor 18 = .ok (.goto (-16), 3) := by decide +kernel
theorem dqCo_springFor_21 : decode cqCo_springFor 21 = .ok (.iload_n 1, 1) := by decide +kernel
theorem dqCo_springFor_22 : decode cqCo_springFor 22 = .ok (.iconst 1, 1) := by decide +kernel
theorem dqCo_springFor_23 : decode cqCo_springFor 23 = .ok (.iload_n 2, 1) := by decide +kernel
theorem dqCo_springFor_24 : decode cqCo_springFor 24 = .ok (.ishl, 1) := by decide +kernel
theorem dqCo_springFor_25 : decode cqCo_springFor 25 = .ok (.isub, 1) := by decide +kernel
theorem dqCo_springFor_26 : decode cqCo_springFor 26 = .ok (.i2l, 1) := by decide +kernel
theorem dqCo_springFor_27 : decode cqCo_springFor 27 = .ok (.lstore_n 3, 1) := by decide +kernel
theorem dqCo_springFor_28 : decode cqCo_springFor 28 = .ok (.ldc2_w 36, 3) := by decide +kernel
theorem dqCo_springFor_31 : decode cqCo_springFor 31 = .ok (.aload_n 0, 1) := by decide +kernel
theorem dqCo_springFor_32 : decode cqCo_springFor 32 = .ok (.getfield 26, 3) := by decide +kernel
theorem dqCo_springFor_35 : decode cqCo_springFor 35 = .ok (.aload_n 0, 1) := by decide +kernel
theorem dqCo_springFor_36 : decode cqCo_springFor 36 = .ok (.getfield 29, 3) := by decide +kernel
theorem dqCo_springFor_39 : decode cqCo_springFor 39 = .ok (.iload_n 2, 1) := by decide +kernel
theorem dqCo_springFor_40 : decode cqCo_springFor 40 = .ok (.imul, 1) := by decide +kernel
theorem dqCo_springFor_41 : decode cqCo_springFor 41 = .ok (.iadd, 1) := by decide +kernel
theorem dqCo_springFor_42 : decode cqCo_springFor 42 = .ok (.i2l, 1) := by decide +kernel
theorem dqCo_springFor_43 : decode cqCo_springFor 43 = .ok (.lmul, 1) := by decide +kernel
theorem dqCo_springFor_44 : decode cqCo_springFor 44 = .ok (.lstore 5, 2) := by decide +kernel
theorem dqCo_springFor_46 : decode cqCo_springFor 46 = .ok (.lload 5, 2) := by decide +kernel
theorem dqCo_springFor_48 : decode cqCo_springFor 48 = .ok (.aload_n 0, 1) := by decide +kernel
theorem dqCo_springFor_49 : decode cqCo_springFor 49 = .ok (.getfield 29, 3) := by decide +kernel
theorem dqCo_springFor_52 : decode cqCo_springFor 52 = .ok (.i2l, 1) := by decide +kernel
theorem dqCo_springFor_53 : decode cqCo_springFor 53 = .ok (.lload_n 3, 1) := by decide +kernel
theorem dqCo_springFor_54 : decode cqCo_springFor 54 = .ok (.lmul, 1) := by decide +kernel
theorem dqCo_springFor_55 : decode cqCo_springFor 55 = .ok (.ldc2_w 36, 3) := by decide +kernel
theorem dqCo_springFor_58 : decode cqCo_springFor 58 = .ok (.iload_n 2, 1) := by decide +kernel
theorem dqCo_springFor_59 : decode cqCo_springFor 59 = .ok (.lshr, 1) := by decide +kernel
theorem dqCo_springFor_60 : decode cqCo_springFor 60 = .ok (.lmul, 1) := by decide +kernel
theorem dqCo_springFor_61 : decode cqCo_springFor 61 = .ok (.ladd, 1) := by decide +kernel
theorem dqCo_springFor_62 : decode cqCo_springFor 62 = .ok (.lreturn, 1) := by decide +kernel
theorem dqFo_init_0 : decode cqFo_init 0 = .ok (.aload_n 0, 1) := by decide +kernel
theorem dqFo_init_1 : decode cqFo_init 1 = .ok (.invokespecial 1, 3) := by decide +kernel
theorem dqFo_init_4 : decode cqFo_init 4 = .ok (.aload_n 0, 1) := by decide +kernel
theorem dqFo_init_5 : decode cqFo_init 5 = .ok (.lconst 0, 1) := by decide +kernel
theorem dqFo_init_6 : decode cqFo_init 6 = .ok (.putfield 7, 3) := by decide +kernel
theorem dqFo_init_9 : decode cqFo_init 9 = .ok (.aload_n 0, 1) := by decide +kernel
theorem dqFo_init_10 : decode cqFo_init 10 = .ok (.lconst 1, 1) := by decide +kernel
theorem dqFo_init_11 : decode cqFo_init 11 = .ok (.putfield 13, 3) := by decide +kernel
theorem dqFo_init_14 : decode cqFo_init 14 = .ok (.return_, 1) := by decide +kernel
theorem dqFo_above_0 : decode cqFo_above 0 = .ok (.aload_n 0, 1) := by decide +kernel
theorem dqFo_above_1 : decode cqFo_above 1 = .ok (.getfield 7, 3) := by decide +kernel
theorem dqFo_above_4 : decode cqFo_above 4 = .ok (.lreturn, 1) := by decide +kernel
theorem dqFo_below_0 : decode cqFo_below 0 = .ok (.aload_n 0, 1) := by decide +kernel
theorem dqFo_below_1 : decode cqFo_below 1 = .ok (.getfield 13, 3) := by decide +kernel
theorem dqFo_below_4 : decode cqFo_below 4 = .ok (.lreturn, 1) := by decide +kernel
end
section
theorem dqFo_find_0 : decode cqFo_find 0 = .ok (.aload_n 0, 1) := by decide +kernel
theorem dqFo_find_1 : decode cqFo_find 1 = .ok (.lconst 0, 1) := by decide +kernel
theorem dqFo_find_2 : decode cqFo_find 2 = .ok (.putfield 7, 3) := by decide +kernel
theorem dqFo_find_5 : decode cqFo_find 5 = .ok (.aload_n 0, 1) := by decide +kernel
theorem dqFo_find_6 : decode cqFo_find 6 = .ok (.lconst 1, 1) := by decide +kernel
theorem dqFo_find_7 : decode cqFo_find 7 = .ok (.putfield 13, 3) := by decide +kernel
theorem dqFo_find_10 : decode cqFo_find 10 = .ok (.aload_n 1, 1) := by decide +kernel
theorem dqFo_find_11 : decode cqFo_find 11 = .ok (.iload_n 3, 1) := by decide +kernel
theorem dqFo_find_12 : decode cqFo_find 12 = .ok (.iload 4, 2) := by decide +kernel
theorem dqFo_find_14 : decode cqFo_find 14 = .ok (.invokestatic 16, 3) := by decide +kernel
theorem dqFo_find_17 : decode cqFo_find 17 = .ok (.lload 5, 2) := by decide +kernel
theorem dqFo_find_19 : decode cqFo_find 19 = .ok (.lcmp, 1) := by decide +kernel
theorem dqFo_find_20 : decode cqFo_find 20 = .ok (.ifCond .lt 5, 3) := by decide +kernel
theorem dqFo_find_23 : decode cqFo_find 23 = .ok (.iconst 1, 1) := by decide +kernel
theorem dqFo_find_24 : decode cqFo_find 24 = .ok (.ireturn, 1) := by decide +kernel
theorem dqFo_find_25 : decode cqFo_find 25 = .ok (.aload_n 2, 1) := by decide +kernel
theorem dqFo_find_26 : decode cqFo_find 26 = .ok (.iload_n 3, 1) := by decide +kernel
theorem dqFo_find_27 : decode cqFo_find 27 = .ok (.iload 4, 2) := by decide +kernel
theorem dqFo_find_29 : decode cqFo_find 29 = .ok (.invokestatic 16, 3) := by decide +kernel
theorem dqFo_find_32 : decode cqFo_find 32 = .ok (.lconst 0, 1) := by decide +kernel
theorem dqFo_find_33 : decode cqFo_find 33 = .ok (.lcmp, 1) := by decide +kernel
theorem dqFo_find_34 : decode cqFo_find 34 = .ok (.ifCond .gt 5, 3) := by decide +kernel
theorem dqFo_find_37 : decode cqFo_find 37 = .ok (.iconst 0, 1) := by decide +kernel
theorem dqFo_find_38 : decode cqFo_find 38 = .ok (.ireturn, 1) := by decide +kernel
theorem dqFo_find_39 : decode cqFo_find 39 = .ok (.aload_n 0, 1) := by decide +kernel
theorem dqFo_find_40 : decode cqFo_find 40 = .ok (.lconst 1, 1) := by decide +kernel
theorem dqFo_find_41 : decode cqFo_find 41 = .ok (.putfield 7, 3) := by decide +kernel
theorem dqFo_find_44 : decode cqFo_find 44 = .ok (.aload_n 0, 1) := by decide +kernel
theorem dqFo_find_45 : decode cqFo_find 45 = .ok (.lconst 0, 1) := by decide +kernel
theorem dqFo_find_46 : decode cqFo_find 46 = .ok (.putfield 13, 3) := by decide +kernel
theorem dqFo_find_49 : decode cqFo_find 49 = .ok (.iconst 1, 1) := by decide +kernel
theorem dqFo_find_50 : decode cqFo_find 50 = .ok (.istore 7, 2) := by decide +kernel
theorem dqFo_find_52 : decode cqFo_find 52 = .ok (.iload_n 3, 1) := by decide +kernel
theorem dqFo_find_53 : decode cqFo_find 53 = .ok (.istore 8, 2) := by decide +kernel
theorem dqFo_find_55 : decode cqFo_find 55 = .ok (.iload 8, 2) := by decide +kernel
theorem dqFo_find_57 : decode cqFo_find 57 = .ok (.iload 4, 2) := by decide +kernel
theorem dqFo_find_59 : decode cqFo_find 59 = .ok (.if_icmp .ge 48, 3) := by decide +kernel
theorem dqFo_find_62 : decode cqFo_find 62 = .ok (.iload 7, 2) := by decide +kernel
theorem dqFo_find_64 : decode cqFo_find 64 = .ok (.ifCond .eq 43, 3) := by decide +kernel
theorem dqFo_find_67 : decode cqFo_find 67 = .ok (.aload_n 0, 1) := by decide +kernel
theorem dqFo_find_68 : decode cqFo_find 68 = .ok (.getfield 13, 3) := by decide +kernel
theorem dqFo_find_71 : decode cqFo_find 71 = .ok (.lstore 9, 2) := by decide +kernel
theorem dqFo_find_73 : decode cqFo_find 73 = .ok (.aload_n 0, 1) := by decide +kernel
theorem dqFo_find_74 : decode cqFo_find 74 = .ok (.aload_n 1, 1) := by decide +kernel
theorem dqFo_find_75 : decode cqFo_find 75 = .ok (.aload_n 2, 1) := by decide +kernel
theorem dqFo_find_76 : decode cqFo_find 76 = .ok (.iload_n 3, 1) := by decide +kernel
theorem dqFo_find_77 : decode cqFo_find 77 = .ok (.iload 4, 2) := by decide +kernel
theorem dqFo_find_79 : decode cqFo_find 79 = .ok (.lload 5, 2) := by decide +kernel
theorem dqFo_find_81 : decode cqFo_find 81 = .ok (.invokevirtual 22, 3) := by decide +kernel
theorem dqFo_find_84 : decode cqFo_find 84 = .ok (.aload_n 0, 1) := by decide +kernel
theorem dqFo_find_85 : decode cqFo_find 85 = .ok (.getfield 13, 3) := by decide +kernel
theorem dqFo_find_88 : decode cqFo_find 88 = .ok (.lload 9, 2) := by decide +kernel
theorem dqFo_find_90 : decode cqFo_find 90 = .ok (.lcmp, 1) := by decide +kernel
theorem dqFo_find_91 : decode cqFo_find 91 = .ok (.ifCond .eq 7, 3) := by decide +kernel
theorem dqFo_find_94 : decode cqFo_find 94 = .ok (.iconst 1, 1) := by decide +kernel
theorem dqFo_find_95 : decode cqFo_find 95 = .ok (.goto 4, 3) := by decide +kernel
theorem dqFo_find_98 : decode cqFo_find 98 = .ok (.iconst 0, 1) := by decide +kernel
theorem dqFo_find_99 : decode cqFo_find 99 = .ok (.istore 7, 2) := by decide +kernel
theorem dqFo_find_101 : decode cqFo_find 101 = .ok (.iinc 8 1, 3) := by decide +kernel
theorem dqFo_find_104 : decode cqFo_find 104 = .ok (.goto (-49), 3) := by decide +kernel
theorem dqFo_find_107 : decode cqFo_find 107 = .ok (.iconst 1, 1) := by decide +kernel
theorem dqFo_find_108 : decode cqFo_find 108 = .ok (.ireturn, 1) := by decide +kernel
theorem dqFo_fit_0 : decode cqFo_fit 0 = .ok (.lload 5, 2) := by decide +kernel
theorem dqFo_fit_2 : decode cqFo_fit 2 = .ok (.lstore 7, 2) := by decide +kernel
theorem dqFo_fit_4 : decode cqFo_fit 4 = .ok (.lconst 0, 1) := by decide +kernel
theorem dqFo_fit_5 : decode cqFo_fit 5 = .ok (.lstore 9, 2) := by decide +kernel
theorem dqFo_fit_7 : decode cqFo_fit 7 = .ok (.iload_n 3, 1) := by decide +kernel
theorem dqFo_fit_8 : decode cqFo_fit 8 = .ok (.istore 11, 2) := by decide +kernel
theorem dqFo_fit_10 : decode cqFo_fit 10 = .ok (.iload 11, 2) := by decide +kernel
theorem dqFo_fit_12 : decode cqFo_fit 12 = .ok (.iload 4, 2) := by decide +kernel
theorem dqFo_fit_14 : decode cqFo_fit 14 = .ok (.if_icmp .ge 61, 3) := by decide +kernel
theorem dqFo_fit_17 : decode cqFo_fit 17 = .ok (.aload_n 2, 1) := by decide +kernel
theorem dqFo_fit_18 : decode cqFo_fit 18 = .ok (.iload 11, 2) := by decide +kernel
theorem dqFo_fit_20 : decode cqFo_fit 20 = .ok (.laload, 1) := by decide +kernel
theorem dqFo_fit_21 : decode cqFo_fit 21 = .ok (.lconst 0, 1) := by decide +kernel
theorem dqFo_fit_22 : decode cqFo_fit 22 = .ok (.lcmp, 1) := by decide +kernel
theorem dqFo_fit_23 : decode cqFo_fit 23 = .ok (.ifCond .le 37, 3) := by decide +kernel
theorem dqFo_fit_26 : decode cqFo_fit 26 = .ok (.aload_n 1, 1) := by decide +kernel
theorem dqFo_fit_27 : decode cqFo_fit 27 = .ok (.iload 11, 2) := by decide +kernel
theorem dqFo_fit_29 : decode cqFo_fit 29 = .ok (.laload, 1) := by decide +kernel
theorem dqFo_fit_30 : decode cqFo_fit 30 = .ok (.aload_n 0, 1) := by decide +kernel
theorem dqFo_fit_31 : decode cqFo_fit 31 = .ok (.getfield 13, 3) := by decide +kernel
theorem dqFo_fit_34 : decode cqFo_fit 34 = .ok (.lmul, 1) := by decide +kernel
theorem dqFo_fit_35 : decode cqFo_fit 35 = .ok (.aload_n 0, 1) := by decide +kernel
theorem dqFo_fit_36 : decode cqFo_fit 36 = .ok (.getfield 7, 3) := by decide +kernel
theorem dqFo_fit_39 : decode cqFo_fit 39 = .ok (.aload_n 2, 1) := by decide +kernel
theorem dqFo_fit_40 : decode cqFo_fit 40 = .ok (.iload 11, 2) := by decide +kernel
theorem dqFo_fit_42 : decode cqFo_fit 42 = .ok (.laload, 1) := by decide +kernel
theorem dqFo_fit_43 : decode cqFo_fit 43 = .ok (.lmul, 1) := by decide +kernel
theorem dqFo_fit_44 : decode cqFo_fit 44 = .ok (.lcmp, 1) := by decide +kernel
theorem dqFo_fit_45 : decode cqFo_fit 45 = .ok (.ifCond .gt 15, 3) := by decide +kernel
theorem dqFo_fit_48 : decode cqFo_fit 48 = .ok (.lload 9, 2) := by decide +kernel
theorem dqFo_fit_50 : decode cqFo_fit 50 = .ok (.aload_n 2, 1) := by decide +kernel
theorem dqFo_fit_51 : decode cqFo_fit 51 = .ok (.iload 11, 2) := by decide +kernel
theorem dqFo_fit_53 : decode cqFo_fit 53 = .ok (.laload, 1) := by decide +kernel
theorem dqFo_fit_54 : decode cqFo_fit 54 = .ok (.ladd, 1) := by decide +kernel
theorem dqFo_fit_55 : decode cqFo_fit 55 = .ok (.lstore 9, 2) := by decide +kernel
theorem dqFo_fit_57 : decode cqFo_fit 57 = .ok (.goto 12, 3) := by decide +kernel
theorem dqFo_fit_60 : decode cqFo_fit 60 = .ok (.lload 7, 2) := by decide +kernel
theorem dqFo_fit_62 : decode cqFo_fit 62 = .ok (.aload_n 1, 1) := by decide +kernel
theorem dqFo_fit_63 : decode cqFo_fit 63 = .ok (.iload 11, 2) := by decide +kernel
theorem dqFo_fit_65 : decode cqFo_fit 65 = .ok (.laload, 1) := by decide +kernel
theorem dqFo_fit_66 : decode cqFo_fit 66 = .ok (.lsub, 1) := by decide +kernel
theorem dqFo_fit_67 : decode cqFo_fit 67 = .ok (.lstore 7, 2) := by decide +kernel
theorem dqFo_fit_69 : decode cqFo_fit 69 = .ok (.iinc 11 1, 3) := by decide +kernel
theorem dqFo_fit_72 : decode cqFo_fit 72 = .ok (.goto (-62), 3) := by decide +kernel
theorem dqFo_fit_75 : decode cqFo_fit 75 = .ok (.aload_n 0, 1) := by decide +kernel
theorem dqFo_fit_76 : decode cqFo_fit 76 = .ok (.lload 7, 2) := by decide +kernel
theorem dqFo_fit_78 : decode cqFo_fit 78 = .ok (.putfield 7, 3) := by decide +kernel
theorem dqFo_fit_81 : decode cqFo_fit 81 = .ok (.aload_n 0, 1) := by decide +kernel
theorem dqFo_fit_82 : decode cqFo_fit 82 = .ok (.lload 9, 2) := by decide +kernel
theorem dqFo_fit_84 : decode cqFo_fit 84 = .ok (.putfield 13, 3) := by decide +kernel
theorem dqFo_fit_87 : decode cqFo_fit 87 = .ok (.return_, 1) := by decide +kernel
theorem dqFo_bringToLowestTerms_0 : decode cqFo_bringToLowestTerms 0 = .ok (.aload_n 0, 1) := by decide +kernel
theorem dqFo_bringToLowestTerms_1 : decode cqFo_bringToLowestTerms 1 = .ok (.getfield 7, 3) := by decide +kernel
theorem dqFo_bringToLowestTerms_4 : decode cqFo_bringToLowestTerms 4 = .ok (.aload_n 0, 1) := by decide +kernel
theorem dqFo_bringToLowestTerms_5 : decode cqFo_bringToLowestTerms 5 = .ok (.getfield 13, 3) := by decide +kernel
theorem dqFo_bringToLowestTerms_8 : decode cqFo_bringToLowestTerms 8 = .ok (.invokestatic 26, 3) := by decide +kernel
theorem dqFo_bringToLowestTerms_11 : decode cqFo_bringToLowestTerms 11 = .ok (.lstore_n 1, 1) := by decide +kernel
theorem dqFo_bringToLowestTerms_12 : decode cqFo_bringToLowestTerms 12 = .ok (.aload_n 0, 1) := by decide +kernel
theorem dqFo_bringToLowestTerms_13 : decode cqFo_bringToLowestTerms 13 = .ok (.dup, 1) := by decide +kernel
theorem dqFo_bringToLowestTerms_14 : decode cqFo_bringToLowestTerms 14 = .ok (.getfield 7, 3) := by decide +kernel
theorem dqFo_bringToLowestTerms_17 : decode cqFo_bringToLowestTerms 17 = .ok (.lload_n 1, 1) := by decide +kernel
theorem dqFo_bringToLowestTerms_18 : decode cqFo_bringToLowestTerms 18 = .ok (.ldiv, 1) := by decide +kernel
theorem dqFo_bringToLowestTerms_19 : decode cqFo_bringToLowestTerms 19 = .ok (.putfield 7, 3) := by decide +kernel
theorem dqFo_bringToLowestTerms_22 : decode cqFo_bringToLowestTerms 22 = .ok (.aload_n 0, 1) := by decide +kernel
theorem dqFo_bringToLowestTerms_23 : decode cqFo_bringToLowestTerms 23 = .ok (.dup, 1) := by decide +kernel
theorem dqFo_bringToLowestTerms_24 : decode cqFo_bringToLowestTerms 24 = .ok (.getfield 13, 3) := by decide +kernel
theorem dqFo_bringToLowestTerms_27 : decode cqFo_bringToLowestTerms 27 = .ok (.lload_n 1, 1) := by decide +kernel
theorem dqFo_bringToLowestTerms_28 : decode cqFo_bringToLowestTerms 28 = .ok (.ldiv, 1) := by decide +kernel
theorem dqFo_bringToLowestTerms_29 : decode cqFo_bringToLowestTerms 29 = .ok (.putfield 13, 3) := by decide +kernel
theorem dqFo_bringToLowestTerms_32 : decode cqFo_bringToLowestTerms 32 = .ok (.return_, 1) := by decide +kernel
theorem dqIt_init_0 : decode cqIt_init 0 = .ok (.aload_n 0, 1) := by decide +kernel
theorem dqIt_init_1 : decode cqIt_init 1 = .ok (.invokespecial 3, 3) := by decide +kernel
theorem dqIt_init_4 : decode cqIt_init 4 = .ok (.aload_n 0, 1) := by decide +kernel
theorem dqIt_init_5 : decode cqIt_init 5 = .ok (.bipush 96, 2) := by decide +kernel
theorem dqIt_init_7 : decode cqIt_init 7 = .ok (.newarray .boolean, 2) := by decide +kernel
theorem dqIt_init_9 : decode cqIt_init 9 = .ok (.putfield 9, 3) := by decide +kernel
theorem dqIt_init_12 : decode cqIt_init 12 = .ok (.aload_n 0, 1) := by decide +kernel
theorem dqIt_init_13 : decode cqIt_init 13 = .ok (.bipush 96, 2) := by decide +kernel
theorem dqIt_init_15 : decode cqIt_init 15 = .ok (.newarray .int, 2) := by decide +kernel
theorem dqIt_init_17 : decode cqIt_init 17 = .ok (.putfield 15, 3) := by decide +kernel
theorem dqIt_init_20 : decode cqIt_init 20 = .ok (.aload_n 0, 1) := by decide +kernel
theorem dqIt_init_21 : decode cqIt_init 21 = .ok (.bipush 96, 2) := by decide +kernel
theorem dqIt_init_23 : decode cqIt_init 23 = .ok (.newarray .int, 2) := by decide +kernel
theorem dqIt_init_25 : decode cqIt_init 25 = .ok (.putfield 19, 3) := by decide +kernel
theorem dqIt_init_28 : decode cqIt_init 28 = .ok (.return_, 1) := by decide +kernel
theorem dqIt_seat_0 : decode cqIt_seat 0 = .ok (.iload_n 0, 1) := by decide +kernel
theorem dqIt_seat_1 : decode cqIt_seat 1 = .ok (.bipush 24, 2) := by decide +kernel
theorem dqIt_seat_3 : decode cqIt_seat 3 = .ok (.imul, 1) := by decide +kernel
theorem dqIt_seat_4 : decode cqIt_seat 4 = .ok (.iload_n 1, 1) := by decide +kernel
theorem dqIt_seat_5 : decode cqIt_seat 5 = .ok (.iadd, 1) := by decide +kernel
theorem dqIt_seat_6 : decode cqIt_seat 6 = .ok (.ireturn, 1) := by decide +kernel
theorem dqIt_have_0 : decode cqIt_have 0 = .ok (.aload_n 0, 1) := by decide +kernel
theorem dqIt_have_1 : decode cqIt_have 1 = .ok (.getfield 9, 3) := by decide +kernel
theorem dqIt_have_4 : decode cqIt_have 4 = .ok (.iload_n 1, 1) := by decide +kernel
theorem dqIt_have_5 : decode cqIt_have 5 = .ok (.iload_n 2, 1) := by decide +kernel
theorem dqIt_have_6 : decode cqIt_have 6 = .ok (.invokestatic 22, 3) := by decide +kernel
theorem dqIt_have_9 : decode cqIt_have 9 = .ok (.baload, 1) := by decide +kernel
theorem dqIt_have_10 : decode cqIt_have 10 = .ok (.ireturn, 1) := by decide +kernel
theorem dqIt_leftOf_0 : decode cqIt_leftOf 0 = .ok (.aload_n 0, 1) := by decide +kernel
theorem dqIt_leftOf_1 : decode cqIt_leftOf 1 = .ok (.getfield 15, 3) := by decide +kernel
theorem dqIt_leftOf_4 : decode cqIt_leftOf 4 = .ok (.iload_n 1, 1) := by decide +kernel
theorem dqIt_leftOf_5 : decode cqIt_leftOf 5 = .ok (.iload_n 2, 1) := by decide +kernel
theorem dqIt_leftOf_6 : decode cqIt_leftOf 6 = .ok (.invokestatic 22, 3) := by decide +kernel
theorem dqIt_leftOf_9 : decode cqIt_leftOf 9 = .ok (.iaload, 1) := by decide +kernel
theorem dqIt_leftOf_10 : decode cqIt_leftOf 10 = .ok (.ireturn, 1) := by decide +kernel
theorem dqIt_rightOf_0 : decode cqIt_rightOf 0 = .ok (.aload_n 0, 1) := by decide +kernel
theorem dqIt_rightOf_1 : decode cqIt_rightOf 1 = .ok (.getfield 19, 3) := by decide +kernel
theorem dqIt_rightOf_4 : decode cqIt_rightOf 4 = .ok (.iload_n 1, 1) := by decide +kernel
theorem dqIt_rightOf_5 : decode cqIt_rightOf 5 = .ok (.iload_n 2, 1) := by decide +kernel
theorem dqIt_rightOf_6 : decode cqIt_rightOf 6 = .ok (.invokestatic 22, 3) := by decide +kernel
theorem dqIt_rightOf_9 : decode cqIt_rightOf 9 = .ok (.iaload, 1) := by decide +kernel
theorem dqIt_rightOf_10 : decode cqIt_rightOf 10 = .ok (.ireturn, 1) := by decide +kernel
theorem dqIt_put_0 : decode cqIt_put 0 = .ok (.iload_n 1, 1) := by decide +kernel
theorem dqIt_put_1 : decode cqIt_put 1 = .ok (.iload_n 2, 1) := by decide +kernel
theorem dqIt_put_2 : decode cqIt_put 2 = .ok (.invokestatic 22, 3) := by decide +kernel
theorem dqIt_put_5 : decode cqIt_put 5 = .ok (.istore 5, 2) := by decide +kernel
theorem dqIt_put_7 : decode cqIt_put 7 = .ok (.aload_n 0, 1) := by decide +kernel
theorem dqIt_put_8 : decode cqIt_put 8 = .ok (.getfield 9, 3) := by decide +kernel
theorem dqIt_put_11 : decode cqIt_put 11 = .ok (.iload 5, 2) := by decide +kernel
theorem dqIt_put_13 : decode cqIt_put 13 = .ok (.baload, 1) := by decide +kernel
theorem dqIt_put_14 : decode cqIt_put 14 = .ok (.istore 6, 2) := by decide +kernel
theorem dqIt_put_16 : decode cqIt_put 16 = .ok (.aload_n 0, 1) := by decide +kernel
theorem dqIt_put_17 : decode cqIt_put 17 = .ok (.getfield 9, 3) := by decide +kernel
theorem dqIt_put_20 : decode cqIt_put 20 = .ok (.iload 5, 2) := by decide +kernel
theorem dqIt_put_22 : decode cqIt_put 22 = .ok (.iconst 1, 1) := by decide +kernel
theorem dqIt_put_23 : decode cqIt_put 23 = .ok (.bastore, 1) := by decide +kernel
theorem dqIt_put_24 : decode cqIt_put 24 = .ok (.aload_n 0, 1) := by decide +kernel
theorem dqIt_put_25 : decode cqIt_put 25 = .ok (.getfield 15, 3) := by decide +kernel
theorem dqIt_put_28 : decode cqIt_put 28 = .ok (.iload 5, 2) := by decide +kernel
theorem dqIt_put_30 : decode cqIt_put 30 = .ok (.iload_n 3, 1) := by decide +kernel
theorem dqIt_put_31 : decode cqIt_put 31 = .ok (.iastore, 1) := by decide +kernel
theorem dqIt_put_32 : decode cqIt_put 32 = .ok (.aload_n 0, 1) := by decide +kernel
theorem dqIt_put_33 : decode cqIt_put 33 = .ok (.getfield 19, 3) := by decide +kernel
theorem dqIt_put_36 : decode cqIt_put 36 = .ok (.iload 5, 2) := by decide +kernel
theorem dqIt_put_38 : decode cqIt_put 38 = .ok (.iload 4, 2) := by decide +kernel
theorem dqIt_put_40 : decode cqIt_put 40 = .ok (.iastore, 1) := by decide +kernel
theorem dqIt_put_41 : decode cqIt_put 41 = .ok (.iload 6, 2) := by decide +kernel
theorem dqIt_put_43 : decode cqIt_put 43 = .ok (.ireturn, 1) := by decide +kernel
theorem dqIt_take_0 : decode cqIt_take 0 = .ok (.aload_n 0, 1) := by decide +kernel
theorem dqIt_take_1 : decode cqIt_take 1 = .ok (.getfield 9, 3) := by decide +kernel
theorem dqIt_take_4 : decode cqIt_take 4 = .ok (.iload_n 1, 1) := by decide +kernel
theorem dqIt_take_5 : decode cqIt_take 5 = .ok (.iload_n 2, 1) := by decide +kernel
theorem dqIt_take_6 : decode cqIt_take 6 = .ok (.invokestatic 22, 3) := by decide +kernel
theorem dqIt_take_9 : decode cqIt_take 9 = .ok (.iconst 0, 1) := by decide +kernel
theorem dqIt_take_10 : decode cqIt_take 10 = .ok (.bastore, 1) := by decide +kernel
theorem dqIt_take_11 : decode cqIt_take 11 = .ok (.return_, 1) := by decide +kernel
theorem dqIt_takeAll_0 : decode cqIt_takeAll 0 = .ok (.iconst 0, 1) := by decide +kernel
theorem dqIt_takeAll_1 : decode cqIt_takeAll 1 = .ok (.istore_n 1, 1) := by decide +kernel
theorem dqIt_takeAll_2 : decode cqIt_takeAll 2 = .ok (.iload_n 1, 1) := by decide +kernel
theorem dqIt_takeAll_3 : decode cqIt_takeAll 3 = .ok (.aload_n 0, 1) := by decide +kernel
theorem dqIt_takeAll_4 : decode cqIt_takeAll 4 = .ok (.getfield 9, 3) := by decide +kernel
theorem dqIt_takeAll_7 : decode cqIt_takeAll 7 = .ok (.arraylength, 1) := by decide +kernel
theorem dqIt_takeAll_8 : decode cqIt_takeAll 8 = .ok (.if_icmp .ge 16, 3) := by decide +kernel
theorem dqIt_takeAll_11 : decode cqIt_takeAll 11 = .ok (.aload_n 0, 1) := by decide +kernel
theorem dqIt_takeAll_12 : decode cqIt_takeAll 12 = .ok (.getfield 9, 3) := by decide +kernel
theorem dqIt_takeAll_15 : decode cqIt_takeAll 15 = .ok (.iload_n 1, 1) := by decide +kernel
theorem dqIt_takeAll_16 : decode cqIt_takeAll 16 = .ok (.iconst 0, 1) := by decide +kernel
theorem dqIt_takeAll_17 : decode cqIt_takeAll 17 = .ok (.bastore, 1) := by decide +kernel
theorem dqIt_takeAll_18 : decode cqIt_takeAll 18 = .ok (.iinc 1 1, 3) := by decide +kernel
theorem dqIt_takeAll_21 : decode cqIt_takeAll 21 = .ok (.goto (-19), 3) := by decide +kernel
theorem dqIt_takeAll_24 : decode cqIt_takeAll 24 = .ok (.return_, 1) := by decide +kernel
theorem dqLi_init_0 : decode cqLi_init 0 = .ok (.aload_n 0, 1) := by decide +kernel
theorem dqLi_init_1 : decode cqLi_init 1 = .ok (.invokespecial 3, 3) := by decide +kernel
theorem dqLi_init_4 : decode cqLi_init 4 = .ok (.aload_n 0, 1) := by decide +kernel
theorem dqLi_init_5 : decode cqLi_init 5 = .ok (.bipush 24, 2) := by decide +kernel
theorem dqLi_init_7 : decode cqLi_init 7 = .ok (.newarray .long, 2) := by decide +kernel
theorem dqLi_init_9 : decode cqLi_init 9 = .ok (.putfield 9, 3) := by decide +kernel
theorem dqLi_init_12 : decode cqLi_init 12 = .ok (.aload_n 0, 1) := by decide +kernel
theorem dqLi_init_13 : decode cqLi_init 13 = .ok (.bipush 24, 2) := by decide +kernel
theorem dqLi_init_15 : decode cqLi_init 15 = .ok (.newarray .long, 2) := by decide +kernel
theorem dqLi_init_17 : decode cqLi_init 17 = .ok (.putfield 15, 3) := by decide +kernel
theorem dqLi_init_20 : decode cqLi_init 20 = .ok (.aload_n 0, 1) := by decide +kernel
theorem dqLi_init_21 : decode cqLi_init 21 = .ok (.new 18, 3) := by decide +kernel
theorem dqLi_init_24 : decode cqLi_init 24 = .ok (.dup, 1) := by decide +kernel
theorem dqLi_init_25 : decode cqLi_init 25 = .ok (.invokespecial 20, 3) := by decide +kernel
theorem dqLi_init_28 : decode cqLi_init 28 = .ok (.putfield 21, 3) := by decide +kernel
theorem dqLi_init_31 : decode cqLi_init 31 = .ok (.aload_n 0, 1) := by decide +kernel
theorem dqLi_init_32 : decode cqLi_init 32 = .ok (.iconst 0, 1) := by decide +kernel
theorem dqLi_init_33 : decode cqLi_init 33 = .ok (.putfield 25, 3) := by decide +kernel
theorem dqLi_init_36 : decode cqLi_init 36 = .ok (.aload_n 0, 1) := by decide +kernel
theorem dqLi_init_37 : decode cqLi_init 37 = .ok (.iconst 0, 1) := by decide +kernel
theorem dqLi_init_38 : decode cqLi_init 38 = .ok (.putfield 29, 3) := by decide +kernel
theorem dqLi_init_41 : decode cqLi_init 41 = .ok (.aload_n 0, 1) := by decide +kernel
theorem dqLi_init_42 : decode cqLi_init 42 = .ok (.lconst 0, 1) := by decide +kernel
theorem dqLi_init_43 : decode cqLi_init 43 = .ok (.putfield 32, 3) := by decide +kernel
theorem dqLi_init_46 : decode cqLi_init 46 = .ok (.return_, 1) := by decide +kernel
theorem dqLi_settle_0 : decode cqLi_settle 0 = .ok (.aload_n 0, 1) := by decide +kernel
theorem dqLi_settle_1 : decode cqLi_settle 1 = .ok (.iload_n 3, 1) := by decide +kernel
theorem dqLi_settle_2 : decode cqLi_settle 2 = .ok (.putfield 25, 3) := by decide +kernel
theorem dqLi_settle_5 : decode cqLi_settle 5 = .ok (.aload_n 0, 1) := by decide +kernel
theorem dqLi_settle_6 : decode cqLi_settle 6 = .ok (.iload 4, 2) := by decide +kernel
theorem dqLi_settle_8 : decode cqLi_settle 8 = .ok (.putfield 29, 3) := by decide +kernel
theorem dqLi_settle_11 : decode cqLi_settle 11 = .ok (.aload_n 0, 1) := by decide +kernel
theorem dqLi_settle_12 : decode cqLi_settle 12 = .ok (.getfield 25, 3) := by decide +kernel
theorem dqLi_settle_15 : decode cqLi_settle 15 = .ok (.istore 5, 2) := by decide +kernel
theorem dqLi_settle_17 : decode cqLi_settle 17 = .ok (.iload 5, 2) := by decide +kernel
theorem dqLi_settle_19 : decode cqLi_settle 19 = .ok (.aload_n 0, 1) := by decide +kernel
theorem dqLi_settle_20 : decode cqLi_settle 20 = .ok (.getfield 29, 3) := by decide +kernel
theorem dqLi_settle_23 : decode cqLi_settle 23 = .ok (.if_icmp .ge 40, 3) := by decide +kernel
theorem dqLi_settle_26 : decode cqLi_settle 26 = .ok (.aload_n 0, 1) := by decide +kernel
theorem dqLi_settle_27 : decode cqLi_settle 27 = .ok (.getfield 9, 3) := by decide +kernel
theorem dqLi_settle_30 : decode cqLi_settle 30 = .ok (.iload 5, 2) := by decide +kernel
theorem dqLi_settle_32 : decode cqLi_settle 32 = .ok (.aload_n 1, 1) := by decide +kernel
theorem dqLi_settle_33 : decode cqLi_settle 33 = .ok (.iload 5, 2) := by decide +kernel
theorem dqLi_settle_35 : decode cqLi_settle 35 = .ok (.invokevirtual 36, 3) := by decide +kernel
theorem dqLi_settle_38 : decode cqLi_settle 38 = .ok (.i2l, 1) := by decide +kernel
theorem dqLi_settle_39 : decode cqLi_settle 39 = .ok (.lastore, 1) := by decide +kernel
theorem dqLi_settle_40 : decode cqLi_settle 40 = .ok (.aload_n 0, 1) := by decide +kernel
theorem dqLi_settle_41 : decode cqLi_settle 41 = .ok (.getfield 15, 3) := by decide +kernel
theorem dqLi_settle_44 : decode cqLi_settle 44 = .ok (.iload 5, 2) := by decide +kernel
theorem dqLi_settle_46 : decode cqLi_settle 46 = .ok (.aload_n 1, 1) := by decide +kernel
theorem dqLi_settle_47 : decode cqLi_settle 47 = .ok (.aload_n 1, 1) := by decide +kernel
theorem dqLi_settle_48 : decode cqLi_settle 48 = .ok (.iload 5, 2) := by decide +kernel
theorem dqLi_settle_50 : decode cqLi_settle 50 = .ok (.invokevirtual 42, 3) := by decide +kernel
theorem dqLi_settle_53 : decode cqLi_settle 53 = .ok (.invokevirtual 45, 3) := by decide +kernel
theorem dqLi_settle_56 : decode cqLi_settle 56 = .ok (.lastore, 1) := by decide +kernel
theorem dqLi_settle_57 : decode cqLi_settle 57 = .ok (.iinc 5 1, 3) := by decide +kernel
theorem dqLi_settle_60 : decode cqLi_settle 60 = .ok (.goto (-43), 3) := by decide +kernel
theorem dqLi_settle_63 : decode cqLi_settle 63 = .ok (.iconst 0, 1) := by decide +kernel
theorem dqLi_settle_64 : decode cqLi_settle 64 = .ok (.istore 5, 2) := by decide +kernel
theorem dqLi_settle_66 : decode cqLi_settle 66 = .ok (.iload 5, 2) := by decide +kernel
theorem dqLi_settle_68 : decode cqLi_settle 68 = .ok (.aload_n 2, 1) := by decide +kernel
theorem dqLi_settle_69 : decode cqLi_settle 69 = .ok (.invokevirtual 49, 3) := by decide +kernel
theorem dqLi_settle_72 : decode cqLi_settle 72 = .ok (.if_icmp .ge 58, 3) := by decide +kernel
theorem dqLi_settle_75 : decode cqLi_settle 75 = .ok (.aload_n 2, 1) := by decide +kernel
theorem dqLi_settle_76 : decode cqLi_settle 76 = .ok (.iload 5, 2) := by decide +kernel
theorem dqLi_settle_78 : decode cqLi_settle 78 = .ok (.invokevirtual 55, 3) := by decide +kernel
theorem dqLi_settle_81 : decode cqLi_settle 81 = .ok (.aload_n 0, 1) := by decide +kernel
theorem dqLi_settle_82 : decode cqLi_settle 82 = .ok (.getfield 25, 3) := by decide +kernel
theorem dqLi_settle_85 : decode cqLi_settle 85 = .ok (.if_icmp .lt 39, 3) := by decide +kernel
theorem dqLi_settle_88 : decode cqLi_settle 88 = .ok (.aload_n 2, 1) := by decide +kernel
theorem dqLi_settle_89 : decode cqLi_settle 89 = .ok (.iload 5, 2) := by decide +kernel
theorem dqLi_settle_91 : decode cqLi_settle 91 = .ok (.invokevirtual 58, 3) := by decide +kernel
theorem dqLi_settle_94 : decode cqLi_settle 94 = .ok (.aload_n 0, 1) := by decide +kernel
theorem dqLi_settle_95 : decode cqLi_settle 95 = .ok (.getfield 29, 3) := by decide +kernel
theorem dqLi_settle_98 : decode cqLi_settle 98 = .ok (.if_icmp .gt 26, 3) := by decide +kernel
theorem dqLi_settle_101 : decode cqLi_settle 101 = .ok (.aload_n 0, 1) := by decide +kernel
theorem dqLi_settle_102 : decode cqLi_settle 102 = .ok (.aload_n 2, 1) := by decide +kernel
theorem dqLi_settle_103 : decode cqLi_settle 103 = .ok (.iload 5, 2) := by decide +kernel
theorem dqLi_settle_105 : decode cqLi_settle 105 = .ok (.invokevirtual 55, 3) := by decide +kernel
theorem dqLi_settle_108 : decode cqLi_settle 108 = .ok (.aload_n 2, 1) := by decide +kernel
theorem dqLi_settle_109 : decode cqLi_settle 109 = .ok (.iload 5, 2) := by decide +kernel
theorem dqLi_settle_111 : decode cqLi_settle 111 = .ok (.invokevirtual 58, 3) := by decide +kernel
theorem dqLi_settle_114 : decode cqLi_settle 114 = .ok (.aload_n 2, 1) := by decide +kernel
theorem dqLi_settle_115 : decode cqLi_settle 115 = .ok (.iload 5, 2) := by decide +kernel
theorem dqLi_settle_117 : decode cqLi_settle 117 = .ok (.invokevirtual 61, 3) := by decide +kernel
theorem dqLi_settle_120 : decode cqLi_settle 120 = .ok (.i2l, 1) := by decide +kernel
theorem dqLi_settle_121 : decode cqLi_settle 121 = .ok (.invokevirtual 64, 3) := by decide +kernel
theorem dqLi_settle_124 : decode cqLi_settle 124 = .ok (.iinc 5 1, 3) := by decide +kernel
theorem dqLi_settle_127 : decode cqLi_settle 127 = .ok (.goto (-61), 3) := by decide +kernel
theorem dqLi_settle_130 : decode cqLi_settle 130 = .ok (.return_, 1) := by decide +kernel
theorem dqLi_meet_0 : decode cqLi_meet 0 = .ok (.lload_n 3, 1) := by decide +kernel
theorem dqLi_meet_1 : decode cqLi_meet 1 = .ok (.aload_n 0, 1) := by decide +kernel
theorem dqLi_meet_2 : decode cqLi_meet 2 = .ok (.getfield 9, 3) := by decide +kernel
theorem dqLi_meet_5 : decode cqLi_meet 5 = .ok (.iload_n 1, 1) := by decide +kernel
theorem dqLi_meet_6 : decode cqLi_meet 6 = .ok (.iload_n 2, 1) := by decide +kernel
theorem dqLi_meet_7 : decode cqLi_meet 7 = .ok (.invokestatic 68, 3) := by decide +kernel
theorem dqLi_meet_10 : decode cqLi_meet 10 = .ok (.lsub, 1) := by decide +kernel
theorem dqLi_meet_11 : decode cqLi_meet 11 = .ok (.lstore 5, 2) := by decide +kernel
theorem dqLi_meet_13 : decode cqLi_meet 13 = .ok (.lload 5, 2) := by decide +kernel
theorem dqLi_meet_15 : decode cqLi_meet 15 = .ok (.lconst 0, 1) := by decide +kernel
theorem dqLi_meet_16 : decode cqLi_meet 16 = .ok (.lcmp, 1) := by decide +kernel
theorem dqLi_meet_17 : decode cqLi_meet 17 = .ok (.ifCond .gt 4, 3) := by decide +kernel
theorem dqLi_meet_20 : decode cqLi_meet 20 = .ok (.return_, 1) := by decide +kernel
theorem dqLi_meet_21 : decode cqLi_meet 21 = .ok (.aload_n 0, 1) := by decide +kernel
theorem dqLi_meet_22 : decode cqLi_meet 22 = .ok (.getfield 21, 3) := by decide +kernel
theorem dqLi_meet_25 : decode cqLi_meet 25 = .ok (.aload_n 0, 1) := by decide +kernel
theorem dqLi_meet_26 : decode cqLi_meet 26 = .ok (.getfield 9, 3) := by decide +kernel
theorem dqLi_meet_29 : decode cqLi_meet 29 = .ok (.aload_n 0, 1) := by decide +kernel
theorem dqLi_meet_30 : decode cqLi_meet 30 = .ok (.getfield 15, 3) := by decide +kernel
theorem dqLi_meet_33 : decode cqLi_meet 33 = .ok (.iload_n 1, 1) := by decide +kernel
theorem dqLi_meet_34 : decode cqLi_meet 34 = .ok (.iload_n 2, 1) := by decide +kernel
theorem dqLi_meet_35 : decode cqLi_meet 35 = .ok (.lload_n 3, 1) := by decide +kernel
theorem dqLi_meet_36 : decode cqLi_meet 36 = .ok (.invokevirtual 72, 3) := by decide +kernel
theorem dqLi_meet_39 : decode cqLi_meet 39 = .ok (.ifCond .ne 17, 3) := by decide +kernel
theorem dqLi_meet_42 : decode cqLi_meet 42 = .ok (.aload_n 0, 1) := by decide +kernel
theorem dqLi_meet_43 : decode cqLi_meet 43 = .ok (.getfield 9, 3) := by decide +kernel
theorem dqLi_meet_46 : decode cqLi_meet 46 = .ok (.iload_n 2, 1) := by decide +kernel
theorem dqLi_meet_47 : decode cqLi_meet 47 = .ok (.iconst 1, 1) := by decide +kernel
theorem dqLi_meet_48 : decode cqLi_meet 48 = .ok (.isub, 1) := by decide +kernel
theorem dqLi_meet_49 : decode cqLi_meet 49 = .ok (.dup2, 1) := by decide +kernel
theorem dqLi_meet_50 : decode cqLi_meet 50 = .ok (.laload, 1) := by decide +kernel
theorem dqLi_meet_51 : decode cqLi_meet 51 = .ok (.lload 5, 2) := by decide +kernel
theorem dqLi_meet_53 : decode cqLi_meet 53 = .ok (.ladd, 1) := by decide +kernel
theorem dqLi_meet_54 : decode cqLi_meet 54 = .ok (.lastore, 1) := by decide +kernel
theorem dqLi_meet_55 : decode cqLi_meet 55 = .ok (.return_, 1) := by decide +kernel
theorem dqLi_meet_56 : decode cqLi_meet 56 = .ok (.iload_n 1, 1) := by decide +kernel
theorem dqLi_meet_57 : decode cqLi_meet 57 = .ok (.istore 7, 2) := by decide +kernel
theorem dqLi_meet_59 : decode cqLi_meet 59 = .ok (.iload 7, 2) := by decide +kernel
theorem dqLi_meet_61 : decode cqLi_meet 61 = .ok (.iload_n 2, 1) := by decide +kernel
theorem dqLi_meet_62 : decode cqLi_meet 62 = .ok (.if_icmp .ge 55, 3) := by decide +kernel
theorem dqLi_meet_65 : decode cqLi_meet 65 = .ok (.aload_n 0, 1) := by decide +kernel
theorem dqLi_meet_66 : decode cqLi_meet 66 = .ok (.getfield 21, 3) := by decide +kernel
theorem dqLi_meet_69 : decode cqLi_meet 69 = .ok (.invokevirtual 76, 3) := by decide +kernel
theorem dqLi_meet_72 : decode cqLi_meet 72 = .ok (.aload_n 0, 1) := by decide +kernel
theorem dqLi_meet_73 : decode cqLi_meet 73 = .ok (.getfield 15, 3) := by decide +kernel
theorem dqLi_meet_76 : decode cqLi_meet 76 = .ok (.iload 7, 2) := by decide +kernel
theorem dqLi_meet_78 : decode cqLi_meet 78 = .ok (.laload, 1) := by decide +kernel
theorem dqLi_meet_79 : decode cqLi_meet 79 = .ok (.lmul, 1) := by decide +kernel
theorem dqLi_meet_80 : decode cqLi_meet 80 = .ok (.aload_n 0, 1) := by decide +kernel
theorem dqLi_meet_81 : decode cqLi_meet 81 = .ok (.getfield 21, 3) := by decide +kernel
theorem dqLi_meet_84 : decode cqLi_meet 84 = .ok (.invokevirtual 80, 3) := by decide +kernel
theorem dqLi_meet_87 : decode cqLi_meet 87 = .ok (.invokestatic 83, 3) := by decide +kernel
theorem dqLi_meet_90 : decode cqLi_meet 90 = .ok (.lstore 8, 2) := by decide +kernel
theorem dqLi_meet_92 : decode cqLi_meet 92 = .ok (.aload_n 0, 1) := by decide +kernel
theorem dqLi_meet_93 : decode cqLi_meet 93 = .ok (.getfield 9, 3) := by decide +kernel
theorem dqLi_meet_96 : decode cqLi_meet 96 = .ok (.iload 7, 2) := by decide +kernel
theorem dqLi_meet_98 : decode cqLi_meet 98 = .ok (.aload_n 0, 1) := by decide +kernel
theorem dqLi_meet_99 : decode cqLi_meet 99 = .ok (.getfield 9, 3) := by decide +kernel
theorem dqLi_meet_102 : decode cqLi_meet 102 = .ok (.iload 7, 2) := by decide +kernel
theorem dqLi_meet_104 : decode cqLi_meet 104 = .ok (.laload, 1) := by decide +kernel
theorem dqLi_meet_105 : decode cqLi_meet 105 = .ok (.lload 8, 2) := by decide +kernel
theorem dqLi_meet_107 : decode cqLi_meet 107 = .ok (.invokestatic 87, 3) := by decide +kernel
theorem dqLi_meet_110 : decode cqLi_meet 110 = .ok (.lastore, 1) := by decide +kernel
theorem dqLi_meet_111 : decode cqLi_meet 111 = .ok (.iinc 7 1, 3) := by decide +kernel
theorem dqLi_meet_114 : decode cqLi_meet 114 = .ok (.goto (-55), 3) := by decide +kernel
theorem dqLi_meet_117 : decode cqLi_meet 117 = .ok (.return_, 1) := by decide +kernel
theorem dqLi_stretch_0 : decode cqLi_stretch 0 = .ok (.aload_n 0, 1) := by decide +kernel
theorem dqLi_stretch_1 : decode cqLi_stretch 1 = .ok (.getfield 21, 3) := by decide +kernel
theorem dqLi_stretch_4 : decode cqLi_stretch 4 = .ok (.aload_n 0, 1) := by decide +kernel
theorem dqLi_stretch_5 : decode cqLi_stretch 5 = .ok (.getfield 9, 3) := by decide +kernel
theorem dqLi_stretch_8 : decode cqLi_stretch 8 = .ok (.aload_n 0, 1) := by decide +kernel
theorem dqLi_stretch_9 : decode cqLi_stretch 9 = .ok (.getfield 15, 3) := by decide +kernel
theorem dqLi_stretch_12 : decode cqLi_stretch 12 = .ok (.aload_n 0, 1) := by decide +kernel
theorem dqLi_stretch_13 : decode cqLi_stretch 13 = .ok (.getfield 25, 3) := by decide +kernel
theorem dqLi_stretch_16 : decode cqLi_stretch 16 = .ok (.aload_n 0, 1) := by decide +kernel
theorem dqLi_stretch_17 : decode cqLi_stretch 17 = .ok (.getfield 29, 3) := by decide +kernel
theorem dqLi_stretch_20 : decode cqLi_stretch 20 = .ok (.iload_n 1, 1) := by decide +kernel
theorem dqLi_stretch_21 : decode cqLi_stretch 21 = .ok (.i2l, 1) := by decide +kernel
theorem dqLi_stretch_22 : decode cqLi_stretch 22 = .ok (.invokevirtual 72, 3) := by decide +kernel
theorem dqLi_stretch_25 : decode cqLi_stretch 25 = .ok (.istore_n 2, 1) := by decide +kernel
theorem dqLi_stretch_26 : decode cqLi_stretch 26 = .ok (.aload_n 0, 1) := by decide +kernel
theorem dqLi_stretch_27 : decode cqLi_stretch 27 = .ok (.getfield 21, 3) := by decide +kernel
theorem dqLi_stretch_30 : decode cqLi_stretch 30 = .ok (.invokevirtual 92, 3) := by decide +kernel
theorem dqLi_stretch_33 : decode cqLi_stretch 33 = .ok (.aload_n 0, 1) := by decide +kernel
theorem dqLi_stretch_34 : decode cqLi_stretch 34 = .ok (.lconst 0, 1) := by decide +kernel
theorem dqLi_stretch_35 : decode cqLi_stretch 35 = .ok (.aload_n 0, 1) := by decide +kernel
theorem dqLi_stretch_36 : decode cqLi_stretch 36 = .ok (.invokevirtual 95, 3) := by decide +kernel
theorem dqLi_stretch_39 : decode cqLi_stretch 39 = .ok (.iload_n 1, 1) := by decide +kernel
theorem dqLi_stretch_40 : decode cqLi_stretch 40 = .ok (.i2l, 1) := by decide +kernel
theorem dqLi_stretch_41 : decode cqLi_stretch 41 = .ok (.lsub, 1) := by decide +kernel
theorem dqLi_stretch_42 : decode cqLi_stretch 42 = .ok (.invokestatic 87, 3) := by decide +kernel
theorem dqLi_stretch_45 : decode cqLi_stretch 45 = .ok (.putfield 32, 3) := by decide +kernel
theorem dqLi_stretch_48 : decode cqLi_stretch 48 = .ok (.aload_n 0, 1) := by decide +kernel
theorem dqLi_stretch_49 : decode cqLi_stretch 49 = .ok (.getfield 32, 3) := by decide +kernel
theorem dqLi_stretch_52 : decode cqLi_stretch 52 = .ok (.lconst 0, 1) := by decide +kernel
theorem dqLi_stretch_53 : decode cqLi_stretch 53 = .ok (.lcmp, 1) := by decide +kernel
theorem dqLi_stretch_54 : decode cqLi_stretch 54 = .ok (.ifCond .le 5, 3) := by decide +kernel
theorem dqLi_stretch_57 : decode cqLi_stretch 57 = .ok (.iconst 1, 1) := by decide +kernel
theorem dqLi_stretch_58 : decode cqLi_stretch 58 = .ok (.ireturn, 1) := by decide +kernel
theorem dqLi_stretch_59 : decode cqLi_stretch 59 = .ok (.iload_n 2, 1) := by decide +kernel
theorem dqLi_stretch_60 : decode cqLi_stretch 60 = .ok (.ifCond .eq 7, 3) := by decide +kernel
theorem dqLi_stretch_63 : decode cqLi_stretch 63 = .ok (.iconst 0, 1) := by decide +kernel
theorem dqLi_stretch_64 : decode cqLi_stretch 64 = .ok (.goto 4, 3) := by decide +kernel
theorem dqLi_stretch_67 : decode cqLi_stretch 67 = .ok (.iconst 2, 1) := by decide +kernel
theorem dqLi_stretch_68 : decode cqLi_stretch 68 = .ok (.ireturn, 1) := by decide +kernel
theorem dqLi_sumOfLeasts_0 : decode cqLi_sumOfLeasts 0 = .ok (.aload_n 0, 1) := by decide +kernel
theorem dqLi_sumOfLeasts_1 : decode cqLi_sumOfLeasts 1 = .ok (.getfield 9, 3) := by decide +kernel
theorem dqLi_sumOfLeasts_4 : decode cqLi_sumOfLeasts 4 = .ok (.aload_n 0, 1) := by decide +kernel
theorem dqLi_sumOfLeasts_5 : decode cqLi_sumOfLeasts 5 = .ok (.getfield 25, 3) := by decide +kernel
theorem dqLi_sumOfLeasts_8 : decode cqLi_sumOfLeasts 8 = .ok (.aload_n 0, 1) := by decide +kernel
theorem dqLi_sumOfLeasts_9 : decode cqLi_sumOfLeasts 9 = .ok (.getfield 29, 3) := by decide +kernel
theorem dqLi_sumOfLeasts_12 : decode cqLi_sumOfLeasts 12 = .ok (.invokestatic 68, 3) := by decide +kernel
theorem dqLi_sumOfLeasts_15 : decode cqLi_sumOfLeasts 15 = .ok (.lreturn, 1) := by decide +kernel
theorem dqLi_naturalWidth_0 : decode cqLi_naturalWidth 0 = .ok (.lconst 0, 1) := by decide +kernel
theorem dqLi_naturalWidth_1 : decode cqLi_naturalWidth 1 = .ok (.lstore_n 1, 1) := by decide +kernel
theorem dqLi_naturalWidth_2 : decode cqLi_naturalWidth 2 = .ok (.aload_n 0, 1) := by decide +kernel
theorem dqLi_naturalWidth_3 : decode cqLi_naturalWidth 3 = .ok (.getfield 25, 3) := by decide +kernel
theorem dqLi_naturalWidth_6 : decode cqLi_naturalWidth 6 = .ok (.istore_n 3, 1) := by decide +kernel
theorem dqLi_naturalWidth_7 : decode cqLi_naturalWidth 7 = .ok (.iload_n 3, 1) := by decide +kernel
theorem dqLi_naturalWidth_8 : decode cqLi_naturalWidth 8 = .ok (.aload_n 0, 1) := by decide +kernel
theorem dqLi_naturalWidth_9 : decode cqLi_naturalWidth 9 = .ok (.getfield 29, 3) := by decide +kernel
theorem dqLi_naturalWidth_12 : decode cqLi_naturalWidth 12 = .ok (.if_icmp .ge 31, 3) := by decide +kernel
theorem dqLi_naturalWidth_15 : decode cqLi_naturalWidth 15 = .ok (.lload_n 1, 1) := by decide +kernel
theorem dqLi_naturalWidth_16 : decode cqLi_naturalWidth 16 = .ok (.aload_n 0, 1) := by decide +kernel
theorem dqLi_naturalWidth_17 : decode cqLi_naturalWidth 17 = .ok (.getfield 9, 3) := by decide +kernel
theorem dqLi_naturalWidth_20 : decode cqLi_naturalWidth 20 = .ok (.iload_n 3, 1) := by decide +kernel
theorem dqLi_naturalWidth_21 : decode cqLi_naturalWidth 21 = .ok (.laload, 1) := by decide +kernel
theorem dqLi_naturalWidth_22 : decode cqLi_naturalWidth 22 = .ok (.aload_n 0, 1) := by decide +kernel
theorem dqLi_naturalWidth_23 : decode cqLi_naturalWidth 23 = .ok (.getfield 15, 3) := by decide +kernel
theorem dqLi_naturalWidth_26 : decode cqLi_naturalWidth 26 = .ok (.iload_n 3, 1) := by decide +kernel
theorem dqLi_naturalWidth_27 : decode cqLi_naturalWidth 27 = .ok (.laload, 1) := by decide +kernel
theorem dqLi_naturalWidth_28 : decode cqLi_naturalWidth 28 = .ok (.ldc2_w 98, 3) := by decide +kernel
theorem dqLi_naturalWidth_31 : decode cqLi_naturalWidth 31 = .ok (.ldiv, 1) := by decide +kernel
theorem dqLi_naturalWidth_32 : decode cqLi_naturalWidth 32 = .ok (.invokestatic 87, 3) := by decide +kernel
theorem dqLi_naturalWidth_35 : decode cqLi_naturalWidth 35 = .ok (.ladd, 1) := by decide +kernel
theorem dqLi_naturalWidth_36 : decode cqLi_naturalWidth 36 = .ok (.lstore_n 1, 1) := by decide +kernel
theorem dqLi_naturalWidth_37 : decode cqLi_naturalWidth 37 = .ok (.iinc 3 1, 3) := by decide +kernel
theorem dqLi_naturalWidth_40 : decode cqLi_naturalWidth 40 = .ok (.goto (-33), 3) := by decide +kernel
theorem dqLi_naturalWidth_43 : decode cqLi_naturalWidth 43 = .ok (.lload_n 1, 1) := by decide +kernel
theorem dqLi_naturalWidth_44 : decode cqLi_naturalWidth 44 = .ok (.lreturn, 1) := by decide +kernel
theorem dqLi_hasGap_0 : decode cqLi_hasGap 0 = .ok (.iload_n 1, 1) := by decide +kernel
theorem dqLi_hasGap_1 : decode cqLi_hasGap 1 = .ok (.aload_n 0, 1) := by decide +kernel
theorem dqLi_hasGap_2 : decode cqLi_hasGap 2 = .ok (.getfield 25, 3) := by decide +kernel
theorem dqLi_hasGap_5 : decode cqLi_hasGap 5 = .ok (.aload_n 0, 1) := by decide +kernel
theorem dqLi_hasGap_6 : decode cqLi_hasGap 6 = .ok (.getfield 29, 3) := by decide +kernel
theorem dqLi_hasGap_9 : decode cqLi_hasGap 9 = .ok (.iconst 1, 1) := by decide +kernel
theorem dqLi_hasGap_10 : decode cqLi_hasGap 10 = .ok (.isub, 1) := by decide +kernel
theorem dqLi_hasGap_11 : decode cqLi_hasGap 11 = .ok (.invokestatic 100, 3) := by decide +kernel
theorem dqLi_hasGap_14 : decode cqLi_hasGap 14 = .ok (.ireturn, 1) := by decide +kernel
theorem dqLi_hasColumn_0 : decode cqLi_hasColumn 0 = .ok (.iload_n 1, 1) := by decide +kernel
theorem dqLi_hasColumn_1 : decode cqLi_hasColumn 1 = .ok (.aload_n 0, 1) := by decide +kernel
theorem dqLi_hasColumn_2 : decode cqLi_hasColumn 2 = .ok (.getfield 25, 3) := by decide +kernel
theorem dqLi_hasColumn_5 : decode cqLi_hasColumn 5 = .ok (.aload_n 0, 1) := by decide +kernel
theorem dqLi_hasColumn_6 : decode cqLi_hasColumn 6 = .ok (.getfield 29, 3) := by decide +kernel
theorem dqLi_hasColumn_9 : decode cqLi_hasColumn 9 = .ok (.invokestatic 100, 3) := by decide +kernel
theorem dqLi_hasColumn_12 : decode cqLi_hasColumn 12 = .ok (.ireturn, 1) := by decide +kernel
theorem dqLi_spans_0 : decode cqLi_spans 0 = .ok (.iload_n 2, 1) := by decide +kernel
theorem dqLi_spans_1 : decode cqLi_spans 1 = .ok (.aload_n 1, 1) := by decide +kernel
theorem dqLi_spans_2 : decode cqLi_spans 2 = .ok (.aload_n 0, 1) := by decide +kernel
theorem dqLi_spans_3 : decode cqLi_spans 3 = .ok (.getfield 25, 3) := by decide +kernel
theorem dqLi_spans_6 : decode cqLi_spans 6 = .ok (.invokevirtual 104, 3) := by decide +kernel
theorem dqLi_spans_9 : decode cqLi_spans 9 = .ok (.aload_n 1, 1) := by decide +kernel
theorem dqLi_spans_10 : decode cqLi_spans 10 = .ok (.aload_n 0, 1) := by decide +kernel
theorem dqLi_spans_11 : decode cqLi_spans 11 = .ok (.getfield 29, 3) := by decide +kernel
theorem dqLi_spans_14 : decode cqLi_spans 14 = .ok (.invokevirtual 104, 3) := by decide +kernel
theorem dqLi_spans_17 : decode cqLi_spans 17 = .ok (.invokestatic 100, 3) := by decide +kernel
theorem dqLi_spans_20 : decode cqLi_spans 20 = .ok (.ireturn, 1) := by decide +kernel
theorem dqLi_excess_0 : decode cqLi_excess 0 = .ok (.aload_n 0, 1) := by decide +kernel
theorem dqLi_excess_1 : decode cqLi_excess 1 = .ok (.getfield 32, 3) := by decide +kernel
theorem dqLi_excess_4 : decode cqLi_excess 4 = .ok (.l2i, 1) := by decide +kernel
theorem dqLi_excess_5 : decode cqLi_excess 5 = .ok (.ireturn, 1) := by decide +kernel
theorem dqLi_leastOf_0 : decode cqLi_leastOf 0 = .ok (.aload_n 0, 1) := by decide +kernel
theorem dqLi_leastOf_1 : decode cqLi_leastOf 1 = .ok (.getfield 9, 3) := by decide +kernel
theorem dqLi_leastOf_4 : decode cqLi_leastOf 4 = .ok (.iload_n 1, 1) := by decide +kernel
theorem dqLi_leastOf_5 : decode cqLi_leastOf 5 = .ok (.laload, 1) := by decide +kernel
theorem dqLi_leastOf_6 : decode cqLi_leastOf 6 = .ok (.l2i, 1) := by decide +kernel
theorem dqLi_leastOf_7 : decode cqLi_leastOf 7 = .ok (.ireturn, 1) := by decide +kernel
theorem dqLi_forcePart_0 : decode cqLi_forcePart 0 = .ok (.iload_n 1, 1) := by decide +kernel
theorem dqLi_forcePart_1 : decode cqLi_forcePart 1 = .ok (.ifCond .ne 13, 3) := by decide +kernel
theorem dqLi_forcePart_4 : decode cqLi_forcePart 4 = .ok (.aload_n 0, 1) := by decide +kernel
theorem dqLi_forcePart_5 : decode cqLi_forcePart 5 = .ok (.getfield 21, 3) := by decide +kernel
theorem dqLi_forcePart_8 : decode cqLi_forcePart 8 = .ok (.invokevirtual 76, 3) := by decide +kernel
theorem dqLi_forcePart_11 : decode cqLi_forcePart 11 = .ok (.goto 10, 3) := by decide +kernel
theorem dqLi_forcePart_14 : decode cqLi_forcePart 14 = .ok (.aload_n 0, 1) := by decide +kernel
theorem dqLi_forcePart_15 : decode cqLi_forcePart 15 = .ok (.getfield 21, 3) := by decide +kernel
theorem dqLi_forcePart_18 : decode cqLi_forcePart 18 = .ok (.invokevirtual 80, 3) := by decide +kernel
theorem dqLi_forcePart_21 : decode cqLi_forcePart 21 = .ok (.lreturn, 1) := by decide +kernel
theorem dqLi_widthPart_0 : decode cqLi_widthPart 0 = .ok (.aload_n 0, 1) := by decide +kernel
theorem dqLi_widthPart_1 : decode cqLi_widthPart 1 = .ok (.iload_n 1, 1) := by decide +kernel
theorem dqLi_widthPart_2 : decode cqLi_widthPart 2 = .ok (.invokevirtual 107, 3) := by decide +kernel
theorem dqLi_widthPart_5 : decode cqLi_widthPart 5 = .ok (.lstore_n 3, 1) := by decide +kernel
theorem dqLi_widthPart_6 : decode cqLi_widthPart 6 = .ok (.aload_n 0, 1) := by decide +kernel
theorem dqLi_widthPart_7 : decode cqLi_widthPart 7 = .ok (.getfield 21, 3) := by decide +kernel
theorem dqLi_widthPart_10 : decode cqLi_widthPart 10 = .ok (.invokevirtual 80, 3) := by decide +kernel
theorem dqLi_widthPart_13 : decode cqLi_widthPart 13 = .ok (.lstore 5, 2) := by decide +kernel
theorem dqLi_widthPart_15 : decode cqLi_widthPart 15 = .ok (.iload_n 2, 1) := by decide +kernel
theorem dqLi_widthPart_16 : decode cqLi_widthPart 16 = .ok (.ifCond .ne 7, 3) := by decide +kernel
theorem dqLi_widthPart_19 : decode cqLi_widthPart 19 = .ok (.lload_n 3, 1) := by decide +kernel
theorem dqLi_widthPart_20 : decode cqLi_widthPart 20 = .ok (.goto 5, 3) := by decide +kernel
theorem dqLi_widthPart_23 : decode cqLi_widthPart 23 = .ok (.lload 5, 2) := by decide +kernel
theorem dqLi_widthPart_25 : decode cqLi_widthPart 25 = .ok (.lload_n 3, 1) := by decide +kernel
theorem dqLi_widthPart_26 : decode cqLi_widthPart 26 = .ok (.lload 5, 2) := by decide +kernel
theorem dqLi_widthPart_28 : decode cqLi_widthPart 28 = .ok (.invokestatic 110, 3) := by decide +kernel
theorem dqLi_widthPart_31 : decode cqLi_widthPart 31 = .ok (.ldiv, 1) := by decide +kernel
theorem dqLi_widthPart_32 : decode cqLi_widthPart 32 = .ok (.lreturn, 1) := by decide +kernel
theorem dqLi_placeOf_0 : decode cqLi_placeOf 0 = .ok (.aload_n 0, 1) := by decide +kernel
theorem dqLi_placeOf_1 : decode cqLi_placeOf 1 = .ok (.iload_n 1, 1) := by decide +kernel
theorem dqLi_placeOf_2 : decode cqLi_placeOf 2 = .ok (.invokevirtual 113, 3) := by decide +kernel
theorem dqLi_placeOf_5 : decode cqLi_placeOf 5 = .ok (.aload_n 0, 1) := by decide +kernel
theorem dqLi_placeOf_6 : decode cqLi_placeOf 6 = .ok (.getfield 21, 3) := by decide +kernel
theorem dqLi_placeOf_9 : decode cqLi_placeOf 9 = .ok (.invokevirtual 80, 3) := by decide +kernel
theorem dqLi_placeOf_12 : decode cqLi_placeOf 12 = .ok (.invokestatic 116, 3) := by decide +kernel
theorem dqLi_placeOf_15 : decode cqLi_placeOf 15 = .ok (.l2i, 1) := by decide +kernel
theorem dqLi_placeOf_16 : decode cqLi_placeOf 16 = .ok (.ireturn, 1) := by decide +kernel
theorem dqLi_placeAt_0 : decode cqLi_placeAt 0 = .ok (.aload_n 0, 1) := by decide +kernel
theorem dqLi_placeAt_1 : decode cqLi_placeAt 1 = .ok (.getfield 25, 3) := by decide +kernel
theorem dqLi_placeAt_4 : decode cqLi_placeAt 4 = .ok (.istore_n 3, 1) := by decide +kernel
theorem dqLi_placeAt_5 : decode cqLi_placeAt 5 = .ok (.iload_n 3, 1) := by decide +kernel
theorem dqLi_placeAt_6 : decode cqLi_placeAt 6 = .ok (.iconst 1, 1) := by decide +kernel
theorem dqLi_placeAt_7 : decode cqLi_placeAt 7 = .ok (.iadd, 1) := by decide +kernel
theorem dqLi_placeAt_8 : decode cqLi_placeAt 8 = .ok (.aload_n 0, 1) := by decide +kernel
theorem dqLi_placeAt_9 : decode cqLi_placeAt 9 = .ok (.getfield 29, 3) := by decide +kernel
theorem dqLi_placeAt_12 : decode cqLi_placeAt 12 = .ok (.if_icmp .ge 20, 3) := by decide +kernel
theorem dqLi_placeAt_15 : decode cqLi_placeAt 15 = .ok (.aload_n 1, 1) := by decide +kernel
theorem dqLi_placeAt_16 : decode cqLi_placeAt 16 = .ok (.iload_n 3, 1) := by decide +kernel
theorem dqLi_placeAt_17 : decode cqLi_placeAt 17 = .ok (.iconst 1, 1) := by decide +kernel
theorem dqLi_placeAt_18 : decode cqLi_placeAt 18 = .ok (.iadd, 1) := by decide +kernel
theorem dqLi_placeAt_19 : decode cqLi_placeAt 19 = .ok (.invokevirtual 104, 3) := by decide +kernel
theorem dqLi_placeAt_22 : decode cqLi_placeAt 22 = .ok (.iload_n 2, 1) := by decide +kernel
theorem dqLi_placeAt_23 : decode cqLi_placeAt 23 = .ok (.if_icmp .gt 9, 3) := by decide +kernel
theorem dqLi_placeAt_26 : decode cqLi_placeAt 26 = .ok (.iinc 3 1, 3) := by decide +kernel
theorem dqLi_placeAt_29 : decode cqLi_placeAt 29 = .ok (.goto (-24), 3) := by decide +kernel
theorem dqLi_placeAt_32 : decode cqLi_placeAt 32 = .ok (.aload_n 1, 1) := by decide +kernel
theorem dqLi_placeAt_33 : decode cqLi_placeAt 33 = .ok (.iload_n 3, 1) := by decide +kernel
theorem dqLi_placeAt_34 : decode cqLi_placeAt 34 = .ok (.invokevirtual 42, 3) := by decide +kernel
theorem dqLi_placeAt_37 : decode cqLi_placeAt 37 = .ok (.i2l, 1) := by decide +kernel
theorem dqLi_placeAt_38 : decode cqLi_placeAt 38 = .ok (.lstore 4, 2) := by decide +kernel
theorem dqLi_placeAt_40 : decode cqLi_placeAt 40 = .ok (.iload_n 2, 1) := by decide +kernel
theorem dqLi_placeAt_41 : decode cqLi_placeAt 41 = .ok (.aload_n 1, 1) := by decide +kernel
theorem dqLi_placeAt_42 : decode cqLi_placeAt 42 = .ok (.iload_n 3, 1) := by decide +kernel
theorem dqLi_placeAt_43 : decode cqLi_placeAt 43 = .ok (.invokevirtual 104, 3) := by decide +kernel
theorem dqLi_placeAt_46 : decode cqLi_placeAt 46 = .ok (.isub, 1) := by decide +kernel
theorem dqLi_placeAt_47 : decode cqLi_placeAt 47 = .ok (.i2l, 1) := by decide +kernel
theorem dqLi_placeAt_48 : decode cqLi_placeAt 48 = .ok (.lstore 6, 2) := by decide +kernel
theorem dqLi_placeAt_50 : decode cqLi_placeAt 50 = .ok (.aload_n 0, 1) := by decide +kernel
theorem dqLi_placeAt_51 : decode cqLi_placeAt 51 = .ok (.iload_n 3, 1) := by decide +kernel
theorem dqLi_placeAt_52 : decode cqLi_placeAt 52 = .ok (.invokevirtual 113, 3) := by decide +kernel
theorem dqLi_placeAt_55 : decode cqLi_placeAt 55 = .ok (.lload 4, 2) := by decide +kernel
theorem dqLi_placeAt_57 : decode cqLi_placeAt 57 = .ok (.lmul, 1) := by decide +kernel
theorem dqLi_placeAt_58 : decode cqLi_placeAt 58 = .ok (.aload_n 0, 1) := by decide +kernel
theorem dqLi_placeAt_59 : decode cqLi_placeAt 59 = .ok (.iload_n 3, 1) := by decide +kernel
theorem dqLi_placeAt_60 : decode cqLi_placeAt 60 = .ok (.invokevirtual 107, 3) := by decide +kernel
theorem dqLi_placeAt_63 : decode cqLi_placeAt 63 = .ok (.lload 6, 2) := by decide +kernel
theorem dqLi_placeAt_65 : decode cqLi_placeAt 65 = .ok (.lmul, 1) := by decide +kernel
theorem dqLi_placeAt_66 : decode cqLi_placeAt 66 = .ok (.ladd, 1) := by decide +kernel
theorem dqLi_placeAt_67 : decode cqLi_placeAt 67 = .ok (.lstore 8, 2) := by decide +kernel
theorem dqLi_placeAt_69 : decode cqLi_placeAt 69 = .ok (.lload 8, 2) := by decide +kernel
theorem dqLi_placeAt_71 : decode cqLi_placeAt 71 = .ok (.aload_n 0, 1) := by decide +kernel
theorem dqLi_placeAt_72 : decode cqLi_placeAt 72 = .ok (.getfield 21, 3) := by decide +kernel
theorem dqLi_placeAt_75 : decode cqLi_placeAt 75 = .ok (.invokevirtual 80, 3) := by decide +kernel
theorem dqLi_placeAt_78 : decode cqLi_placeAt 78 = .ok (.lload 4, 2) := by decide +kernel
theorem dqLi_placeAt_80 : decode cqLi_placeAt 80 = .ok (.lmul, 1) := by decide +kernel
theorem dqLi_placeAt_81 : decode cqLi_placeAt 81 = .ok (.invokestatic 116, 3) := by decide +kernel
theorem dqLi_placeAt_84 : decode cqLi_placeAt 84 = .ok (.l2i, 1) := by decide +kernel
theorem dqLi_placeAt_85 : decode cqLi_placeAt 85 = .ok (.ireturn, 1) := by decide +kernel
theorem dqLi_widthAbove_0 : decode cqLi_widthAbove 0 = .ok (.aload_n 0, 1) := by decide +kernel
theorem dqLi_widthAbove_1 : decode cqLi_widthAbove 1 = .ok (.getfield 9, 3) := by decide +kernel
theorem dqLi_widthAbove_4 : decode cqLi_widthAbove 4 = .ok (.iload_n 1, 1) := by decide +kernel
theorem dqLi_widthAbove_5 : decode cqLi_widthAbove 5 = .ok (.laload, 1) := by decide +kernel
theorem dqLi_widthAbove_6 : decode cqLi_widthAbove 6 = .ok (.aload_n 0, 1) := by decide +kernel
theorem dqLi_widthAbove_7 : decode cqLi_widthAbove 7 = .ok (.getfield 21, 3) := by decide +kernel
theorem dqLi_widthAbove_10 : decode cqLi_widthAbove 10 = .ok (.invokevirtual 80, 3) := by decide +kernel
theorem dqLi_widthAbove_13 : decode cqLi_widthAbove 13 = .ok (.lmul, 1) := by decide +kernel
theorem dqLi_widthAbove_14 : decode cqLi_widthAbove 14 = .ok (.aload_n 0, 1) := by decide +kernel
theorem dqLi_widthAbove_15 : decode cqLi_widthAbove 15 = .ok (.getfield 21, 3) := by decide +kernel
theorem dqLi_widthAbove_18 : decode cqLi_widthAbove 18 = .ok (.invokevirtual 76, 3) := by decide +kernel
theorem dqLi_widthAbove_21 : decode cqLi_widthAbove 21 = .ok (.aload_n 0, 1) := by decide +kernel
theorem dqLi_widthAbove_22 : decode cqLi_widthAbove 22 = .ok (.getfield 15, 3) := by decide +kernel
theorem dqLi_widthAbove_25 : decode cqLi_widthAbove 25 = .ok (.iload_n 1, 1) := by decide +kernel
theorem dqLi_widthAbove_26 : decode cqLi_widthAbove 26 = .ok (.laload, 1) := by decide +kernel
theorem dqLi_widthAbove_27 : decode cqLi_widthAbove 27 = .ok (.lmul, 1) := by decide +kernel
theorem dqLi_widthAbove_28 : decode cqLi_widthAbove 28 = .ok (.invokestatic 87, 3) := by decide +kernel
theorem dqLi_widthAbove_31 : decode cqLi_widthAbove 31 = .ok (.lreturn, 1) := by decide +kernel
theorem dqLi_widthsAboveBefore_0 : decode cqLi_widthsAboveBefore 0 = .ok (.lconst 0, 1) := by decide +kernel
theorem dqLi_widthsAboveBefore_1 : decode cqLi_widthsAboveBefore 1 = .ok (.lstore_n 2, 1) := by decide +kernel
theorem dqLi_widthsAboveBefore_2 : decode cqLi_widthsAboveBefore 2 = .ok (.aload_n 0, 1) := by decide +kernel
theorem dqLi_widthsAboveBefore_3 : decode cqLi_widthsAboveBefore 3 = .ok (.getfield 25, 3) := by decide +kernel
theorem dqLi_widthsAboveBefore_6 : decode cqLi_widthsAboveBefore 6 = .ok (.istore 4, 2) := by decide +kernel
theorem dqLi_widthsAboveBefore_8 : decode cqLi_widthsAboveBefore 8 = .ok (.iload 4, 2) := by decide +kernel
theorem dqLi_widthsAboveBefore_10 : decode cqLi_widthsAboveBefore 10 = .ok (.iload_n 1, 1) := by decide +kernel
theorem dqLi_widthsAboveBefore_11 : decode cqLi_widthsAboveBefore 11 = .ok (.if_icmp .ge 18, 3) := by decide +kernel
theorem dqLi_widthsAboveBefore_14 : decode cqLi_widthsAboveBefore 14 = .ok (.lload_n 2, 1) := by decide +kernel
theorem dqLi_widthsAboveBefore_15 : decode cqLi_widthsAboveBefore 15 = .ok (.aload_n 0, 1) := by decide +kernel
theorem dqLi_widthsAboveBefore_16 : decode cqLi_widthsAboveBefore 16 = .ok (.iload 4, 2) := by decide +kernel
theorem dqLi_widthsAboveBefore_18 : decode cqLi_widthsAboveBefore 18 = .ok (.invokevirtual 107, 3) := by decide +kernel
theorem dqLi_widthsAboveBefore_21 : decode cqLi_widthsAboveBefore 21 = .ok (.ladd, 1) := by decide +kernel
theorem dqLi_widthsAboveBefore_22 : decode cqLi_widthsAboveBefore 22 = .ok (.lstore_n 2, 1) := by decide +kernel
theorem dqLi_widthsAboveBefore_23 : decode cqLi_widthsAboveBefore 23 = .ok (.iinc 4 1, 3) := by decide +kernel
theorem dqLi_widthsAboveBefore_26 : decode cqLi_widthsAboveBefore 26 = .ok (.goto (-18), 3) := by decide +kernel
theorem dqLi_widthsAboveBefore_29 : decode cqLi_widthsAboveBefore 29 = .ok (.lload_n 2, 1) := by decide +kernel
theorem dqLi_widthsAboveBefore_30 : decode cqLi_widthsAboveBefore 30 = .ok (.lreturn, 1) := by decide +kernel
theorem dqNe_init_0 : decode cqNe_init 0 = .ok (.aload_n 0, 1) := by decide +kernel
theorem dqNe_init_1 : decode cqNe_init 1 = .ok (.invokespecial 3, 3) := by decide +kernel
theorem dqNe_init_4 : decode cqNe_init 4 = .ok (.aload_n 0, 1) := by decide +kernel
theorem dqNe_init_5 : decode cqNe_init 5 = .ok (.bipush 112, 2) := by decide +kernel
theorem dqNe_init_7 : decode cqNe_init 7 = .ok (.newarray .int, 2) := by decide +kernel
theorem dqNe_init_9 : decode cqNe_init 9 = .ok (.putfield 9, 3) := by decide +kernel
theorem dqNe_init_12 : decode cqNe_init 12 = .ok (.aload_n 0, 1) := by decide +kernel
theorem dqNe_init_13 : decode cqNe_init 13 = .ok (.bipush 112, 2) := by decide +kernel
theorem dqNe_init_15 : decode cqNe_init 15 = .ok (.newarray .int, 2) := by decide +kernel
theorem dqNe_init_17 : decode cqNe_init 17 = .ok (.putfield 15, 3) := by decide +kernel
theorem dqNe_init_20 : decode cqNe_init 20 = .ok (.aload_n 0, 1) := by decide +kernel
theorem dqNe_init_21 : decode cqNe_init 21 = .ok (.bipush 112, 2) := by decide +kernel
theorem dqNe_init_23 : decode cqNe_init 23 = .ok (.newarray .int, 2) := by decide +kernel
theorem dqNe_init_25 : decode cqNe_init 25 = .ok (.putfield 18, 3) := by decide +kernel
theorem dqNe_init_28 : decode cqNe_init 28 = .ok (.aload_n 0, 1) := by decide +kernel
theorem dqNe_init_29 : decode cqNe_init 29 = .ok (.iconst 0, 1) := by decide +kernel
theorem dqNe_init_30 : decode cqNe_init 30 = .ok (.putfield 21, 3) := by decide +kernel
theorem dqNe_init_33 : decode cqNe_init 33 = .ok (.return_, 1) := by decide +kernel
theorem dqNe_gather_0 : decode cqNe_gather 0 = .ok (.aload_n 0, 1) := by decide +kernel
theorem dqNe_gather_1 : decode cqNe_gather 1 = .ok (.iconst 0, 1) := by decide +kernel
theorem dqNe_gather_2 : decode cqNe_gather 2 = .ok (.putfield 21, 3) := by decide +kernel
theorem dqNe_gather_5 : decode cqNe_gather 5 = .ok (.iconst 0, 1) := by decide +kernel
theorem dqNe_gather_6 : decode cqNe_gather 6 = .ok (.istore 4, 2) := by decide +kernel
theorem dqNe_gather_8 : decode cqNe_gather 8 = .ok (.iload 4, 2) := by decide +kernel
theorem dqNe_gather_10 : decode cqNe_gather 10 = .ok (.iconst 4, 1) := by decide +kernel
theorem dqNe_gather_11 : decode cqNe_gather 11 = .ok (.if_icmp .ge 17, 3) := by decide +kernel
theorem dqNe_gather_14 : decode cqNe_gather 14 = .ok (.aload_n 0, 1) := by decide +kernel
theorem dqNe_gather_15 : decode cqNe_gather 15 = .ok (.aload_n 1, 1) := by decide +kernel
theorem dqNe_gather_16 : decode cqNe_gather 16 = .ok (.iload 4, 2) := by decide +kernel
theorem dqNe_gather_18 : decode cqNe_gather 18 = .ok (.iload_n 3, 1) := by decide +kernel
theorem dqNe_gather_19 : decode cqNe_gather 19 = .ok (.invokevirtual 25, 3) := by decide +kernel
theorem dqNe_gather_22 : decode cqNe_gather 22 = .ok (.iinc 4 1, 3) := by decide +kernel
theorem dqNe_gather_25 : decode cqNe_gather 25 = .ok (.goto (-17), 3) := by decide +kernel
theorem dqNe_gather_28 : decode cqNe_gather 28 = .ok (.iconst 0, 1) := by decide +kernel
theorem dqNe_gather_29 : decode cqNe_gather 29 = .ok (.istore 4, 2) := by decide +kernel
theorem dqNe_gather_31 : decode cqNe_gather 31 = .ok (.iload 4, 2) := by decide +kernel
theorem dqNe_gather_33 : decode cqNe_gather 33 = .ok (.aload_n 2, 1) := by decide +kernel
theorem dqNe_gather_34 : decode cqNe_gather 34 = .ok (.invokevirtual 29, 3) := by decide +kernel
theorem dqNe_gather_37 : decode cqNe_gather 37 = .ok (.if_icmp .ge 40, 3) := by decide +kernel
theorem dqNe_gather_40 : decode cqNe_gather 40 = .ok (.aload_n 2, 1) := by decide +kernel
theorem dqNe_gather_41 : decode cqNe_gather 41 = .ok (.iload 4, 2) := by decide +kernel
theorem dqNe_gather_43 : decode cqNe_gather 43 = .ok (.invokevirtual 35, 3) := by decide +kernel
theorem dqNe_gather_46 : decode cqNe_gather 46 = .ok (.ifCond .eq 25, 3) := by decide +kernel
theorem dqNe_gather_49 : decode cqNe_gather 49 = .ok (.aload_n 0, 1) := by decide +kernel
theorem dqNe_gather_50 : decode cqNe_gather 50 = .ok (.aload_n 2, 1) := by decide +kernel
theorem dqNe_gather_51 : decode cqNe_gather 51 = .ok (.iload 4, 2) := by decide +kernel
theorem dqNe_gather_53 : decode cqNe_gather 53 = .ok (.invokevirtual 39, 3) := by decide +kernel
theorem dqNe_gather_56 : decode cqNe_gather 56 = .ok (.aload_n 2, 1) := by decide +kernel
theorem dqNe_gather_57 : decode cqNe_gather 57 = .ok (.iload 4, 2) := by decide +kernel
theorem dqNe_gather_59 : decode cqNe_gather 59 = .ok (.invokevirtual 43, 3) := by decide +kernel
theorem dqNe_gather_62 : decode cqNe_gather 62 = .ok (.aload_n 2, 1) := by decide +kernel
theorem dqNe_gather_63 : decode cqNe_gather 63 = .ok (.iload 4, 2) := by decide +kernel
theorem dqNe_gather_65 : decode cqNe_gather 65 = .ok (.invokevirtual 46, 3) := by decide +kernel
theorem dqNe_gather_68 : decode cqNe_gather 68 = .ok (.invokevirtual 49, 3) := by decide +kernel
theorem dqNe_gather_71 : decode cqNe_gather 71 = .ok (.iinc 4 1, 3) := by decide +kernel
theorem dqNe_gather_74 : decode cqNe_gather 74 = .ok (.goto (-43), 3) := by decide +kernel
theorem dqNe_gather_77 : decode cqNe_gather 77 = .ok (.return_, 1) := by decide +kernel
end
section
theorem dqNe_gatherStaff_0 : decode cqNe_gatherStaff 0 = .ok (.iconst (-1), 1) := by decide +kernel
theorem dqNe_gatherStaff_1 : decode cqNe_gatherStaff 1 = .ok (.istore 4, 2) := by decide +kernel
theorem dqNe_gatherStaff_3 : decode cqNe_gatherStaff 3 = .ok (.iconst 0, 1) := by decide +kernel
theorem dqNe_gatherStaff_4 : decode cqNe_gatherStaff 4 = .ok (.istore 5, 2) := by decide +kernel
theorem dqNe_gatherStaff_6 : decode cqNe_gatherStaff 6 = .ok (.iload 5, 2) := by decide +kernel
theorem dqNe_gatherStaff_8 : decode cqNe_gatherStaff 8 = .ok (.iload_n 3, 1) := by decide +kernel
theorem dqNe_gatherStaff_9 : decode cqNe_gatherStaff 9 = .ok (.if_icmp .ge 55, 3) := by decide +kernel
theorem dqNe_gatherStaff_12 : decode cqNe_gatherStaff 12 = .ok (.aload_n 1, 1) := by decide +kernel
theorem dqNe_gatherStaff_13 : decode cqNe_gatherStaff 13 = .ok (.iload_n 2, 1) := by decide +kernel
theorem dqNe_gatherStaff_14 : decode cqNe_gatherStaff 14 = .ok (.iload 5, 2) := by decide +kernel
theorem dqNe_gatherStaff_16 : decode cqNe_gatherStaff 16 = .ok (.invokevirtual 53, 3) := by decide +kernel
theorem dqNe_gatherStaff_19 : decode cqNe_gatherStaff 19 = .ok (.ifCond .eq 39, 3) := by decide +kernel
theorem dqNe_gatherStaff_22 : decode cqNe_gatherStaff 22 = .ok (.iload 4, 2) := by decide +kernel
theorem dqNe_gatherStaff_24 : decode cqNe_gatherStaff 24 = .ok (.ifCond .lt 30, 3) := by decide +kernel
theorem dqNe_gatherStaff_27 : decode cqNe_gatherStaff 27 = .ok (.aload_n 1, 1) := by decide +kernel
theorem dqNe_gatherStaff_28 : decode cqNe_gatherStaff 28 = .ok (.iload_n 2, 1) := by decide +kernel
theorem dqNe_gatherStaff_29 : decode cqNe_gatherStaff 29 = .ok (.iload 4, 2) := by decide +kernel
theorem dqNe_gatherStaff_31 : decode cqNe_gatherStaff 31 = .ok (.invokevirtual 58, 3) := by decide +kernel
theorem dqNe_gatherStaff_34 : decode cqNe_gatherStaff 34 = .ok (.aload_n 1, 1) := by decide +kernel
theorem dqNe_gatherStaff_35 : decode cqNe_gatherStaff 35 = .ok (.iload_n 2, 1) := by decide +kernel
theorem dqNe_gatherStaff_36 : decode cqNe_gatherStaff 36 = .ok (.iload 5, 2) := by decide +kernel
theorem dqNe_gatherStaff_38 : decode cqNe_gatherStaff 38 = .ok (.invokevirtual 62, 3) := by decide +kernel
theorem dqNe_gatherStaff_41 : decode cqNe_gatherStaff 41 = .ok (.iadd, 1) := by decide +kernel
theorem dqNe_gatherStaff_42 : decode cqNe_gatherStaff 42 = .ok (.istore 6, 2) := by decide +kernel
theorem dqNe_gatherStaff_44 : decode cqNe_gatherStaff 44 = .ok (.aload_n 0, 1) := by decide +kernel
theorem dqNe_gatherStaff_45 : decode cqNe_gatherStaff 45 = .ok (.iload 4, 2) := by decide +kernel
theorem dqNe_gatherStaff_47 : decode cqNe_gatherStaff 47 = .ok (.iload 5, 2) := by decide +kernel
theorem dqNe_gatherStaff_49 : decode cqNe_gatherStaff 49 = .ok (.iload 6, 2) := by decide +kernel
theorem dqNe_gatherStaff_51 : decode cqNe_gatherStaff 51 = .ok (.invokevirtual 49, 3) := by decide +kernel
theorem dqNe_gatherStaff_54 : decode cqNe_gatherStaff 54 = .ok (.iload 5, 2) := by decide +kernel
theorem dqNe_gatherStaff_56 : decode cqNe_gatherStaff 56 = .ok (.istore 4, 2) := by decide +kernel
theorem dqNe_gatherStaff_58 : decode cqNe_gatherStaff 58 = .ok (.iinc 5 1, 3) := by decide +kernel
theorem dqNe_gatherStaff_61 : decode cqNe_gatherStaff 61 = .ok (.goto (-55), 3) := by decide +kernel
theorem dqNe_gatherStaff_64 : decode cqNe_gatherStaff 64 = .ok (.return_, 1) := by decide +kernel
theorem dqNe_note_0 : decode cqNe_note 0 = .ok (.aload_n 0, 1) := by decide +kernel
theorem dqNe_note_1 : decode cqNe_note 1 = .ok (.getfield 21, 3) := by decide +kernel
theorem dqNe_note_4 : decode cqNe_note 4 = .ok (.bipush 112, 2) := by decide +kernel
theorem dqNe_note_6 : decode cqNe_note 6 = .ok (.if_icmp .ge 43, 3) := by decide +kernel
theorem dqNe_note_9 : decode cqNe_note 9 = .ok (.aload_n 0, 1) := by decide +kernel
theorem dqNe_note_10 : decode cqNe_note 10 = .ok (.getfield 9, 3) := by decide +kernel
theorem dqNe_note_13 : decode cqNe_note 13 = .ok (.aload_n 0, 1) := by decide +kernel
theorem dqNe_note_14 : decode cqNe_note 14 = .ok (.getfield 21, 3) := by decide +kernel
theorem dqNe_note_17 : decode cqNe_note 17 = .ok (.iload_n 1, 1) := by decide +kernel
theorem dqNe_note_18 : decode cqNe_note 18 = .ok (.iastore, 1) := by decide +kernel
theorem dqNe_note_19 : decode cqNe_note 19 = .ok (.aload_n 0, 1) := by decide +kernel
theorem dqNe_note_20 : decode cqNe_note 20 = .ok (.getfield 15, 3) := by decide +kernel
theorem dqNe_note_23 : decode cqNe_note 23 = .ok (.aload_n 0, 1) := by decide +kernel
theorem dqNe_note_24 : decode cqNe_note 24 = .ok (.getfield 21, 3) := by decide +kernel
theorem dqNe_note_27 : decode cqNe_note 27 = .ok (.iload_n 2, 1) := by decide +kernel
theorem dqNe_note_28 : decode cqNe_note 28 = .ok (.iastore, 1) := by decide +kernel
theorem dqNe_note_29 : decode cqNe_note 29 = .ok (.aload_n 0, 1) := by decide +kernel
theorem dqNe_note_30 : decode cqNe_note 30 = .ok (.getfield 18, 3) := by decide +kernel
theorem dqNe_note_33 : decode cqNe_note 33 = .ok (.aload_n 0, 1) := by decide +kernel
theorem dqNe_note_34 : decode cqNe_note 34 = .ok (.getfield 21, 3) := by decide +kernel
theorem dqNe_note_37 : decode cqNe_note 37 = .ok (.iload_n 3, 1) := by decide +kernel
theorem dqNe_note_38 : decode cqNe_note 38 = .ok (.iastore, 1) := by decide +kernel
theorem dqNe_note_39 : decode cqNe_note 39 = .ok (.aload_n 0, 1) := by decide +kernel
theorem dqNe_note_40 : decode cqNe_note 40 = .ok (.dup, 1) := by decide +kernel
theorem dqNe_note_41 : decode cqNe_note 41 = .ok (.getfield 21, 3) := by decide +kernel
theorem dqNe_note_44 : decode cqNe_note 44 = .ok (.iconst 1, 1) := by decide +kernel
theorem dqNe_note_45 : decode cqNe_note 45 = .ok (.iadd, 1) := by decide +kernel
theorem dqNe_note_46 : decode cqNe_note 46 = .ok (.putfield 21, 3) := by decide +kernel
theorem dqNe_note_49 : decode cqNe_note 49 = .ok (.return_, 1) := by decide +kernel
theorem dqNe_size_0 : decode cqNe_size 0 = .ok (.aload_n 0, 1) := by decide +kernel
theorem dqNe_size_1 : decode cqNe_size 1 = .ok (.getfield 21, 3) := by decide +kernel
theorem dqNe_size_4 : decode cqNe_size 4 = .ok (.ireturn, 1) := by decide +kernel
theorem dqNe_fromOf_0 : decode cqNe_fromOf 0 = .ok (.aload_n 0, 1) := by decide +kernel
theorem dqNe_fromOf_1 : decode cqNe_fromOf 1 = .ok (.getfield 9, 3) := by decide +kernel
theorem dqNe_fromOf_4 : decode cqNe_fromOf 4 = .ok (.iload_n 1, 1) := by decide +kernel
theorem dqNe_fromOf_5 : decode cqNe_fromOf 5 = .ok (.iaload, 1) := by decide +kernel
theorem dqNe_fromOf_6 : decode cqNe_fromOf 6 = .ok (.ireturn, 1) := by decide +kernel
theorem dqNe_toOf_0 : decode cqNe_toOf 0 = .ok (.aload_n 0, 1) := by decide +kernel
theorem dqNe_toOf_1 : decode cqNe_toOf 1 = .ok (.getfield 15, 3) := by decide +kernel
theorem dqNe_toOf_4 : decode cqNe_toOf 4 = .ok (.iload_n 1, 1) := by decide +kernel
theorem dqNe_toOf_5 : decode cqNe_toOf 5 = .ok (.iaload, 1) := by decide +kernel
theorem dqNe_toOf_6 : decode cqNe_toOf 6 = .ok (.ireturn, 1) := by decide +kernel
theorem dqNe_widthOf_0 : decode cqNe_widthOf 0 = .ok (.aload_n 0, 1) := by decide +kernel
theorem dqNe_widthOf_1 : decode cqNe_widthOf 1 = .ok (.getfield 18, 3) := by decide +kernel
theorem dqNe_widthOf_4 : decode cqNe_widthOf 4 = .ok (.iload_n 1, 1) := by decide +kernel
theorem dqNe_widthOf_5 : decode cqNe_widthOf 5 = .ok (.iaload, 1) := by decide +kernel
theorem dqNe_widthOf_6 : decode cqNe_widthOf 6 = .ok (.ireturn, 1) := by decide +kernel
theorem dqRo_init_0 : decode cqRo_init 0 = .ok (.aload_n 0, 1) := by decide +kernel
theorem dqRo_init_1 : decode cqRo_init 1 = .ok (.invokespecial 3, 3) := by decide +kernel
theorem dqRo_init_4 : decode cqRo_init 4 = .ok (.aload_n 0, 1) := by decide +kernel
theorem dqRo_init_5 : decode cqRo_init 5 = .ok (.bipush 20, 2) := by decide +kernel
theorem dqRo_init_7 : decode cqRo_init 7 = .ok (.newarray .boolean, 2) := by decide +kernel
theorem dqRo_init_9 : decode cqRo_init 9 = .ok (.putfield 9, 3) := by decide +kernel
theorem dqRo_init_12 : decode cqRo_init 12 = .ok (.aload_n 0, 1) := by decide +kernel
theorem dqRo_init_13 : decode cqRo_init 13 = .ok (.bipush 20, 2) := by decide +kernel
theorem dqRo_init_15 : decode cqRo_init 15 = .ok (.newarray .int, 2) := by decide +kernel
theorem dqRo_init_17 : decode cqRo_init 17 = .ok (.putfield 15, 3) := by decide +kernel
theorem dqRo_init_20 : decode cqRo_init 20 = .ok (.aload_n 0, 1) := by decide +kernel
theorem dqRo_init_21 : decode cqRo_init 21 = .ok (.bipush 20, 2) := by decide +kernel
theorem dqRo_init_23 : decode cqRo_init 23 = .ok (.newarray .int, 2) := by decide +kernel
theorem dqRo_init_25 : decode cqRo_init 25 = .ok (.putfield 19, 3) := by decide +kernel
theorem dqRo_init_28 : decode cqRo_init 28 = .ok (.aload_n 0, 1) := by decide +kernel
theorem dqRo_init_29 : decode cqRo_init 29 = .ok (.bipush 20, 2) := by decide +kernel
theorem dqRo_init_31 : decode cqRo_init 31 = .ok (.newarray .int, 2) := by decide +kernel
theorem dqRo_init_33 : decode cqRo_init 33 = .ok (.putfield 22, 3) := by decide +kernel
theorem dqRo_init_36 : decode cqRo_init 36 = .ok (.aload_n 0, 1) := by decide +kernel
theorem dqRo_init_37 : decode cqRo_init 37 = .ok (.iconst 0, 1) := by decide +kernel
theorem dqRo_init_38 : decode cqRo_init 38 = .ok (.putfield 25, 3) := by decide +kernel
theorem dqRo_init_41 : decode cqRo_init 41 = .ok (.aload_n 0, 1) := by decide +kernel
theorem dqRo_init_42 : decode cqRo_init 42 = .ok (.iconst 0, 1) := by decide +kernel
theorem dqRo_init_43 : decode cqRo_init 43 = .ok (.putfield 29, 3) := by decide +kernel
theorem dqRo_init_46 : decode cqRo_init 46 = .ok (.return_, 1) := by decide +kernel
theorem dqRo_areUsedUp_0 : decode cqRo_areUsedUp 0 = .ok (.aload_n 0, 1) := by decide +kernel
theorem dqRo_areUsedUp_1 : decode cqRo_areUsedUp 1 = .ok (.getfield 25, 3) := by decide +kernel
theorem dqRo_areUsedUp_4 : decode cqRo_areUsedUp 4 = .ok (.bipush 20, 2) := by decide +kernel
theorem dqRo_areUsedUp_6 : decode cqRo_areUsedUp 6 = .ok (.if_icmp .lt 7, 3) := by decide +kernel
theorem dqRo_areUsedUp_9 : decode cqRo_areUsedUp 9 = .ok (.iconst 1, 1) := by decide +kernel
theorem dqRo_areUsedUp_10 : decode cqRo_areUsedUp 10 = .ok (.goto 4, 3) := by decide +kernel
theorem dqRo_areUsedUp_13 : decode cqRo_areUsedUp 13 = .ok (.iconst 0, 1) := by decide +kernel
theorem dqRo_areUsedUp_14 : decode cqRo_areUsedUp 14 = .ok (.ireturn, 1) := by decide +kernel
theorem dqRo_numbersGiven_0 : decode cqRo_numbersGiven 0 = .ok (.aload_n 0, 1) := by decide +kernel
theorem dqRo_numbersGiven_1 : decode cqRo_numbersGiven 1 = .ok (.getfield 25, 3) := by decide +kernel
theorem dqRo_numbersGiven_4 : decode cqRo_numbersGiven 4 = .ok (.ireturn, 1) := by decide +kernel
theorem dqRo_have_0 : decode cqRo_have 0 = .ok (.iload_n 1, 1) := by decide +kernel
theorem dqRo_have_1 : decode cqRo_have 1 = .ok (.iconst 0, 1) := by decide +kernel
theorem dqRo_have_2 : decode cqRo_have 2 = .ok (.aload_n 0, 1) := by decide +kernel
theorem dqRo_have_3 : decode cqRo_have 3 = .ok (.getfield 25, 3) := by decide +kernel
theorem dqRo_have_6 : decode cqRo_have 6 = .ok (.iconst 1, 1) := by decide +kernel
theorem dqRo_have_7 : decode cqRo_have 7 = .ok (.isub, 1) := by decide +kernel
theorem dqRo_have_8 : decode cqRo_have 8 = .ok (.invokestatic 32, 3) := by decide +kernel
theorem dqRo_have_11 : decode cqRo_have 11 = .ok (.ifCond .eq 16, 3) := by decide +kernel
theorem dqRo_have_14 : decode cqRo_have 14 = .ok (.aload_n 0, 1) := by decide +kernel
theorem dqRo_have_15 : decode cqRo_have 15 = .ok (.getfield 9, 3) := by decide +kernel
theorem dqRo_have_18 : decode cqRo_have 18 = .ok (.iload_n 1, 1) := by decide +kernel
theorem dqRo_have_19 : decode cqRo_have 19 = .ok (.baload, 1) := by decide +kernel
theorem dqRo_have_20 : decode cqRo_have 20 = .ok (.ifCond .eq 7, 3) := by decide +kernel
theorem dqRo_have_23 : decode cqRo_have 23 = .ok (.iconst 1, 1) := by decide +kernel
theorem dqRo_have_24 : decode cqRo_have 24 = .ok (.goto 4, 3) := by decide +kernel
theorem dqRo_have_27 : decode cqRo_have 27 = .ok (.iconst 0, 1) := by decide +kernel
theorem dqRo_have_28 : decode cqRo_have 28 = .ok (.ireturn, 1) := by decide +kernel
theorem dqRo_put_0 : decode cqRo_put 0 = .ok (.aload_n 0, 1) := by decide +kernel
theorem dqRo_put_1 : decode cqRo_put 1 = .ok (.getfield 25, 3) := by decide +kernel
theorem dqRo_put_4 : decode cqRo_put 4 = .ok (.istore 4, 2) := by decide +kernel
theorem dqRo_put_6 : decode cqRo_put 6 = .ok (.aload_n 0, 1) := by decide +kernel
theorem dqRo_put_7 : decode cqRo_put 7 = .ok (.getfield 9, 3) := by decide +kernel
theorem dqRo_put_10 : decode cqRo_put 10 = .ok (.iload 4, 2) := by decide +kernel
theorem dqRo_put_12 : decode cqRo_put 12 = .ok (.iconst 1, 1) := by decide +kernel
theorem dqRo_put_13 : decode cqRo_put 13 = .ok (.bastore, 1) := by decide +kernel
theorem dqRo_put_14 : decode cqRo_put 14 = .ok (.aload_n 0, 1) := by decide +kernel
theorem dqRo_put_15 : decode cqRo_put 15 = .ok (.getfield 15, 3) := by decide +kernel
theorem dqRo_put_18 : decode cqRo_put 18 = .ok (.iload 4, 2) := by decide +kernel
theorem dqRo_put_20 : decode cqRo_put 20 = .ok (.iload_n 1, 1) := by decide +kernel
theorem dqRo_put_21 : decode cqRo_put 21 = .ok (.iastore, 1) := by decide +kernel
theorem dqRo_put_22 : decode cqRo_put 22 = .ok (.aload_n 0, 1) := by decide +kernel
theorem dqRo_put_23 : decode cqRo_put 23 = .ok (.getfield 19, 3) := by decide +kernel
theorem dqRo_put_26 : decode cqRo_put 26 = .ok (.iload 4, 2) := by decide +kernel
theorem dqRo_put_28 : decode cqRo_put 28 = .ok (.iload_n 2, 1) := by decide +kernel
theorem dqRo_put_29 : decode cqRo_put 29 = .ok (.iastore, 1) := by decide +kernel
theorem dqRo_put_30 : decode cqRo_put 30 = .ok (.aload_n 0, 1) := by decide +kernel
theorem dqRo_put_31 : decode cqRo_put 31 = .ok (.getfield 22, 3) := by decide +kernel
theorem dqRo_put_34 : decode cqRo_put 34 = .ok (.iload 4, 2) := by decide +kernel
theorem dqRo_put_36 : decode cqRo_put 36 = .ok (.iload_n 3, 1) := by decide +kernel
theorem dqRo_put_37 : decode cqRo_put 37 = .ok (.iastore, 1) := by decide +kernel
theorem dqRo_put_38 : decode cqRo_put 38 = .ok (.aload_n 0, 1) := by decide +kernel
theorem dqRo_put_39 : decode cqRo_put 39 = .ok (.dup, 1) := by decide +kernel
theorem dqRo_put_40 : decode cqRo_put 40 = .ok (.getfield 25, 3) := by decide +kernel
theorem dqRo_put_43 : decode cqRo_put 43 = .ok (.iconst 1, 1) := by decide +kernel
theorem dqRo_put_44 : decode cqRo_put 44 = .ok (.iadd, 1) := by decide +kernel
theorem dqRo_put_45 : decode cqRo_put 45 = .ok (.putfield 25, 3) := by decide +kernel
theorem dqRo_put_48 : decode cqRo_put 48 = .ok (.aload_n 0, 1) := by decide +kernel
theorem dqRo_put_49 : decode cqRo_put 49 = .ok (.dup, 1) := by decide +kernel
theorem dqRo_put_50 : decode cqRo_put 50 = .ok (.getfield 29, 3) := by decide +kernel
theorem dqRo_put_53 : decode cqRo_put 53 = .ok (.iconst 1, 1) := by decide +kernel
theorem dqRo_put_54 : decode cqRo_put 54 = .ok (.iadd, 1) := by decide +kernel
theorem dqRo_put_55 : decode cqRo_put 55 = .ok (.putfield 29, 3) := by decide +kernel
theorem dqRo_put_58 : decode cqRo_put 58 = .ok (.iload 4, 2) := by decide +kernel
theorem dqRo_put_60 : decode cqRo_put 60 = .ok (.ireturn, 1) := by decide +kernel
theorem dqRo_take_0 : decode cqRo_take 0 = .ok (.aload_n 0, 1) := by decide +kernel
theorem dqRo_take_1 : decode cqRo_take 1 = .ok (.getfield 9, 3) := by decide +kernel
theorem dqRo_take_4 : decode cqRo_take 4 = .ok (.iload_n 1, 1) := by decide +kernel
theorem dqRo_take_5 : decode cqRo_take 5 = .ok (.iconst 0, 1) := by decide +kernel
theorem dqRo_take_6 : decode cqRo_take 6 = .ok (.bastore, 1) := by decide +kernel
theorem dqRo_take_7 : decode cqRo_take 7 = .ok (.aload_n 0, 1) := by decide +kernel
theorem dqRo_take_8 : decode cqRo_take 8 = .ok (.dup, 1) := by decide +kernel
theorem dqRo_take_9 : decode cqRo_take 9 = .ok (.getfield 29, 3) := by decide +kernel
theorem dqRo_take_12 : decode cqRo_take 12 = .ok (.iconst 1, 1) := by decide +kernel
theorem dqRo_take_13 : decode cqRo_take 13 = .ok (.isub, 1) := by decide +kernel
theorem dqRo_take_14 : decode cqRo_take 14 = .ok (.putfield 29, 3) := by decide +kernel
theorem dqRo_take_17 : decode cqRo_take 17 = .ok (.aload_n 0, 1) := by decide +kernel
theorem dqRo_take_18 : decode cqRo_take 18 = .ok (.getfield 29, 3) := by decide +kernel
theorem dqRo_take_21 : decode cqRo_take 21 = .ok (.ireturn, 1) := by decide +kernel
theorem dqRo_takeAll_0 : decode cqRo_takeAll 0 = .ok (.iconst 0, 1) := by decide +kernel
theorem dqRo_takeAll_1 : decode cqRo_takeAll 1 = .ok (.istore_n 1, 1) := by decide +kernel
theorem dqRo_takeAll_2 : decode cqRo_takeAll 2 = .ok (.iload_n 1, 1) := by decide +kernel
theorem dqRo_takeAll_3 : decode cqRo_takeAll 3 = .ok (.aload_n 0, 1) := by decide +kernel
theorem dqRo_takeAll_4 : decode cqRo_takeAll 4 = .ok (.getfield 25, 3) := by decide +kernel
theorem dqRo_takeAll_7 : decode cqRo_takeAll 7 = .ok (.if_icmp .ge 16, 3) := by decide +kernel
theorem dqRo_takeAll_10 : decode cqRo_takeAll 10 = .ok (.aload_n 0, 1) := by decide +kernel
theorem dqRo_takeAll_11 : decode cqRo_takeAll 11 = .ok (.getfield 9, 3) := by decide +kernel
theorem dqRo_takeAll_14 : decode cqRo_takeAll 14 = .ok (.iload_n 1, 1) := by decide +kernel
theorem dqRo_takeAll_15 : decode cqRo_takeAll 15 = .ok (.iconst 0, 1) := by decide +kernel
theorem dqRo_takeAll_16 : decode cqRo_takeAll 16 = .ok (.bastore, 1) := by decide +kernel
theorem dqRo_takeAll_17 : decode cqRo_takeAll 17 = .ok (.iinc 1 1, 3) := by decide +kernel
theorem dqRo_takeAll_20 : decode cqRo_takeAll 20 = .ok (.goto (-18), 3) := by decide +kernel
theorem dqRo_takeAll_23 : decode cqRo_takeAll 23 = .ok (.aload_n 0, 1) := by decide +kernel
theorem dqRo_takeAll_24 : decode cqRo_takeAll 24 = .ok (.iconst 0, 1) := by decide +kernel
theorem dqRo_takeAll_25 : decode cqRo_takeAll 25 = .ok (.putfield 29, 3) := by decide +kernel
theorem dqRo_takeAll_28 : decode cqRo_takeAll 28 = .ok (.return_, 1) := by decide +kernel
theorem dqRo_fromOf_0 : decode cqRo_fromOf 0 = .ok (.aload_n 0, 1) := by decide +kernel
theorem dqRo_fromOf_1 : decode cqRo_fromOf 1 = .ok (.getfield 15, 3) := by decide +kernel
theorem dqRo_fromOf_4 : decode cqRo_fromOf 4 = .ok (.iload_n 1, 1) := by decide +kernel
theorem dqRo_fromOf_5 : decode cqRo_fromOf 5 = .ok (.iaload, 1) := by decide +kernel
theorem dqRo_fromOf_6 : decode cqRo_fromOf 6 = .ok (.ireturn, 1) := by decide +kernel
theorem dqRo_toOf_0 : decode cqRo_toOf 0 = .ok (.aload_n 0, 1) := by decide +kernel
theorem dqRo_toOf_1 : decode cqRo_toOf 1 = .ok (.getfield 19, 3) := by decide +kernel
theorem dqRo_toOf_4 : decode cqRo_toOf 4 = .ok (.iload_n 1, 1) := by decide +kernel
theorem dqRo_toOf_5 : decode cqRo_toOf 5 = .ok (.iaload, 1) := by decide +kernel
theorem dqRo_toOf_6 : decode cqRo_toOf 6 = .ok (.ireturn, 1) := by decide +kernel
theorem dqRo_widthOf_0 : decode cqRo_widthOf 0 = .ok (.aload_n 0, 1) := by decide +kernel
theorem dqRo_widthOf_1 : decode cqRo_widthOf 1 = .ok (.getfield 22, 3) := by decide +kernel
theorem dqRo_widthOf_4 : decode cqRo_widthOf 4 = .ok (.iload_n 1, 1) := by decide +kernel
theorem dqRo_widthOf_5 : decode cqRo_widthOf 5 = .ok (.iaload, 1) := by decide +kernel
theorem dqRo_widthOf_6 : decode cqRo_widthOf 6 = .ok (.ireturn, 1) := by decide +kernel
end
section
theorem dqL_law_0 : decode cqL_law 0 = .ok (.new 7, 3) := by decide +kernel
theorem dqL_law_3 : decode cqL_law 3 = .ok (.dup, 1) := by decide +kernel
theorem dqL_law_4 : decode cqL_law 4 = .ok (.invokespecial 9, 3) := by decide +kernel
theorem dqL_law_7 : decode cqL_law 7 = .ok (.astore_n 1, 1) := by decide +kernel
theorem dqL_law_8 : decode cqL_law 8 = .ok (.new 10, 3) := by decide +kernel
theorem dqL_law_11 : decode cqL_law 11 = .ok (.dup, 1) := by decide +kernel
theorem dqL_law_12 : decode cqL_law 12 = .ok (.invokespecial 12, 3) := by decide +kernel
theorem dqL_law_15 : decode cqL_law 15 = .ok (.astore_n 2, 1) := by decide +kernel
theorem dqL_law_16 : decode cqL_law 16 = .ok (.iconst 0, 1) := by decide +kernel
theorem dqL_law_17 : decode cqL_law 17 = .ok (.istore_n 3, 1) := by decide +kernel
theorem dqL_law_18 : decode cqL_law 18 = .ok (.iload_n 3, 1) := by decide +kernel
theorem dqL_law_19 : decode cqL_law 19 = .ok (.aload_n 0, 1) := by decide +kernel
theorem dqL_law_20 : decode cqL_law 20 = .ok (.arraylength, 1) := by decide +kernel
theorem dqL_law_21 : decode cqL_law 21 = .ok (.iconst 5, 1) := by decide +kernel
theorem dqL_law_22 : decode cqL_law 22 = .ok (.isub, 1) := by decide +kernel
theorem dqL_law_23 : decode cqL_law 23 = .ok (.if_icmp .gt 745, 3) := by decide +kernel
theorem dqL_law_26 : decode cqL_law 26 = .ok (.aload_n 0, 1) := by decide +kernel
theorem dqL_law_27 : decode cqL_law 27 = .ok (.iload_n 3, 1) := by decide +kernel
theorem dqL_law_28 : decode cqL_law 28 = .ok (.iaload, 1) := by decide +kernel
theorem dqL_law_29 : decode cqL_law 29 = .ok (.bipush 31, 2) := by decide +kernel
theorem dqL_law_31 : decode cqL_law 31 = .ok (.iand, 1) := by decide +kernel
theorem dqL_law_32 : decode cqL_law 32 = .ok (.tableswitch 730 0 21 #[104, 137, 160, 173, 197, 230, 283, 316, 359, 382, 431, 454, 497, 510, 534, 568, 591, 614, 637, 660, 683, 697], 104) := by decide +kernel
theorem dqL_law_136 : decode cqL_law 136 = .ok (.aload_n 1, 1) := by decide +kernel
theorem dqL_law_137 : decode cqL_law 137 = .ok (.aload_n 0, 1) := by decide +kernel
theorem dqL_law_138 : decode cqL_law 138 = .ok (.iload_n 3, 1) := by decide +kernel
theorem dqL_law_139 : decode cqL_law 139 = .ok (.iconst 1, 1) := by decide +kernel
theorem dqL_law_140 : decode cqL_law 140 = .ok (.iadd, 1) := by decide +kernel
theorem dqL_law_141 : decode cqL_law 141 = .ok (.iaload, 1) := by decide +kernel
theorem dqL_law_142 : decode cqL_law 142 = .ok (.aload_n 0, 1) := by decide +kernel
theorem dqL_law_143 : decode cqL_law 143 = .ok (.iload_n 3, 1) := by decide +kernel
theorem dqL_law_144 : decode cqL_law 144 = .ok (.iconst 2, 1) := by decide +kernel
theorem dqL_law_145 : decode cqL_law 145 = .ok (.iadd, 1) := by decide +kernel
theorem dqL_law_146 : decode cqL_law 146 = .ok (.iaload, 1) := by decide +kernel
theorem dqL_law_147 : decode cqL_law 147 = .ok (.invokevirtual 13, 3) := by decide +kernel
theorem dqL_law_150 : decode cqL_law 150 = .ok (.aload_n 2, 1) := by decide +kernel
theorem dqL_law_151 : decode cqL_law 151 = .ok (.aload_n 0, 1) := by decide +kernel
theorem dqL_law_152 : decode cqL_law 152 = .ok (.iload_n 3, 1) := by decide +kernel
theorem dqL_law_153 : decode cqL_law 153 = .ok (.iconst 1, 1) := by decide +kernel
theorem dqL_law_154 : decode cqL_law 154 = .ok (.iadd, 1) := by decide +kernel
theorem dqL_law_155 : decode cqL_law 155 = .ok (.iaload, 1) := by decide +kernel
theorem dqL_law_156 : decode cqL_law 156 = .ok (.aload_n 0, 1) := by decide +kernel
theorem dqL_law_157 : decode cqL_law 157 = .ok (.iload_n 3, 1) := by decide +kernel
theorem dqL_law_158 : decode cqL_law 158 = .ok (.iconst 2, 1) := by decide +kernel
theorem dqL_law_159 : decode cqL_law 159 = .ok (.iadd, 1) := by decide +kernel
theorem dqL_law_160 : decode cqL_law 160 = .ok (.iaload, 1) := by decide +kernel
theorem dqL_law_161 : decode cqL_law 161 = .ok (.invokevirtual 17, 3) := by decide +kernel
theorem dqL_law_164 : decode cqL_law 164 = .ok (.if_icmp .eq 598, 3) := by decide +kernel
theorem dqL_law_167 : decode cqL_law 167 = .ok (.iconst 0, 1) := by decide +kernel
theorem dqL_law_168 : decode cqL_law 168 = .ok (.ireturn, 1) := by decide +kernel
theorem dqL_law_169 : decode cqL_law 169 = .ok (.aload_n 1, 1) := by decide +kernel
theorem dqL_law_170 : decode cqL_law 170 = .ok (.aload_n 0, 1) := by decide +kernel
theorem dqL_law_171 : decode cqL_law 171 = .ok (.iload_n 3, 1) := by decide +kernel
theorem dqL_law_172 : decode cqL_law 172 = .ok (.iconst 1, 1) := by decide +kernel
theorem dqL_law_173 : decode cqL_law 173 = .ok (.iadd, 1) := by decide +kernel
theorem dqL_law_174 : decode cqL_law 174 = .ok (.iaload, 1) := by decide +kernel
theorem dqL_law_175 : decode cqL_law 175 = .ok (.invokevirtual 18, 3) := by decide +kernel
theorem dqL_law_178 : decode cqL_law 178 = .ok (.aload_n 2, 1) := by decide +kernel
theorem dqL_law_179 : decode cqL_law 179 = .ok (.aload_n 0, 1) := by decide +kernel
theorem dqL_law_180 : decode cqL_law 180 = .ok (.iload_n 3, 1) := by decide +kernel
theorem dqL_law_181 : decode cqL_law 181 = .ok (.iconst 1, 1) := by decide +kernel
theorem dqL_law_182 : decode cqL_law 182 = .ok (.iadd, 1) := by decide +kernel
theorem dqL_law_183 : decode cqL_law 183 = .ok (.iaload, 1) := by decide +kernel
theorem dqL_law_184 : decode cqL_law 184 = .ok (.invokevirtual 22, 3) := by decide +kernel
theorem dqL_law_187 : decode cqL_law 187 = .ok (.if_icmp .eq 575, 3) := by decide +kernel
theorem dqL_law_190 : decode cqL_law 190 = .ok (.iconst 0, 1) := by decide +kernel
theorem dqL_law_191 : decode cqL_law 191 = .ok (.ireturn, 1) := by decide +kernel
theorem dqL_law_192 : decode cqL_law 192 = .ok (.aload_n 1, 1) := by decide +kernel
theorem dqL_law_193 : decode cqL_law 193 = .ok (.invokevirtual 23, 3) := by decide +kernel
theorem dqL_law_196 : decode cqL_law 196 = .ok (.aload_n 2, 1) := by decide +kernel
theorem dqL_law_197 : decode cqL_law 197 = .ok (.invokevirtual 27, 3) := by decide +kernel
theorem dqL_law_200 : decode cqL_law 200 = .ok (.if_icmp .eq 562, 3) := by decide +kernel
theorem dqL_law_203 : decode cqL_law 203 = .ok (.iconst 0, 1) := by decide +kernel
theorem dqL_law_204 : decode cqL_law 204 = .ok (.ireturn, 1) := by decide +kernel
theorem dqL_law_205 : decode cqL_law 205 = .ok (.aload_n 1, 1) := by decide +kernel
theorem dqL_law_206 : decode cqL_law 206 = .ok (.aload_n 0, 1) := by decide +kernel
theorem dqL_law_207 : decode cqL_law 207 = .ok (.iload_n 3, 1) := by decide +kernel
theorem dqL_law_208 : decode cqL_law 208 = .ok (.iconst 1, 1) := by decide +kernel
theorem dqL_law_209 : decode cqL_law 209 = .ok (.iadd, 1) := by decide +kernel
theorem dqL_law_210 : decode cqL_law 210 = .ok (.iaload, 1) := by decide +kernel
theorem dqL_law_211 : decode cqL_law 211 = .ok (.invokevirtual 28, 3) := by decide +kernel
theorem dqL_law_214 : decode cqL_law 214 = .ok (.aload_n 2, 1) := by decide +kernel
theorem dqL_law_215 : decode cqL_law 215 = .ok (.aload_n 0, 1) := by decide +kernel
theorem dqL_law_216 : decode cqL_law 216 = .ok (.iload_n 3, 1) := by decide +kernel
theorem dqL_law_217 : decode cqL_law 217 = .ok (.iconst 1, 1) := by decide +kernel
theorem dqL_law_218 : decode cqL_law 218 = .ok (.iadd, 1) := by decide +kernel
theorem dqL_law_219 : decode cqL_law 219 = .ok (.iaload, 1) := by decide +kernel
theorem dqL_law_220 : decode cqL_law 220 = .ok (.invokevirtual 32, 3) := by decide +kernel
theorem dqL_law_223 : decode cqL_law 223 = .ok (.lcmp, 1) := by decide +kernel
theorem dqL_law_224 : decode cqL_law 224 = .ok (.ifCond .eq 538, 3) := by decide +kernel
theorem dqL_law_227 : decode cqL_law 227 = .ok (.iconst 0, 1) := by decide +kernel
theorem dqL_law_228 : decode cqL_law 228 = .ok (.ireturn, 1) := by decide +kernel
theorem dqL_law_229 : decode cqL_law 229 = .ok (.aload_n 1, 1) := by decide +kernel
theorem dqL_law_230 : decode cqL_law 230 = .ok (.aload_n 0, 1) := by decide +kernel
theorem dqL_law_231 : decode cqL_law 231 = .ok (.iload_n 3, 1) := by decide +kernel
theorem dqL_law_232 : decode cqL_law 232 = .ok (.iconst 1, 1) := by decide +kernel
theorem dqL_law_233 : decode cqL_law 233 = .ok (.iadd, 1) := by decide +kernel
theorem dqL_law_234 : decode cqL_law 234 = .ok (.iaload, 1) := by decide +kernel
theorem dqL_law_235 : decode cqL_law 235 = .ok (.aload_n 0, 1) := by decide +kernel
theorem dqL_law_236 : decode cqL_law 236 = .ok (.iload_n 3, 1) := by decide +kernel
theorem dqL_law_237 : decode cqL_law 237 = .ok (.iconst 2, 1) := by decide +kernel
theorem dqL_law_238 : decode cqL_law 238 = .ok (.iadd, 1) := by decide +kernel
theorem dqL_law_239 : decode cqL_law 239 = .ok (.iaload, 1) := by decide +kernel
theorem dqL_law_240 : decode cqL_law 240 = .ok (.invokevirtual 33, 3) := by decide +kernel
theorem dqL_law_243 : decode cqL_law 243 = .ok (.aload_n 2, 1) := by decide +kernel
theorem dqL_law_244 : decode cqL_law 244 = .ok (.aload_n 0, 1) := by decide +kernel
theorem dqL_law_245 : decode cqL_law 245 = .ok (.iload_n 3, 1) := by decide +kernel
theorem dqL_law_246 : decode cqL_law 246 = .ok (.iconst 1, 1) := by decide +kernel
theorem dqL_law_247 : decode cqL_law 247 = .ok (.iadd, 1) := by decide +kernel
theorem dqL_law_248 : decode cqL_law 248 = .ok (.iaload, 1) := by decide +kernel
theorem dqL_law_249 : decode cqL_law 249 = .ok (.aload_n 0, 1) := by decide +kernel
theorem dqL_law_250 : decode cqL_law 250 = .ok (.iload_n 3, 1) := by decide +kernel
theorem dqL_law_251 : decode cqL_law 251 = .ok (.iconst 2, 1) := by decide +kernel
theorem dqL_law_252 : decode cqL_law 252 = .ok (.iadd, 1) := by decide +kernel
theorem dqL_law_253 : decode cqL_law 253 = .ok (.iaload, 1) := by decide +kernel
theorem dqL_law_254 : decode cqL_law 254 = .ok (.invokevirtual 36, 3) := by decide +kernel
theorem dqL_law_257 : decode cqL_law 257 = .ok (.if_icmp .eq 505, 3) := by decide +kernel
theorem dqL_law_260 : decode cqL_law 260 = .ok (.iconst 0, 1) := by decide +kernel
theorem dqL_law_261 : decode cqL_law 261 = .ok (.ireturn, 1) := by decide +kernel
theorem dqL_law_262 : decode cqL_law 262 = .ok (.aload_n 1, 1) := by decide +kernel
theorem dqL_law_263 : decode cqL_law 263 = .ok (.aload_n 0, 1) := by decide +kernel
theorem dqL_law_264 : decode cqL_law 264 = .ok (.iload_n 3, 1) := by decide +kernel
theorem dqL_law_265 : decode cqL_law 265 = .ok (.iconst 1, 1) := by decide +kernel
theorem dqL_law_266 : decode cqL_law 266 = .ok (.iadd, 1) := by decide +kernel
theorem dqL_law_267 : decode cqL_law 267 = .ok (.iaload, 1) := by decide +kernel
theorem dqL_law_268 : decode cqL_law 268 = .ok (.aload_n 0, 1) := by decide +kernel
theorem dqL_law_269 : decode cqL_law 269 = .ok (.iload_n 3, 1) := by decide +kernel
theorem dqL_law_270 : decode cqL_law 270 = .ok (.iconst 2, 1) := by decide +kernel
theorem dqL_law_271 : decode cqL_law 271 = .ok (.iadd, 1) := by decide +kernel
theorem dqL_law_272 : decode cqL_law 272 = .ok (.iaload, 1) := by decide +kernel
theorem dqL_law_273 : decode cqL_law 273 = .ok (.aload_n 0, 1) := by decide +kernel
theorem dqL_law_274 : decode cqL_law 274 = .ok (.iload_n 3, 1) := by decide +kernel
theorem dqL_law_275 : decode cqL_law 275 = .ok (.iconst 3, 1) := by decide +kernel
theorem dqL_law_276 : decode cqL_law 276 = .ok (.iadd, 1) := by decide +kernel
theorem dqL_law_277 : decode cqL_law 277 = .ok (.iaload, 1) := by decide +kernel
theorem dqL_law_278 : decode cqL_law 278 = .ok (.aload_n 0, 1) := by decide +kernel
theorem dqL_law_279 : decode cqL_law 279 = .ok (.iload_n 3, 1) := by decide +kernel
theorem dqL_law_280 : decode cqL_law 280 = .ok (.iconst 4, 1) := by decide +kernel
theorem dqL_law_281 : decode cqL_law 281 = .ok (.iadd, 1) := by decide +kernel
theorem dqL_law_282 : decode cqL_law 282 = .ok (.iaload, 1) := by decide +kernel
theorem dqL_law_283 : decode cqL_law 283 = .ok (.invokevirtual 37, 3) := by decide +kernel
theorem dqL_law_286 : decode cqL_law 286 = .ok (.aload_n 2, 1) := by decide +kernel
theorem dqL_law_287 : decode cqL_law 287 = .ok (.aload_n 0, 1) := by decide +kernel
theorem dqL_law_288 : decode cqL_law 288 = .ok (.iload_n 3, 1) := by decide +kernel
theorem dqL_law_289 : decode cqL_law 289 = .ok (.iconst 1, 1) := by decide +kernel
theorem dqL_law_290 : decode cqL_law 290 = .ok (.iadd, 1) := by decide +kernel
theorem dqL_law_291 : decode cqL_law 291 = .ok (.iaload, 1) := by decide +kernel
theorem dqL_law_292 : decode cqL_law 292 = .ok (.aload_n 0, 1) := by decide +kernel
theorem dqL_law_293 : decode cqL_law 293 = .ok (.iload_n 3, 1) := by decide +kernel
theorem dqL_law_294 : decode cqL_law 294 = .ok (.iconst 2, 1) := by decide +kernel
theorem dqL_law_295 : decode cqL_law 295 = .ok (.iadd, 1) := by decide +kernel
theorem dqL_law_296 : decode cqL_law 296 = .ok (.iaload, 1) := by decide +kernel
theorem dqL_law_297 : decode cqL_law 297 = .ok (.aload_n 0, 1) := by decide +kernel
theorem dqL_law_298 : decode cqL_law 298 = .ok (.iload_n 3, 1) := by decide +kernel
theorem dqL_law_299 : decode cqL_law 299 = .ok (.iconst 3, 1) := by decide +kernel
theorem dqL_law_300 : decode cqL_law 300 = .ok (.iadd, 1) := by decide +kernel
theorem dqL_law_301 : decode cqL_law 301 = .ok (.iaload, 1) := by decide +kernel
theorem dqL_law_302 : decode cqL_law 302 = .ok (.aload_n 0, 1) := by decide +kernel
theorem dqL_law_303 : decode cqL_law 303 = .ok (.iload_n 3, 1) := by decide +kernel
theorem dqL_law_304 : decode cqL_law 304 = .ok (.iconst 4, 1) := by decide +kernel
theorem dqL_law_305 : decode cqL_law 305 = .ok (.iadd, 1) := by decide +kernel
theorem dqL_law_306 : decode cqL_law 306 = .ok (.iaload, 1) := by decide +kernel
theorem dqL_law_307 : decode cqL_law 307 = .ok (.invokevirtual 41, 3) := by decide +kernel
theorem dqL_law_310 : decode cqL_law 310 = .ok (.if_icmp .eq 452, 3) := by decide +kernel
theorem dqL_law_313 : decode cqL_law 313 = .ok (.iconst 0, 1) := by decide +kernel
theorem dqL_law_314 : decode cqL_law 314 = .ok (.ireturn, 1) := by decide +kernel
theorem dqL_law_315 : decode cqL_law 315 = .ok (.aload_n 1, 1) := by decide +kernel
theorem dqL_law_316 : decode cqL_law 316 = .ok (.aload_n 0, 1) := by decide +kernel
theorem dqL_law_317 : decode cqL_law 317 = .ok (.iload_n 3, 1) := by decide +kernel
theorem dqL_law_318 : decode cqL_law 318 = .ok (.iconst 1, 1) := by decide +kernel
theorem dqL_law_319 : decode cqL_law 319 = .ok (.iadd, 1) := by decide +kernel
theorem dqL_law_320 : decode cqL_law 320 = .ok (.iaload, 1) := by decide +kernel
theorem dqL_law_321 : decode cqL_law 321 = .ok (.aload_n 0, 1) := by decide +kernel
theorem dqL_law_322 : decode cqL_law 322 = .ok (.iload_n 3, 1) := by decide +kernel
theorem dqL_law_323 : decode cqL_law 323 = .ok (.iconst 2, 1) := by decide +kernel
theorem dqL_law_324 : decode cqL_law 324 = .ok (.iadd, 1) := by decide +kernel
theorem dqL_law_325 : decode cqL_law 325 = .ok (.iaload, 1) := by decide +kernel
theorem dqL_law_326 : decode cqL_law 326 = .ok (.invokevirtual 42, 3) := by decide +kernel
theorem dqL_law_329 : decode cqL_law 329 = .ok (.aload_n 2, 1) := by decide +kernel
theorem dqL_law_330 : decode cqL_law 330 = .ok (.aload_n 0, 1) := by decide +kernel
theorem dqL_law_331 : decode cqL_law 331 = .ok (.iload_n 3, 1) := by decide +kernel
theorem dqL_law_332 : decode cqL_law 332 = .ok (.iconst 1, 1) := by decide +kernel
theorem dqL_law_333 : decode cqL_law 333 = .ok (.iadd, 1) := by decide +kernel
theorem dqL_law_334 : decode cqL_law 334 = .ok (.iaload, 1) := by decide +kernel
theorem dqL_law_335 : decode cqL_law 335 = .ok (.aload_n 0, 1) := by decide +kernel
theorem dqL_law_336 : decode cqL_law 336 = .ok (.iload_n 3, 1) := by decide +kernel
theorem dqL_law_337 : decode cqL_law 337 = .ok (.iconst 2, 1) := by decide +kernel
theorem dqL_law_338 : decode cqL_law 338 = .ok (.iadd, 1) := by decide +kernel
theorem dqL_law_339 : decode cqL_law 339 = .ok (.iaload, 1) := by decide +kernel
theorem dqL_law_340 : decode cqL_law 340 = .ok (.invokevirtual 45, 3) := by decide +kernel
theorem dqL_law_343 : decode cqL_law 343 = .ok (.if_icmp .eq 419, 3) := by decide +kernel
theorem dqL_law_346 : decode cqL_law 346 = .ok (.iconst 0, 1) := by decide +kernel
theorem dqL_law_347 : decode cqL_law 347 = .ok (.ireturn, 1) := by decide +kernel
theorem dqL_law_348 : decode cqL_law 348 = .ok (.aload_n 1, 1) := by decide +kernel
theorem dqL_law_349 : decode cqL_law 349 = .ok (.aload_n 0, 1) := by decide +kernel
theorem dqL_law_350 : decode cqL_law 350 = .ok (.iload_n 3, 1) := by decide +kernel
theorem dqL_law_351 : decode cqL_law 351 = .ok (.iconst 1, 1) := by decide +kernel
theorem dqL_law_352 : decode cqL_law 352 = .ok (.iadd, 1) := by decide +kernel
theorem dqL_law_353 : decode cqL_law 353 = .ok (.iaload, 1) := by decide +kernel
theorem dqL_law_354 : decode cqL_law 354 = .ok (.aload_n 0, 1) := by decide +kernel
theorem dqL_law_355 : decode cqL_law 355 = .ok (.iload_n 3, 1) := by decide +kernel
theorem dqL_law_356 : decode cqL_law 356 = .ok (.iconst 2, 1) := by decide +kernel
theorem dqL_law_357 : decode cqL_law 357 = .ok (.iadd, 1) := by decide +kernel
theorem dqL_law_358 : decode cqL_law 358 = .ok (.iaload, 1) := by decide +kernel
theorem dqL_law_359 : decode cqL_law 359 = .ok (.aload_n 0, 1) := by decide +kernel
theorem dqL_law_360 : decode cqL_law 360 = .ok (.iload_n 3, 1) := by decide +kernel
theorem dqL_law_361 : decode cqL_law 361 = .ok (.iconst 3, 1) := by decide +kernel
theorem dqL_law_362 : decode cqL_law 362 = .ok (.iadd, 1) := by decide +kernel
theorem dqL_law_363 : decode cqL_law 363 = .ok (.iaload, 1) := by decide +kernel
theorem dqL_law_364 : decode cqL_law 364 = .ok (.invokevirtual 46, 3) := by decide +kernel
theorem dqL_law_367 : decode cqL_law 367 = .ok (.aload_n 2, 1) := by decide +kernel
theorem dqL_law_368 : decode cqL_law 368 = .ok (.aload_n 0, 1) := by decide +kernel
theorem dqL_law_369 : decode cqL_law 369 = .ok (.iload_n 3, 1) := by decide +kernel
theorem dqL_law_370 : decode cqL_law 370 = .ok (.iconst 1, 1) := by decide +kernel
theorem dqL_law_371 : decode cqL_law 371 = .ok (.iadd, 1) := by decide +kernel
theorem dqL_law_372 : decode cqL_law 372 = .ok (.iaload, 1) := by decide +kernel
theorem dqL_law_373 : decode cqL_law 373 = .ok (.aload_n 0, 1) := by decide +kernel
theorem dqL_law_374 : decode cqL_law 374 = .ok (.iload_n 3, 1) := by decide +kernel
theorem dqL_law_375 : decode cqL_law 375 = .ok (.iconst 2, 1) := by decide +kernel
theorem dqL_law_376 : decode cqL_law 376 = .ok (.iadd, 1) := by decide +kernel
theorem dqL_law_377 : decode cqL_law 377 = .ok (.iaload, 1) := by decide +kernel
theorem dqL_law_378 : decode cqL_law 378 = .ok (.aload_n 0, 1) := by decide +kernel
theorem dqL_law_379 : decode cqL_law 379 = .ok (.iload_n 3, 1) := by decide +kernel
theorem dqL_law_380 : decode cqL_law 380 = .ok (.iconst 3, 1) := by decide +kernel
theorem dqL_law_381 : decode cqL_law 381 = .ok (.iadd, 1) := by decide +kernel
theorem dqL_law_382 : decode cqL_law 382 = .ok (.iaload, 1) := by decide +kernel
theorem dqL_law_383 : decode cqL_law 383 = .ok (.invokevirtual 50, 3) := by decide +kernel
theorem dqL_law_386 : decode cqL_law 386 = .ok (.if_icmp .eq 376, 3) := by decide +kernel
theorem dqL_law_389 : decode cqL_law 389 = .ok (.iconst 0, 1) := by decide +kernel
theorem dqL_law_390 : decode cqL_law 390 = .ok (.ireturn, 1) := by decide +kernel
theorem dqL_law_391 : decode cqL_law 391 = .ok (.aload_n 1, 1) := by decide +kernel
theorem dqL_law_392 : decode cqL_law 392 = .ok (.aload_n 0, 1) := by decide +kernel
theorem dqL_law_393 : decode cqL_law 393 = .ok (.iload_n 3, 1) := by decide +kernel
theorem dqL_law_394 : decode cqL_law 394 = .ok (.iconst 1, 1) := by decide +kernel
theorem dqL_law_395 : decode cqL_law 395 = .ok (.iadd, 1) := by decide +kernel
theorem dqL_law_396 : decode cqL_law 396 = .ok (.iaload, 1) := by decide +kernel
theorem dqL_law_397 : decode cqL_law 397 = .ok (.invokevirtual 51, 3) := by decide +kernel
theorem dqL_law_400 : decode cqL_law 400 = .ok (.aload_n 2, 1) := by decide +kernel
theorem dqL_law_401 : decode cqL_law 401 = .ok (.aload_n 0, 1) := by decide +kernel
theorem dqL_law_402 : decode cqL_law 402 = .ok (.iload_n 3, 1) := by decide +kernel
theorem dqL_law_403 : decode cqL_law 403 = .ok (.iconst 1, 1) := by decide +kernel
theorem dqL_law_404 : decode cqL_law 404 = .ok (.iadd, 1) := by decide +kernel
theorem dqL_law_405 : decode cqL_law 405 = .ok (.iaload, 1) := by decide +kernel
theorem dqL_law_406 : decode cqL_law 406 = .ok (.invokevirtual 54, 3) := by decide +kernel
theorem dqL_law_409 : decode cqL_law 409 = .ok (.if_icmp .eq 353, 3) := by decide +kernel
theorem dqL_law_412 : decode cqL_law 412 = .ok (.iconst 0, 1) := by decide +kernel
theorem dqL_law_413 : decode cqL_law 413 = .ok (.ireturn, 1) := by decide +kernel
theorem dqL_law_414 : decode cqL_law 414 = .ok (.aload_n 1, 1) := by decide +kernel
theorem dqL_law_415 : decode cqL_law 415 = .ok (.aload_n 0, 1) := by decide +kernel
theorem dqL_law_416 : decode cqL_law 416 = .ok (.iload_n 3, 1) := by decide +kernel
theorem dqL_law_417 : decode cqL_law 417 = .ok (.iconst 1, 1) := by decide +kernel
theorem dqL_law_418 : decode cqL_law 418 = .ok (.iadd, 1) := by decide +kernel
theorem dqL_law_419 : decode cqL_law 419 = .ok (.iaload, 1) := by decide +kernel
theorem dqL_law_420 : decode cqL_law 420 = .ok (.aload_n 0, 1) := by decide +kernel
theorem dqL_law_421 : decode cqL_law 421 = .ok (.iload_n 3, 1) := by decide +kernel
theorem dqL_law_422 : decode cqL_law 422 = .ok (.iconst 2, 1) := by decide +kernel
theorem dqL_law_423 : decode cqL_law 423 = .ok (.iadd, 1) := by decide +kernel
theorem dqL_law_424 : decode cqL_law 424 = .ok (.iaload, 1) := by decide +kernel
theorem dqL_law_425 : decode cqL_law 425 = .ok (.ifCond .eq 7, 3) := by decide +kernel
theorem dqL_law_428 : decode cqL_law 428 = .ok (.iconst 1, 1) := by decide +kernel
theorem dqL_law_429 : decode cqL_law 429 = .ok (.goto 4, 3) := by decide +kernel
theorem dqL_law_432 : decode cqL_law 432 = .ok (.iconst 0, 1) := by decide +kernel
theorem dqL_law_433 : decode cqL_law 433 = .ok (.invokevirtual 55, 3) := by decide +kernel
theorem dqL_law_436 : decode cqL_law 436 = .ok (.aload_n 2, 1) := by decide +kernel
theorem dqL_law_437 : decode cqL_law 437 = .ok (.aload_n 0, 1) := by decide +kernel
theorem dqL_law_438 : decode cqL_law 438 = .ok (.iload_n 3, 1) := by decide +kernel
theorem dqL_law_439 : decode cqL_law 439 = .ok (.iconst 1, 1) := by decide +kernel
theorem dqL_law_440 : decode cqL_law 440 = .ok (.iadd, 1) := by decide +kernel
theorem dqL_law_441 : decode cqL_law 441 = .ok (.iaload, 1) := by decide +kernel
theorem dqL_law_442 : decode cqL_law 442 = .ok (.aload_n 0, 1) := by decide +kernel
theorem dqL_law_443 : decode cqL_law 443 = .ok (.iload_n 3, 1) := by decide +kernel
theorem dqL_law_444 : decode cqL_law 444 = .ok (.iconst 2, 1) := by decide +kernel
theorem dqL_law_445 : decode cqL_law 445 = .ok (.iadd, 1) := by decide +kernel
theorem dqL_law_446 : decode cqL_law 446 = .ok (.iaload, 1) := by decide +kernel
theorem dqL_law_447 : decode cqL_law 447 = .ok (.ifCond .eq 7, 3) := by decide +kernel
theorem dqL_law_450 : decode cqL_law 450 = .ok (.iconst 1, 1) := by decide +kernel
theorem dqL_law_451 : decode cqL_law 451 = .ok (.goto 4, 3) := by decide +kernel
theorem dqL_law_454 : decode cqL_law 454 = .ok (.iconst 0, 1) := by decide +kernel
theorem dqL_law_455 : decode cqL_law 455 = .ok (.invokevirtual 59, 3) := by decide +kernel
theorem dqL_law_458 : decode cqL_law 458 = .ok (.if_icmp .eq 304, 3) := by decide +kernel
theorem dqL_law_461 : decode cqL_law 461 = .ok (.iconst 0, 1) := by decide +kernel
theorem dqL_law_462 : decode cqL_law 462 = .ok (.ireturn, 1) := by decide +kernel
theorem dqL_law_463 : decode cqL_law 463 = .ok (.aload_n 1, 1) := by decide +kernel
theorem dqL_law_464 : decode cqL_law 464 = .ok (.aload_n 0, 1) := by decide +kernel
theorem dqL_law_465 : decode cqL_law 465 = .ok (.iload_n 3, 1) := by decide +kernel
theorem dqL_law_466 : decode cqL_law 466 = .ok (.iconst 1, 1) := by decide +kernel
theorem dqL_law_467 : decode cqL_law 467 = .ok (.iadd, 1) := by decide +kernel
theorem dqL_law_468 : decode cqL_law 468 = .ok (.iaload, 1) := by decide +kernel
theorem dqL_law_469 : decode cqL_law 469 = .ok (.invokevirtual 60, 3) := by decide +kernel
theorem dqL_law_472 : decode cqL_law 472 = .ok (.aload_n 2, 1) := by decide +kernel
theorem dqL_law_473 : decode cqL_law 473 = .ok (.aload_n 0, 1) := by decide +kernel
theorem dqL_law_474 : decode cqL_law 474 = .ok (.iload_n 3, 1) := by decide +kernel
theorem dqL_law_475 : decode cqL_law 475 = .ok (.iconst 1, 1) := by decide +kernel
theorem dqL_law_476 : decode cqL_law 476 = .ok (.iadd, 1) := by decide +kernel
theorem dqL_law_477 : decode cqL_law 477 = .ok (.iaload, 1) := by decide +kernel
theorem dqL_law_478 : decode cqL_law 478 = .ok (.invokevirtual 63, 3) := by decide +kernel
theorem dqL_law_481 : decode cqL_law 481 = .ok (.if_icmp .eq 281, 3) := by decide +kernel
theorem dqL_law_484 : decode cqL_law 484 = .ok (.iconst 0, 1) := by decide +kernel
theorem dqL_law_485 : decode cqL_law 485 = .ok (.ireturn, 1) := by decide +kernel
theorem dqL_law_486 : decode cqL_law 486 = .ok (.aload_n 1, 1) := by decide +kernel
theorem dqL_law_487 : decode cqL_law 487 = .ok (.aload_n 0, 1) := by decide +kernel
theorem dqL_law_488 : decode cqL_law 488 = .ok (.iload_n 3, 1) := by decide +kernel
theorem dqL_law_489 : decode cqL_law 489 = .ok (.iconst 1, 1) := by decide +kernel
theorem dqL_law_490 : decode cqL_law 490 = .ok (.iadd, 1) := by decide +kernel
theorem dqL_law_491 : decode cqL_law 491 = .ok (.iaload, 1) := by decide +kernel
theorem dqL_law_492 : decode cqL_law 492 = .ok (.aload_n 0, 1) := by decide +kernel
theorem dqL_law_493 : decode cqL_law 493 = .ok (.iload_n 3, 1) := by decide +kernel
theorem dqL_law_494 : decode cqL_law 494 = .ok (.iconst 2, 1) := by decide +kernel
theorem dqL_law_495 : decode cqL_law 495 = .ok (.iadd, 1) := by decide +kernel
theorem dqL_law_496 : decode cqL_law 496 = .ok (.iaload, 1) := by decide +kernel
theorem dqL_law_497 : decode cqL_law 497 = .ok (.aload_n 0, 1) := by decide +kernel
theorem dqL_law_498 : decode cqL_law 498 = .ok (.iload_n 3, 1) := by decide +kernel
theorem dqL_law_499 : decode cqL_law 499 = .ok (.iconst 3, 1) := by decide +kernel
theorem dqL_law_500 : decode cqL_law 500 = .ok (.iadd, 1) := by decide +kernel
theorem dqL_law_501 : decode cqL_law 501 = .ok (.iaload, 1) := by decide +kernel
theorem dqL_law_502 : decode cqL_law 502 = .ok (.invokevirtual 64, 3) := by decide +kernel
theorem dqL_law_505 : decode cqL_law 505 = .ok (.aload_n 2, 1) := by decide +kernel
theorem dqL_law_506 : decode cqL_law 506 = .ok (.aload_n 0, 1) := by decide +kernel
theorem dqL_law_507 : decode cqL_law 507 = .ok (.iload_n 3, 1) := by decide +kernel
theorem dqL_law_508 : decode cqL_law 508 = .ok (.iconst 1, 1) := by decide +kernel
theorem dqL_law_509 : decode cqL_law 509 = .ok (.iadd, 1) := by decide +kernel
theorem dqL_law_510 : decode cqL_law 510 = .ok (.iaload, 1) := by decide +kernel
theorem dqL_law_511 : decode cqL_law 511 = .ok (.aload_n 0, 1) := by decide +kernel
theorem dqL_law_512 : decode cqL_law 512 = .ok (.iload_n 3, 1) := by decide +kernel
theorem dqL_law_513 : decode cqL_law 513 = .ok (.iconst 2, 1) := by decide +kernel
theorem dqL_law_514 : decode cqL_law 514 = .ok (.iadd, 1) := by decide +kernel
theorem dqL_law_515 : decode cqL_law 515 = .ok (.iaload, 1) := by decide +kernel
theorem dqL_law_516 : decode cqL_law 516 = .ok (.aload_n 0, 1) := by decide +kernel
theorem dqL_law_517 : decode cqL_law 517 = .ok (.iload_n 3, 1) := by decide +kernel
theorem dqL_law_518 : decode cqL_law 518 = .ok (.iconst 3, 1) := by decide +kernel
theorem dqL_law_519 : decode cqL_law 519 = .ok (.iadd, 1) := by decide +kernel
theorem dqL_law_520 : decode cqL_law 520 = .ok (.iaload, 1) := by decide +kernel
theorem dqL_law_521 : decode cqL_law 521 = .ok (.invokevirtual 67, 3) := by decide +kernel
theorem dqL_law_524 : decode cqL_law 524 = .ok (.if_icmp .eq 238, 3) := by decide +kernel
theorem dqL_law_527 : decode cqL_law 527 = .ok (.iconst 0, 1) := by decide +kernel
theorem dqL_law_528 : decode cqL_law 528 = .ok (.ireturn, 1) := by decide +kernel
theorem dqL_law_529 : decode cqL_law 529 = .ok (.aload_n 1, 1) := by decide +kernel
theorem dqL_law_530 : decode cqL_law 530 = .ok (.invokevirtual 68, 3) := by decide +kernel
theorem dqL_law_533 : decode cqL_law 533 = .ok (.aload_n 2, 1) := by decide +kernel
theorem dqL_law_534 : decode cqL_law 534 = .ok (.invokevirtual 71, 3) := by decide +kernel
theorem dqL_law_537 : decode cqL_law 537 = .ok (.if_icmp .eq 225, 3) := by decide +kernel
theorem dqL_law_540 : decode cqL_law 540 = .ok (.iconst 0, 1) := by decide +kernel
theorem dqL_law_541 : decode cqL_law 541 = .ok (.ireturn, 1) := by decide +kernel
theorem dqL_law_542 : decode cqL_law 542 = .ok (.aload_n 1, 1) := by decide +kernel
theorem dqL_law_543 : decode cqL_law 543 = .ok (.aload_n 0, 1) := by decide +kernel
theorem dqL_law_544 : decode cqL_law 544 = .ok (.iload_n 3, 1) := by decide +kernel
theorem dqL_law_545 : decode cqL_law 545 = .ok (.iconst 1, 1) := by decide +kernel
theorem dqL_law_546 : decode cqL_law 546 = .ok (.iadd, 1) := by decide +kernel
theorem dqL_law_547 : decode cqL_law 547 = .ok (.iaload, 1) := by decide +kernel
theorem dqL_law_548 : decode cqL_law 548 = .ok (.invokevirtual 72, 3) := by decide +kernel
theorem dqL_law_551 : decode cqL_law 551 = .ok (.aload_n 2, 1) := by decide +kernel
theorem dqL_law_552 : decode cqL_law 552 = .ok (.aload_n 0, 1) := by decide +kernel
theorem dqL_law_553 : decode cqL_law 553 = .ok (.iload_n 3, 1) := by decide +kernel
theorem dqL_law_554 : decode cqL_law 554 = .ok (.iconst 1, 1) := by decide +kernel
theorem dqL_law_555 : decode cqL_law 555 = .ok (.iadd, 1) := by decide +kernel
theorem dqL_law_556 : decode cqL_law 556 = .ok (.iaload, 1) := by decide +kernel
theorem dqL_law_557 : decode cqL_law 557 = .ok (.invokevirtual 75, 3) := by decide +kernel
theorem dqL_law_560 : decode cqL_law 560 = .ok (.lcmp, 1) := by decide +kernel
theorem dqL_law_561 : decode cqL_law 561 = .ok (.ifCond .eq 201, 3) := by decide +kernel
theorem dqL_law_564 : decode cqL_law 564 = .ok (.iconst 0, 1) := by decide +kernel
theorem dqL_law_565 : decode cqL_law 565 = .ok (.ireturn, 1) := by decide +kernel
theorem dqL_law_566 : decode cqL_law 566 = .ok (.aload_n 1, 1) := by decide +kernel
theorem dqL_law_567 : decode cqL_law 567 = .ok (.aload_n 0, 1) := by decide +kernel
theorem dqL_law_568 : decode cqL_law 568 = .ok (.iload_n 3, 1) := by decide +kernel
theorem dqL_law_569 : decode cqL_law 569 = .ok (.iconst 1, 1) := by decide +kernel
theorem dqL_law_570 : decode cqL_law 570 = .ok (.iadd, 1) := by decide +kernel
theorem dqL_law_571 : decode cqL_law 571 = .ok (.iaload, 1) := by decide +kernel
theorem dqL_law_572 : decode cqL_law 572 = .ok (.aload_n 0, 1) := by decide +kernel
theorem dqL_law_573 : decode cqL_law 573 = .ok (.iload_n 3, 1) := by decide +kernel
theorem dqL_law_574 : decode cqL_law 574 = .ok (.iconst 2, 1) := by decide +kernel
theorem dqL_law_575 : decode cqL_law 575 = .ok (.iadd, 1) := by decide +kernel
theorem dqL_law_576 : decode cqL_law 576 = .ok (.iaload, 1) := by decide +kernel
theorem dqL_law_577 : decode cqL_law 577 = .ok (.invokevirtual 76, 3) := by decide +kernel
theorem dqL_law_580 : decode cqL_law 580 = .ok (.aload_n 2, 1) := by decide +kernel
theorem dqL_law_581 : decode cqL_law 581 = .ok (.aload_n 0, 1) := by decide +kernel
theorem dqL_law_582 : decode cqL_law 582 = .ok (.iload_n 3, 1) := by decide +kernel
theorem dqL_law_583 : decode cqL_law 583 = .ok (.iconst 1, 1) := by decide +kernel
theorem dqL_law_584 : decode cqL_law 584 = .ok (.iadd, 1) := by decide +kernel
theorem dqL_law_585 : decode cqL_law 585 = .ok (.iaload, 1) := by decide +kernel
theorem dqL_law_586 : decode cqL_law 586 = .ok (.aload_n 0, 1) := by decide +kernel
theorem dqL_law_587 : decode cqL_law 587 = .ok (.iload_n 3, 1) := by decide +kernel
theorem dqL_law_588 : decode cqL_law 588 = .ok (.iconst 2, 1) := by decide +kernel
theorem dqL_law_589 : decode cqL_law 589 = .ok (.iadd, 1) := by decide +kernel
theorem dqL_law_590 : decode cqL_law 590 = .ok (.iaload, 1) := by decide +kernel
theorem dqL_law_591 : decode cqL_law 591 = .ok (.invokevirtual 80, 3) := by decide +kernel
theorem dqL_law_594 : decode cqL_law 594 = .ok (.lcmp, 1) := by decide +kernel
theorem dqL_law_595 : decode cqL_law 595 = .ok (.ifCond .eq 167, 3) := by decide +kernel
theorem dqL_law_598 : decode cqL_law 598 = .ok (.iconst 0, 1) := by decide +kernel
theorem dqL_law_599 : decode cqL_law 599 = .ok (.ireturn, 1) := by decide +kernel
theorem dqL_law_600 : decode cqL_law 600 = .ok (.aload_n 1, 1) := by decide +kernel
theorem dqL_law_601 : decode cqL_law 601 = .ok (.aload_n 0, 1) := by decide +kernel
theorem dqL_law_602 : decode cqL_law 602 = .ok (.iload_n 3, 1) := by decide +kernel
theorem dqL_law_603 : decode cqL_law 603 = .ok (.iconst 1, 1) := by decide +kernel
theorem dqL_law_604 : decode cqL_law 604 = .ok (.iadd, 1) := by decide +kernel
theorem dqL_law_605 : decode cqL_law 605 = .ok (.iaload, 1) := by decide +kernel
theorem dqL_law_606 : decode cqL_law 606 = .ok (.invokevirtual 81, 3) := by decide +kernel
theorem dqL_law_609 : decode cqL_law 609 = .ok (.aload_n 2, 1) := by decide +kernel
theorem dqL_law_610 : decode cqL_law 610 = .ok (.aload_n 0, 1) := by decide +kernel
theorem dqL_law_611 : decode cqL_law 611 = .ok (.iload_n 3, 1) := by decide +kernel
theorem dqL_law_612 : decode cqL_law 612 = .ok (.iconst 1, 1) := by decide +kernel
theorem dqL_law_613 : decode cqL_law 613 = .ok (.iadd, 1) := by decide +kernel
theorem dqL_law_614 : decode cqL_law 614 = .ok (.iaload, 1) := by decide +kernel
theorem dqL_law_615 : decode cqL_law 615 = .ok (.invokevirtual 84, 3) := by decide +kernel
theorem dqL_law_618 : decode cqL_law 618 = .ok (.if_icmp .eq 144, 3) := by decide +kernel
theorem dqL_law_621 : decode cqL_law 621 = .ok (.iconst 0, 1) := by decide +kernel
theorem dqL_law_622 : decode cqL_law 622 = .ok (.ireturn, 1) := by decide +kernel
theorem dqL_law_623 : decode cqL_law 623 = .ok (.aload_n 1, 1) := by decide +kernel
theorem dqL_law_624 : decode cqL_law 624 = .ok (.aload_n 0, 1) := by decide +kernel
theorem dqL_law_625 : decode cqL_law 625 = .ok (.iload_n 3, 1) := by decide +kernel
theorem dqL_law_626 : decode cqL_law 626 = .ok (.iconst 1, 1) := by decide +kernel
theorem dqL_law_627 : decode cqL_law 627 = .ok (.iadd, 1) := by decide +kernel
theorem dqL_law_628 : decode cqL_law 628 = .ok (.iaload, 1) := by decide +kernel
theorem dqL_law_629 : decode cqL_law 629 = .ok (.invokevirtual 85, 3) := by decide +kernel
theorem dqL_law_632 : decode cqL_law 632 = .ok (.aload_n 2, 1) := by decide +kernel
theorem dqL_law_633 : decode cqL_law 633 = .ok (.aload_n 0, 1) := by decide +kernel
theorem dqL_law_634 : decode cqL_law 634 = .ok (.iload_n 3, 1) := by decide +kernel
theorem dqL_law_635 : decode cqL_law 635 = .ok (.iconst 1, 1) := by decide +kernel
theorem dqL_law_636 : decode cqL_law 636 = .ok (.iadd, 1) := by decide +kernel
theorem dqL_law_637 : decode cqL_law 637 = .ok (.iaload, 1) := by decide +kernel
theorem dqL_law_638 : decode cqL_law 638 = .ok (.invokevirtual 88, 3) := by decide +kernel
theorem dqL_law_641 : decode cqL_law 641 = .ok (.if_icmp .eq 121, 3) := by decide +kernel
theorem dqL_law_644 : decode cqL_law 644 = .ok (.iconst 0, 1) := by decide +kernel
theorem dqL_law_645 : decode cqL_law 645 = .ok (.ireturn, 1) := by decide +kernel
theorem dqL_law_646 : decode cqL_law 646 = .ok (.aload_n 1, 1) := by decide +kernel
theorem dqL_law_647 : decode cqL_law 647 = .ok (.aload_n 0, 1) := by decide +kernel
theorem dqL_law_648 : decode cqL_law 648 = .ok (.iload_n 3, 1) := by decide +kernel
theorem dqL_law_649 : decode cqL_law 649 = .ok (.iconst 1, 1) := by decide +kernel
theorem dqL_law_650 : decode cqL_law 650 = .ok (.iadd, 1) := by decide +kernel
theorem dqL_law_651 : decode cqL_law 651 = .ok (.iaload, 1) := by decide +kernel
theorem dqL_law_652 : decode cqL_law 652 = .ok (.invokevirtual 89, 3) := by decide +kernel
theorem dqL_law_655 : decode cqL_law 655 = .ok (.aload_n 2, 1) := by decide +kernel
theorem dqL_law_656 : decode cqL_law 656 = .ok (.aload_n 0, 1) := by decide +kernel
theorem dqL_law_657 : decode cqL_law 657 = .ok (.iload_n 3, 1) := by decide +kernel
theorem dqL_law_658 : decode cqL_law 658 = .ok (.iconst 1, 1) := by decide +kernel
theorem dqL_law_659 : decode cqL_law 659 = .ok (.iadd, 1) := by decide +kernel
theorem dqL_law_660 : decode cqL_law 660 = .ok (.iaload, 1) := by decide +kernel
theorem dqL_law_661 : decode cqL_law 661 = .ok (.invokevirtual 92, 3) := by decide +kernel
theorem dqL_law_664 : decode cqL_law 664 = .ok (.if_icmp .eq 98, 3) := by decide +kernel
theorem dqL_law_667 : decode cqL_law 667 = .ok (.iconst 0, 1) := by decide +kernel
theorem dqL_law_668 : decode cqL_law 668 = .ok (.ireturn, 1) := by decide +kernel
theorem dqL_law_669 : decode cqL_law 669 = .ok (.aload_n 1, 1) := by decide +kernel
theorem dqL_law_670 : decode cqL_law 670 = .ok (.aload_n 0, 1) := by decide +kernel
theorem dqL_law_671 : decode cqL_law 671 = .ok (.iload_n 3, 1) := by decide +kernel
theorem dqL_law_672 : decode cqL_law 672 = .ok (.iconst 1, 1) := by decide +kernel
theorem dqL_law_673 : decode cqL_law 673 = .ok (.iadd, 1) := by decide +kernel
theorem dqL_law_674 : decode cqL_law 674 = .ok (.iaload, 1) := by decide +kernel
theorem dqL_law_675 : decode cqL_law 675 = .ok (.invokevirtual 93, 3) := by decide +kernel
theorem dqL_law_678 : decode cqL_law 678 = .ok (.aload_n 2, 1) := by decide +kernel
theorem dqL_law_679 : decode cqL_law 679 = .ok (.aload_n 0, 1) := by decide +kernel
theorem dqL_law_680 : decode cqL_law 680 = .ok (.iload_n 3, 1) := by decide +kernel
theorem dqL_law_681 : decode cqL_law 681 = .ok (.iconst 1, 1) := by decide +kernel
theorem dqL_law_682 : decode cqL_law 682 = .ok (.iadd, 1) := by decide +kernel
theorem dqL_law_683 : decode cqL_law 683 = .ok (.iaload, 1) := by decide +kernel
theorem dqL_law_684 : decode cqL_law 684 = .ok (.invokevirtual 96, 3) := by decide +kernel
theorem dqL_law_687 : decode cqL_law 687 = .ok (.if_icmp .eq 75, 3) := by decide +kernel
theorem dqL_law_690 : decode cqL_law 690 = .ok (.iconst 0, 1) := by decide +kernel
theorem dqL_law_691 : decode cqL_law 691 = .ok (.ireturn, 1) := by decide +kernel
theorem dqL_law_692 : decode cqL_law 692 = .ok (.aload_n 1, 1) := by decide +kernel
theorem dqL_law_693 : decode cqL_law 693 = .ok (.aload_n 0, 1) := by decide +kernel
theorem dqL_law_694 : decode cqL_law 694 = .ok (.iload_n 3, 1) := by decide +kernel
theorem dqL_law_695 : decode cqL_law 695 = .ok (.iconst 1, 1) := by decide +kernel
theorem dqL_law_696 : decode cqL_law 696 = .ok (.iadd, 1) := by decide +kernel
theorem dqL_law_697 : decode cqL_law 697 = .ok (.iaload, 1) := by decide +kernel
theorem dqL_law_698 : decode cqL_law 698 = .ok (.invokevirtual 97, 3) := by decide +kernel
theorem dqL_law_701 : decode cqL_law 701 = .ok (.aload_n 2, 1) := by decide +kernel
theorem dqL_law_702 : decode cqL_law 702 = .ok (.aload_n 0, 1) := by decide +kernel
theorem dqL_law_703 : decode cqL_law 703 = .ok (.iload_n 3, 1) := by decide +kernel
theorem dqL_law_704 : decode cqL_law 704 = .ok (.iconst 1, 1) := by decide +kernel
theorem dqL_law_705 : decode cqL_law 705 = .ok (.iadd, 1) := by decide +kernel
theorem dqL_law_706 : decode cqL_law 706 = .ok (.iaload, 1) := by decide +kernel
theorem dqL_law_707 : decode cqL_law 707 = .ok (.invokevirtual 100, 3) := by decide +kernel
theorem dqL_law_710 : decode cqL_law 710 = .ok (.if_icmp .eq 52, 3) := by decide +kernel
theorem dqL_law_713 : decode cqL_law 713 = .ok (.iconst 0, 1) := by decide +kernel
theorem dqL_law_714 : decode cqL_law 714 = .ok (.ireturn, 1) := by decide +kernel
theorem dqL_law_715 : decode cqL_law 715 = .ok (.aload_n 1, 1) := by decide +kernel
theorem dqL_law_716 : decode cqL_law 716 = .ok (.invokevirtual 101, 3) := by decide +kernel
theorem dqL_law_719 : decode cqL_law 719 = .ok (.aload_n 2, 1) := by decide +kernel
theorem dqL_law_720 : decode cqL_law 720 = .ok (.invokevirtual 105, 3) := by decide +kernel
theorem dqL_law_723 : decode cqL_law 723 = .ok (.lcmp, 1) := by decide +kernel
theorem dqL_law_724 : decode cqL_law 724 = .ok (.ifCond .eq 38, 3) := by decide +kernel
theorem dqL_law_727 : decode cqL_law 727 = .ok (.iconst 0, 1) := by decide +kernel
theorem dqL_law_728 : decode cqL_law 728 = .ok (.ireturn, 1) := by decide +kernel
theorem dqL_law_729 : decode cqL_law 729 = .ok (.aload_n 1, 1) := by decide +kernel
theorem dqL_law_730 : decode cqL_law 730 = .ok (.aload_n 0, 1) := by decide +kernel
theorem dqL_law_731 : decode cqL_law 731 = .ok (.iload_n 3, 1) := by decide +kernel
theorem dqL_law_732 : decode cqL_law 732 = .ok (.iconst 1, 1) := by decide +kernel
theorem dqL_law_733 : decode cqL_law 733 = .ok (.iadd, 1) := by decide +kernel
theorem dqL_law_734 : decode cqL_law 734 = .ok (.iaload, 1) := by decide +kernel
theorem dqL_law_735 : decode cqL_law 735 = .ok (.aload_n 0, 1) := by decide +kernel
theorem dqL_law_736 : decode cqL_law 736 = .ok (.iload_n 3, 1) := by decide +kernel
theorem dqL_law_737 : decode cqL_law 737 = .ok (.iconst 2, 1) := by decide +kernel
theorem dqL_law_738 : decode cqL_law 738 = .ok (.iadd, 1) := by decide +kernel
theorem dqL_law_739 : decode cqL_law 739 = .ok (.iaload, 1) := by decide +kernel
theorem dqL_law_740 : decode cqL_law 740 = .ok (.invokevirtual 106, 3) := by decide +kernel
theorem dqL_law_743 : decode cqL_law 743 = .ok (.aload_n 2, 1) := by decide +kernel
theorem dqL_law_744 : decode cqL_law 744 = .ok (.aload_n 0, 1) := by decide +kernel
theorem dqL_law_745 : decode cqL_law 745 = .ok (.iload_n 3, 1) := by decide +kernel
theorem dqL_law_746 : decode cqL_law 746 = .ok (.iconst 1, 1) := by decide +kernel
theorem dqL_law_747 : decode cqL_law 747 = .ok (.iadd, 1) := by decide +kernel
theorem dqL_law_748 : decode cqL_law 748 = .ok (.iaload, 1) := by decide +kernel
theorem dqL_law_749 : decode cqL_law 749 = .ok (.aload_n 0, 1) := by decide +kernel
theorem dqL_law_750 : decode cqL_law 750 = .ok (.iload_n 3, 1) := by decide +kernel
theorem dqL_law_751 : decode cqL_law 751 = .ok (.iconst 2, 1) := by decide +kernel
theorem dqL_law_752 : decode cqL_law 752 = .ok (.iadd, 1) := by decide +kernel
theorem dqL_law_753 : decode cqL_law 753 = .ok (.iaload, 1) := by decide +kernel
theorem dqL_law_754 : decode cqL_law 754 = .ok (.invokevirtual 109, 3) := by decide +kernel
theorem dqL_law_757 : decode cqL_law 757 = .ok (.if_icmp .eq 5, 3) := by decide +kernel
theorem dqL_law_760 : decode cqL_law 760 = .ok (.iconst 0, 1) := by decide +kernel
theorem dqL_law_761 : decode cqL_law 761 = .ok (.ireturn, 1) := by decide +kernel
theorem dqL_law_762 : decode cqL_law 762 = .ok (.iinc 3 5, 3) := by decide +kernel
theorem dqL_law_765 : decode cqL_law 765 = .ok (.goto (-747), 3) := by decide +kernel
theorem dqL_law_768 : decode cqL_law 768 = .ok (.iconst 1, 1) := by decide +kernel
theorem dqL_law_769 : decode cqL_law 769 = .ok (.ireturn, 1) := by decide +kernel
theorem dqJ_floorDiv_0 : decode cqJ_floorDiv 0 = .ok (.lload_n 0, 1) := by decide +kernel
theorem dqJ_floorDiv_1 : decode cqJ_floorDiv 1 = .ok (.lload_n 2, 1) := by decide +kernel
theorem dqJ_floorDiv_2 : decode cqJ_floorDiv 2 = .ok (.ldiv, 1) := by decide +kernel
theorem dqJ_floorDiv_3 : decode cqJ_floorDiv 3 = .ok (.lstore 4, 2) := by decide +kernel
theorem dqJ_floorDiv_5 : decode cqJ_floorDiv 5 = .ok (.lload_n 0, 1) := by decide +kernel
theorem dqJ_floorDiv_6 : decode cqJ_floorDiv 6 = .ok (.lload_n 2, 1) := by decide +kernel
theorem dqJ_floorDiv_7 : decode cqJ_floorDiv 7 = .ok (.lxor, 1) := by decide +kernel
theorem dqJ_floorDiv_8 : decode cqJ_floorDiv 8 = .ok (.lconst 0, 1) := by decide +kernel
theorem dqJ_floorDiv_9 : decode cqJ_floorDiv 9 = .ok (.lcmp, 1) := by decide +kernel
theorem dqJ_floorDiv_10 : decode cqJ_floorDiv 10 = .ok (.ifCond .ge 17, 3) := by decide +kernel
theorem dqJ_floorDiv_13 : decode cqJ_floorDiv 13 = .ok (.lload 4, 2) := by decide +kernel
theorem dqJ_floorDiv_15 : decode cqJ_floorDiv 15 = .ok (.lload_n 2, 1) := by decide +kernel
theorem dqJ_floorDiv_16 : decode cqJ_floorDiv 16 = .ok (.lmul, 1) := by decide +kernel
theorem dqJ_floorDiv_17 : decode cqJ_floorDiv 17 = .ok (.lload_n 0, 1) := by decide +kernel
theorem dqJ_floorDiv_18 : decode cqJ_floorDiv 18 = .ok (.lcmp, 1) := by decide +kernel
theorem dqJ_floorDiv_19 : decode cqJ_floorDiv 19 = .ok (.ifCond .eq 8, 3) := by decide +kernel
theorem dqJ_floorDiv_22 : decode cqJ_floorDiv 22 = .ok (.lload 4, 2) := by decide +kernel
theorem dqJ_floorDiv_24 : decode cqJ_floorDiv 24 = .ok (.lconst 1, 1) := by decide +kernel
theorem dqJ_floorDiv_25 : decode cqJ_floorDiv 25 = .ok (.lsub, 1) := by decide +kernel
theorem dqJ_floorDiv_26 : decode cqJ_floorDiv 26 = .ok (.lreturn, 1) := by decide +kernel
theorem dqJ_floorDiv_27 : decode cqJ_floorDiv 27 = .ok (.lload 4, 2) := by decide +kernel
theorem dqJ_floorDiv_29 : decode cqJ_floorDiv 29 = .ok (.lreturn, 1) := by decide +kernel
end
section
theorem tb_225 : Cond.code yqX_within cqX_within 3 (some .boolean) ∈ gtb := List.mem_filter.mpr ⟨List.mem_of_getElem? (i := 225) (by decide +kernel), by decide +kernel⟩
theorem tb_223 : Cond.methodLink RqX 61 yqX_within ∈ gtb := List.mem_filter.mpr ⟨List.mem_of_getElem? (i := 223) (by decide +kernel), by decide +kernel⟩
theorem tb_224 : Cond.static yqX_within ∈ gtb := List.mem_filter.mpr ⟨List.mem_of_getElem? (i := 224) (by decide +kernel), by decide +kernel⟩
theorem tb_25 : Cond.initialized RqX ∈ gtb := List.mem_filter.mpr ⟨List.mem_of_getElem? (i := 25) (by decide +kernel), by decide +kernel⟩
theorem tb_471 : Cond.code yqJ_floorDiv cqJ_floorDiv 6 (some .long) ∈ gtb := List.mem_filter.mpr ⟨List.mem_of_getElem? (i := 471) (by decide +kernel), by decide +kernel⟩
theorem tb_469 : Cond.methodLink RqX 209 yqJ_floorDiv ∈ gtb := List.mem_filter.mpr ⟨List.mem_of_getElem? (i := 469) (by decide +kernel), by decide +kernel⟩
theorem tb_470 : Cond.static yqJ_floorDiv ∈ gtb := List.mem_filter.mpr ⟨List.mem_of_getElem? (i := 470) (by decide +kernel), by decide +kernel⟩
theorem tb_34 : Cond.initialized RqJ ∈ gtb := List.mem_filter.mpr ⟨List.mem_of_getElem? (i := 34) (by decide +kernel), by decide +kernel⟩
theorem tb_468 : Cond.code yqX_dividedDown cqX_dividedDown 4 (some .long) ∈ gtb := List.mem_filter.mpr ⟨List.mem_of_getElem? (i := 468) (by decide +kernel), by decide +kernel⟩
theorem tb_466 : Cond.methodLink RqX 215 yqX_dividedDown ∈ gtb := List.mem_filter.mpr ⟨List.mem_of_getElem? (i := 466) (by decide +kernel), by decide +kernel⟩
theorem tb_467 : Cond.static yqX_dividedDown ∈ gtb := List.mem_filter.mpr ⟨List.mem_of_getElem? (i := 467) (by decide +kernel), by decide +kernel⟩
theorem tb_486 : Cond.methodLink RqX 218 Lib.MathLoose.max_long.x ∈ gtb := List.mem_filter.mpr ⟨List.mem_of_getElem? (i := 486) (by decide +kernel), by decide +kernel⟩
theorem tb_473 : Cond.static Lib.MathLoose.max_long.x ∈ gtb := List.mem_filter.mpr ⟨List.mem_of_getElem? (i := 473) (by decide +kernel), by decide +kernel⟩
theorem tb_474 : Cond.code Lib.MathLoose.max_long.x Lib.MathLoose.max_long.code 4 (some .long) ∈ gtb := List.mem_filter.mpr ⟨List.mem_of_getElem? (i := 474) (by decide +kernel), by decide +kernel⟩
theorem tb_53 : Cond.fieldLink RqCo 26 "SpringSpaces$Columns" "base" "I" ∈ gtb := List.mem_filter.mpr ⟨List.mem_of_getElem? (i := 53) (by decide +kernel), by decide +kernel⟩
theorem tb_54 : Cond.fieldLink RqCo 29 "SpringSpaces$Columns" "more" "I" ∈ gtb := List.mem_filter.mpr ⟨List.mem_of_getElem? (i := 54) (by decide +kernel), by decide +kernel⟩
theorem tb_52 : Cond.fieldLink RqCo 22 "SpringSpaces$Columns" "count" "I" ∈ gtb := List.mem_filter.mpr ⟨List.mem_of_getElem? (i := 52) (by decide +kernel), by decide +kernel⟩
theorem tb_49 : Cond.fieldLink RqCo 9 "SpringSpaces$Columns" "times" "[I" ∈ gtb := List.mem_filter.mpr ⟨List.mem_of_getElem? (i := 49) (by decide +kernel), by decide +kernel⟩
theorem tb_50 : Cond.fieldLink RqCo 15 "SpringSpaces$Columns" "leasts" "[I" ∈ gtb := List.mem_filter.mpr ⟨List.mem_of_getElem? (i := 50) (by decide +kernel), by decide +kernel⟩
theorem tb_51 : Cond.fieldLink RqCo 18 "SpringSpaces$Columns" "bars" "[Z" ∈ gtb := List.mem_filter.mpr ⟨List.mem_of_getElem? (i := 51) (by decide +kernel), by decide +kernel⟩
theorem tb_276 : Cond.constantLong RqCo 36 65536 ∈ gtb := List.mem_filter.mpr ⟨List.mem_of_getElem? (i := 276) (by decide +kernel), by decide +kernel⟩
theorem tb_76 : Cond.fieldLink RqIt 9 "SpringSpaces$Items" "there" "[Z" ∈ gtb := List.mem_filter.mpr ⟨List.mem_of_getElem? (i := 76) (by decide +kernel), by decide +kernel⟩
theorem tb_307 : Cond.code yqIt_seat cqIt_seat 2 (some .int) ∈ gtb := List.mem_filter.mpr ⟨List.mem_of_getElem? (i := 307) (by decide +kernel), by decide +kernel⟩
theorem tb_305 : Cond.methodLink RqIt 22 yqIt_seat ∈ gtb := List.mem_filter.mpr ⟨List.mem_of_getElem? (i := 305) (by decide +kernel), by decide +kernel⟩
theorem tb_306 : Cond.static yqIt_seat ∈ gtb := List.mem_filter.mpr ⟨List.mem_of_getElem? (i := 306) (by decide +kernel), by decide +kernel⟩
theorem tb_27 : Cond.initialized RqIt ∈ gtb := List.mem_filter.mpr ⟨List.mem_of_getElem? (i := 27) (by decide +kernel), by decide +kernel⟩
theorem tb_77 : Cond.fieldLink RqIt 15 "SpringSpaces$Items" "lefts" "[I" ∈ gtb := List.mem_filter.mpr ⟨List.mem_of_getElem? (i := 77) (by decide +kernel), by decide +kernel⟩
theorem tb_78 : Cond.fieldLink RqIt 19 "SpringSpaces$Items" "rights" "[I" ∈ gtb := List.mem_filter.mpr ⟨List.mem_of_getElem? (i := 78) (by decide +kernel), by decide +kernel⟩
theorem tb_96 : Cond.fieldLink RqRo 25 "SpringSpaces$Rods" "numbers" "I" ∈ gtb := List.mem_filter.mpr ⟨List.mem_of_getElem? (i := 96) (by decide +kernel), by decide +kernel⟩
theorem tb_92 : Cond.fieldLink RqRo 9 "SpringSpaces$Rods" "there" "[Z" ∈ gtb := List.mem_filter.mpr ⟨List.mem_of_getElem? (i := 92) (by decide +kernel), by decide +kernel⟩
theorem tb_93 : Cond.fieldLink RqRo 15 "SpringSpaces$Rods" "froms" "[I" ∈ gtb := List.mem_filter.mpr ⟨List.mem_of_getElem? (i := 93) (by decide +kernel), by decide +kernel⟩
theorem tb_94 : Cond.fieldLink RqRo 19 "SpringSpaces$Rods" "tos" "[I" ∈ gtb := List.mem_filter.mpr ⟨List.mem_of_getElem? (i := 94) (by decide +kernel), by decide +kernel⟩
theorem tb_95 : Cond.fieldLink RqRo 22 "SpringSpaces$Rods" "widths" "[I" ∈ gtb := List.mem_filter.mpr ⟨List.mem_of_getElem? (i := 95) (by decide +kernel), by decide +kernel⟩
theorem tb_97 : Cond.fieldLink RqRo 29 "SpringSpaces$Rods" "count" "I" ∈ gtb := List.mem_filter.mpr ⟨List.mem_of_getElem? (i := 97) (by decide +kernel), by decide +kernel⟩
theorem tb_120 : Cond.fieldLink RqNe 21 "SpringSpaces$Needs" "count" "I" ∈ gtb := List.mem_filter.mpr ⟨List.mem_of_getElem? (i := 120) (by decide +kernel), by decide +kernel⟩
theorem tb_117 : Cond.fieldLink RqNe 9 "SpringSpaces$Needs" "froms" "[I" ∈ gtb := List.mem_filter.mpr ⟨List.mem_of_getElem? (i := 117) (by decide +kernel), by decide +kernel⟩
theorem tb_118 : Cond.fieldLink RqNe 15 "SpringSpaces$Needs" "tos" "[I" ∈ gtb := List.mem_filter.mpr ⟨List.mem_of_getElem? (i := 118) (by decide +kernel), by decide +kernel⟩
theorem tb_119 : Cond.fieldLink RqNe 18 "SpringSpaces$Needs" "widths" "[I" ∈ gtb := List.mem_filter.mpr ⟨List.mem_of_getElem? (i := 119) (by decide +kernel), by decide +kernel⟩
theorem tb_315 : Cond.code yqIt_have cqIt_have 3 (some .boolean) ∈ gtb := List.mem_filter.mpr ⟨List.mem_of_getElem? (i := 315) (by decide +kernel), by decide +kernel⟩
theorem tb_380 : Cond.methodLink RqNe 53 yqIt_have ∈ gtb := List.mem_filter.mpr ⟨List.mem_of_getElem? (i := 380) (by decide +kernel), by decide +kernel⟩
theorem tb_313 : Cond.instanceMethod yqIt_have ∈ gtb := List.mem_filter.mpr ⟨List.mem_of_getElem? (i := 313) (by decide +kernel), by decide +kernel⟩
theorem tb_314 : Cond.selects RqIt yqIt_have yqIt_have ∈ gtb := List.mem_filter.mpr ⟨List.mem_of_getElem? (i := 314) (by decide +kernel), by decide +kernel⟩
theorem tb_384 : Cond.code yqIt_rightOf cqIt_rightOf 3 (some .int) ∈ gtb := List.mem_filter.mpr ⟨List.mem_of_getElem? (i := 384) (by decide +kernel), by decide +kernel⟩
theorem tb_381 : Cond.methodLink RqNe 58 yqIt_rightOf ∈ gtb := List.mem_filter.mpr ⟨List.mem_of_getElem? (i := 381) (by decide +kernel), by decide +kernel⟩
theorem tb_382 : Cond.instanceMethod yqIt_rightOf ∈ gtb := List.mem_filter.mpr ⟨List.mem_of_getElem? (i := 382) (by decide +kernel), by decide +kernel⟩
theorem tb_383 : Cond.selects RqIt yqIt_rightOf yqIt_rightOf ∈ gtb := List.mem_filter.mpr ⟨List.mem_of_getElem? (i := 383) (by decide +kernel), by decide +kernel⟩
theorem tb_388 : Cond.code yqIt_leftOf cqIt_leftOf 3 (some .int) ∈ gtb := List.mem_filter.mpr ⟨List.mem_of_getElem? (i := 388) (by decide +kernel), by decide +kernel⟩
theorem tb_385 : Cond.methodLink RqNe 62 yqIt_leftOf ∈ gtb := List.mem_filter.mpr ⟨List.mem_of_getElem? (i := 385) (by decide +kernel), by decide +kernel⟩
theorem tb_386 : Cond.instanceMethod yqIt_leftOf ∈ gtb := List.mem_filter.mpr ⟨List.mem_of_getElem? (i := 386) (by decide +kernel), by decide +kernel⟩
theorem tb_387 : Cond.selects RqIt yqIt_leftOf yqIt_leftOf ∈ gtb := List.mem_filter.mpr ⟨List.mem_of_getElem? (i := 387) (by decide +kernel), by decide +kernel⟩
theorem tb_392 : Cond.code yqNe_note cqNe_note 4 (none) ∈ gtb := List.mem_filter.mpr ⟨List.mem_of_getElem? (i := 392) (by decide +kernel), by decide +kernel⟩
theorem tb_389 : Cond.methodLink RqNe 49 yqNe_note ∈ gtb := List.mem_filter.mpr ⟨List.mem_of_getElem? (i := 389) (by decide +kernel), by decide +kernel⟩
theorem tb_391 : Cond.instanceMethod yqNe_note ∈ gtb := List.mem_filter.mpr ⟨List.mem_of_getElem? (i := 391) (by decide +kernel), by decide +kernel⟩
theorem tb_3 : Cond.selects RqNe yqNe_note yqNe_note ∈ gtb := List.mem_filter.mpr ⟨List.mem_of_getElem? (i := 3) (by decide +kernel), by decide +kernel⟩
theorem tb_29 : Cond.initialized RqNe ∈ gtb := List.mem_filter.mpr ⟨List.mem_of_getElem? (i := 29) (by decide +kernel), by decide +kernel⟩
theorem tb_396 : Cond.code yqRo_numbersGiven cqRo_numbersGiven 1 (some .int) ∈ gtb := List.mem_filter.mpr ⟨List.mem_of_getElem? (i := 396) (by decide +kernel), by decide +kernel⟩
theorem tb_393 : Cond.methodLink RqNe 29 yqRo_numbersGiven ∈ gtb := List.mem_filter.mpr ⟨List.mem_of_getElem? (i := 393) (by decide +kernel), by decide +kernel⟩
theorem tb_394 : Cond.instanceMethod yqRo_numbersGiven ∈ gtb := List.mem_filter.mpr ⟨List.mem_of_getElem? (i := 394) (by decide +kernel), by decide +kernel⟩
theorem tb_395 : Cond.selects RqRo yqRo_numbersGiven yqRo_numbersGiven ∈ gtb := List.mem_filter.mpr ⟨List.mem_of_getElem? (i := 395) (by decide +kernel), by decide +kernel⟩
theorem tb_28 : Cond.initialized RqRo ∈ gtb := List.mem_filter.mpr ⟨List.mem_of_getElem? (i := 28) (by decide +kernel), by decide +kernel⟩
theorem tb_339 : Cond.code yqRo_have cqRo_have 2 (some .boolean) ∈ gtb := List.mem_filter.mpr ⟨List.mem_of_getElem? (i := 339) (by decide +kernel), by decide +kernel⟩
theorem tb_397 : Cond.methodLink RqNe 35 yqRo_have ∈ gtb := List.mem_filter.mpr ⟨List.mem_of_getElem? (i := 397) (by decide +kernel), by decide +kernel⟩
theorem tb_337 : Cond.instanceMethod yqRo_have ∈ gtb := List.mem_filter.mpr ⟨List.mem_of_getElem? (i := 337) (by decide +kernel), by decide +kernel⟩
theorem tb_338 : Cond.selects RqRo yqRo_have yqRo_have ∈ gtb := List.mem_filter.mpr ⟨List.mem_of_getElem? (i := 338) (by decide +kernel), by decide +kernel⟩
theorem tb_401 : Cond.code yqRo_fromOf cqRo_fromOf 2 (some .int) ∈ gtb := List.mem_filter.mpr ⟨List.mem_of_getElem? (i := 401) (by decide +kernel), by decide +kernel⟩
theorem tb_398 : Cond.methodLink RqNe 39 yqRo_fromOf ∈ gtb := List.mem_filter.mpr ⟨List.mem_of_getElem? (i := 398) (by decide +kernel), by decide +kernel⟩
theorem tb_399 : Cond.instanceMethod yqRo_fromOf ∈ gtb := List.mem_filter.mpr ⟨List.mem_of_getElem? (i := 399) (by decide +kernel), by decide +kernel⟩
theorem tb_400 : Cond.selects RqRo yqRo_fromOf yqRo_fromOf ∈ gtb := List.mem_filter.mpr ⟨List.mem_of_getElem? (i := 400) (by decide +kernel), by decide +kernel⟩
theorem tb_405 : Cond.code yqRo_toOf cqRo_toOf 2 (some .int) ∈ gtb := List.mem_filter.mpr ⟨List.mem_of_getElem? (i := 405) (by decide +kernel), by decide +kernel⟩
theorem tb_402 : Cond.methodLink RqNe 43 yqRo_toOf ∈ gtb := List.mem_filter.mpr ⟨List.mem_of_getElem? (i := 402) (by decide +kernel), by decide +kernel⟩
theorem tb_403 : Cond.instanceMethod yqRo_toOf ∈ gtb := List.mem_filter.mpr ⟨List.mem_of_getElem? (i := 403) (by decide +kernel), by decide +kernel⟩
theorem tb_404 : Cond.selects RqRo yqRo_toOf yqRo_toOf ∈ gtb := List.mem_filter.mpr ⟨List.mem_of_getElem? (i := 404) (by decide +kernel), by decide +kernel⟩
theorem tb_409 : Cond.code yqRo_widthOf cqRo_widthOf 2 (some .int) ∈ gtb := List.mem_filter.mpr ⟨List.mem_of_getElem? (i := 409) (by decide +kernel), by decide +kernel⟩
theorem tb_406 : Cond.methodLink RqNe 46 yqRo_widthOf ∈ gtb := List.mem_filter.mpr ⟨List.mem_of_getElem? (i := 406) (by decide +kernel), by decide +kernel⟩
theorem tb_407 : Cond.instanceMethod yqRo_widthOf ∈ gtb := List.mem_filter.mpr ⟨List.mem_of_getElem? (i := 407) (by decide +kernel), by decide +kernel⟩
theorem tb_408 : Cond.selects RqRo yqRo_widthOf yqRo_widthOf ∈ gtb := List.mem_filter.mpr ⟨List.mem_of_getElem? (i := 408) (by decide +kernel), by decide +kernel⟩
theorem tb_379 : Cond.code yqNe_gatherStaff cqNe_gatherStaff 7 (none) ∈ gtb := List.mem_filter.mpr ⟨List.mem_of_getElem? (i := 379) (by decide +kernel), by decide +kernel⟩
theorem tb_376 : Cond.methodLink RqNe 25 yqNe_gatherStaff ∈ gtb := List.mem_filter.mpr ⟨List.mem_of_getElem? (i := 376) (by decide +kernel), by decide +kernel⟩
theorem tb_378 : Cond.instanceMethod yqNe_gatherStaff ∈ gtb := List.mem_filter.mpr ⟨List.mem_of_getElem? (i := 378) (by decide +kernel), by decide +kernel⟩
theorem tb_2 : Cond.selects RqNe yqNe_gatherStaff yqNe_gatherStaff ∈ gtb := List.mem_filter.mpr ⟨List.mem_of_getElem? (i := 2) (by decide +kernel), by decide +kernel⟩
theorem tb_142 : Cond.fieldLink RqFo 7 "SpringSpaces$Force" "above" "J" ∈ gtb := List.mem_filter.mpr ⟨List.mem_of_getElem? (i := 142) (by decide +kernel), by decide +kernel⟩
theorem tb_143 : Cond.fieldLink RqFo 13 "SpringSpaces$Force" "below" "J" ∈ gtb := List.mem_filter.mpr ⟨List.mem_of_getElem? (i := 143) (by decide +kernel), by decide +kernel⟩
theorem tb_445 : Cond.code yqX_sumOf cqX_sumOf 6 (some .long) ∈ gtb := List.mem_filter.mpr ⟨List.mem_of_getElem? (i := 445) (by decide +kernel), by decide +kernel⟩
theorem tb_444 : Cond.static yqX_sumOf ∈ gtb := List.mem_filter.mpr ⟨List.mem_of_getElem? (i := 444) (by decide +kernel), by decide +kernel⟩
theorem tb_454 : Cond.code yqFo_fit cqFo_fit 12 (none) ∈ gtb := List.mem_filter.mpr ⟨List.mem_of_getElem? (i := 454) (by decide +kernel), by decide +kernel⟩
theorem tb_451 : Cond.methodLink RqFo 22 yqFo_fit ∈ gtb := List.mem_filter.mpr ⟨List.mem_of_getElem? (i := 451) (by decide +kernel), by decide +kernel⟩
theorem tb_453 : Cond.instanceMethod yqFo_fit ∈ gtb := List.mem_filter.mpr ⟨List.mem_of_getElem? (i := 453) (by decide +kernel), by decide +kernel⟩
theorem tb_5 : Cond.selects RqFo yqFo_fit yqFo_fit ∈ gtb := List.mem_filter.mpr ⟨List.mem_of_getElem? (i := 5) (by decide +kernel), by decide +kernel⟩
theorem tb_31 : Cond.initialized RqFo ∈ gtb := List.mem_filter.mpr ⟨List.mem_of_getElem? (i := 31) (by decide +kernel), by decide +kernel⟩
theorem tb_485 : Cond.code yqX_commonDivisor cqX_commonDivisor 11 (some .long) ∈ gtb := List.mem_filter.mpr ⟨List.mem_of_getElem? (i := 485) (by decide +kernel), by decide +kernel⟩
theorem tb_484 : Cond.static yqX_commonDivisor ∈ gtb := List.mem_filter.mpr ⟨List.mem_of_getElem? (i := 484) (by decide +kernel), by decide +kernel⟩
theorem tb_150 : Cond.fieldLink RqLi 9 "SpringSpaces$Line" "leasts" "[J" ∈ gtb := List.mem_filter.mpr ⟨List.mem_of_getElem? (i := 150) (by decide +kernel), by decide +kernel⟩
theorem tb_152 : Cond.fieldLink RqLi 21 "SpringSpaces$Line" "force" "LSpringSpaces$Force;" ∈ gtb := List.mem_filter.mpr ⟨List.mem_of_getElem? (i := 152) (by decide +kernel), by decide +kernel⟩
theorem tb_151 : Cond.fieldLink RqLi 15 "SpringSpaces$Line" "springs" "[J" ∈ gtb := List.mem_filter.mpr ⟨List.mem_of_getElem? (i := 151) (by decide +kernel), by decide +kernel⟩
theorem tb_449 : Cond.code yqFo_find cqFo_find 11 (some .boolean) ∈ gtb := List.mem_filter.mpr ⟨List.mem_of_getElem? (i := 449) (by decide +kernel), by decide +kernel⟩
theorem tb_446 : Cond.methodLink RqLi 72 yqFo_find ∈ gtb := List.mem_filter.mpr ⟨List.mem_of_getElem? (i := 446) (by decide +kernel), by decide +kernel⟩
theorem tb_447 : Cond.instanceMethod yqFo_find ∈ gtb := List.mem_filter.mpr ⟨List.mem_of_getElem? (i := 447) (by decide +kernel), by decide +kernel⟩
theorem tb_448 : Cond.selects RqFo yqFo_find yqFo_find ∈ gtb := List.mem_filter.mpr ⟨List.mem_of_getElem? (i := 448) (by decide +kernel), by decide +kernel⟩
theorem tb_458 : Cond.code yqFo_above cqFo_above 1 (some .long) ∈ gtb := List.mem_filter.mpr ⟨List.mem_of_getElem? (i := 458) (by decide +kernel), by decide +kernel⟩
theorem tb_455 : Cond.methodLink RqLi 76 yqFo_above ∈ gtb := List.mem_filter.mpr ⟨List.mem_of_getElem? (i := 455) (by decide +kernel), by decide +kernel⟩
theorem tb_456 : Cond.instanceMethod yqFo_above ∈ gtb := List.mem_filter.mpr ⟨List.mem_of_getElem? (i := 456) (by decide +kernel), by decide +kernel⟩
theorem tb_457 : Cond.selects RqFo yqFo_above yqFo_above ∈ gtb := List.mem_filter.mpr ⟨List.mem_of_getElem? (i := 457) (by decide +kernel), by decide +kernel⟩
theorem tb_462 : Cond.code yqFo_below cqFo_below 1 (some .long) ∈ gtb := List.mem_filter.mpr ⟨List.mem_of_getElem? (i := 462) (by decide +kernel), by decide +kernel⟩
theorem tb_459 : Cond.methodLink RqLi 80 yqFo_below ∈ gtb := List.mem_filter.mpr ⟨List.mem_of_getElem? (i := 459) (by decide +kernel), by decide +kernel⟩
theorem tb_460 : Cond.instanceMethod yqFo_below ∈ gtb := List.mem_filter.mpr ⟨List.mem_of_getElem? (i := 460) (by decide +kernel), by decide +kernel⟩
theorem tb_461 : Cond.selects RqFo yqFo_below yqFo_below ∈ gtb := List.mem_filter.mpr ⟨List.mem_of_getElem? (i := 461) (by decide +kernel), by decide +kernel⟩
theorem tb_465 : Cond.code yqX_dividedUp cqX_dividedUp 4 (some .long) ∈ gtb := List.mem_filter.mpr ⟨List.mem_of_getElem? (i := 465) (by decide +kernel), by decide +kernel⟩
theorem tb_464 : Cond.static yqX_dividedUp ∈ gtb := List.mem_filter.mpr ⟨List.mem_of_getElem? (i := 464) (by decide +kernel), by decide +kernel⟩
theorem tb_472 : Cond.methodLink RqLi 87 Lib.MathLoose.max_long.x ∈ gtb := List.mem_filter.mpr ⟨List.mem_of_getElem? (i := 472) (by decide +kernel), by decide +kernel⟩
theorem tb_153 : Cond.fieldLink RqLi 25 "SpringSpaces$Line" "first" "I" ∈ gtb := List.mem_filter.mpr ⟨List.mem_of_getElem? (i := 153) (by decide +kernel), by decide +kernel⟩
theorem tb_154 : Cond.fieldLink RqLi 29 "SpringSpaces$Line" "last" "I" ∈ gtb := List.mem_filter.mpr ⟨List.mem_of_getElem? (i := 154) (by decide +kernel), by decide +kernel⟩
theorem tb_426 : Cond.code yqNe_size cqNe_size 1 (some .int) ∈ gtb := List.mem_filter.mpr ⟨List.mem_of_getElem? (i := 426) (by decide +kernel), by decide +kernel⟩
theorem tb_423 : Cond.methodLink RqLi 49 yqNe_size ∈ gtb := List.mem_filter.mpr ⟨List.mem_of_getElem? (i := 423) (by decide +kernel), by decide +kernel⟩
theorem tb_424 : Cond.instanceMethod yqNe_size ∈ gtb := List.mem_filter.mpr ⟨List.mem_of_getElem? (i := 424) (by decide +kernel), by decide +kernel⟩
theorem tb_425 : Cond.selects RqNe yqNe_size yqNe_size ∈ gtb := List.mem_filter.mpr ⟨List.mem_of_getElem? (i := 425) (by decide +kernel), by decide +kernel⟩
theorem tb_430 : Cond.code yqNe_fromOf cqNe_fromOf 2 (some .int) ∈ gtb := List.mem_filter.mpr ⟨List.mem_of_getElem? (i := 430) (by decide +kernel), by decide +kernel⟩
theorem tb_427 : Cond.methodLink RqLi 55 yqNe_fromOf ∈ gtb := List.mem_filter.mpr ⟨List.mem_of_getElem? (i := 427) (by decide +kernel), by decide +kernel⟩
theorem tb_428 : Cond.instanceMethod yqNe_fromOf ∈ gtb := List.mem_filter.mpr ⟨List.mem_of_getElem? (i := 428) (by decide +kernel), by decide +kernel⟩
theorem tb_429 : Cond.selects RqNe yqNe_fromOf yqNe_fromOf ∈ gtb := List.mem_filter.mpr ⟨List.mem_of_getElem? (i := 429) (by decide +kernel), by decide +kernel⟩
theorem tb_434 : Cond.code yqNe_toOf cqNe_toOf 2 (some .int) ∈ gtb := List.mem_filter.mpr ⟨List.mem_of_getElem? (i := 434) (by decide +kernel), by decide +kernel⟩
theorem tb_431 : Cond.methodLink RqLi 58 yqNe_toOf ∈ gtb := List.mem_filter.mpr ⟨List.mem_of_getElem? (i := 431) (by decide +kernel), by decide +kernel⟩
theorem tb_432 : Cond.instanceMethod yqNe_toOf ∈ gtb := List.mem_filter.mpr ⟨List.mem_of_getElem? (i := 432) (by decide +kernel), by decide +kernel⟩
theorem tb_433 : Cond.selects RqNe yqNe_toOf yqNe_toOf ∈ gtb := List.mem_filter.mpr ⟨List.mem_of_getElem? (i := 433) (by decide +kernel), by decide +kernel⟩
theorem tb_438 : Cond.code yqNe_widthOf cqNe_widthOf 2 (some .int) ∈ gtb := List.mem_filter.mpr ⟨List.mem_of_getElem? (i := 438) (by decide +kernel), by decide +kernel⟩
theorem tb_435 : Cond.methodLink RqLi 61 yqNe_widthOf ∈ gtb := List.mem_filter.mpr ⟨List.mem_of_getElem? (i := 435) (by decide +kernel), by decide +kernel⟩
theorem tb_436 : Cond.instanceMethod yqNe_widthOf ∈ gtb := List.mem_filter.mpr ⟨List.mem_of_getElem? (i := 436) (by decide +kernel), by decide +kernel⟩
theorem tb_437 : Cond.selects RqNe yqNe_widthOf yqNe_widthOf ∈ gtb := List.mem_filter.mpr ⟨List.mem_of_getElem? (i := 437) (by decide +kernel), by decide +kernel⟩
theorem tb_442 : Cond.code yqLi_meet cqLi_meet 10 (none) ∈ gtb := List.mem_filter.mpr ⟨List.mem_of_getElem? (i := 442) (by decide +kernel), by decide +kernel⟩
theorem tb_439 : Cond.methodLink RqLi 64 yqLi_meet ∈ gtb := List.mem_filter.mpr ⟨List.mem_of_getElem? (i := 439) (by decide +kernel), by decide +kernel⟩
theorem tb_441 : Cond.instanceMethod yqLi_meet ∈ gtb := List.mem_filter.mpr ⟨List.mem_of_getElem? (i := 441) (by decide +kernel), by decide +kernel⟩
theorem tb_4 : Cond.selects RqLi yqLi_meet yqLi_meet ∈ gtb := List.mem_filter.mpr ⟨List.mem_of_getElem? (i := 4) (by decide +kernel), by decide +kernel⟩
theorem tb_30 : Cond.initialized RqLi ∈ gtb := List.mem_filter.mpr ⟨List.mem_of_getElem? (i := 30) (by decide +kernel), by decide +kernel⟩
theorem tb_417 : Cond.code yqCo_toldLeastOf cqCo_toldLeastOf 2 (some .int) ∈ gtb := List.mem_filter.mpr ⟨List.mem_of_getElem? (i := 417) (by decide +kernel), by decide +kernel⟩
theorem tb_414 : Cond.methodLink RqLi 36 yqCo_toldLeastOf ∈ gtb := List.mem_filter.mpr ⟨List.mem_of_getElem? (i := 414) (by decide +kernel), by decide +kernel⟩
theorem tb_415 : Cond.instanceMethod yqCo_toldLeastOf ∈ gtb := List.mem_filter.mpr ⟨List.mem_of_getElem? (i := 415) (by decide +kernel), by decide +kernel⟩
theorem tb_416 : Cond.selects RqCo yqCo_toldLeastOf yqCo_toldLeastOf ∈ gtb := List.mem_filter.mpr ⟨List.mem_of_getElem? (i := 416) (by decide +kernel), by decide +kernel⟩
theorem tb_26 : Cond.initialized RqCo ∈ gtb := List.mem_filter.mpr ⟨List.mem_of_getElem? (i := 26) (by decide +kernel), by decide +kernel⟩
theorem tb_421 : Cond.code yqCo_durationOf cqCo_durationOf 2 (some .int) ∈ gtb := List.mem_filter.mpr ⟨List.mem_of_getElem? (i := 421) (by decide +kernel), by decide +kernel⟩
theorem tb_418 : Cond.methodLink RqLi 42 yqCo_durationOf ∈ gtb := List.mem_filter.mpr ⟨List.mem_of_getElem? (i := 418) (by decide +kernel), by decide +kernel⟩
theorem tb_419 : Cond.instanceMethod yqCo_durationOf ∈ gtb := List.mem_filter.mpr ⟨List.mem_of_getElem? (i := 419) (by decide +kernel), by decide +kernel⟩
theorem tb_420 : Cond.selects RqCo yqCo_durationOf yqCo_durationOf ∈ gtb := List.mem_filter.mpr ⟨List.mem_of_getElem? (i := 420) (by decide +kernel), by decide +kernel⟩
theorem tb_275 : Cond.code yqCo_springFor cqCo_springFor 7 (some .long) ∈ gtb := List.mem_filter.mpr ⟨List.mem_of_getElem? (i := 275) (by decide +kernel), by decide +kernel⟩
theorem tb_422 : Cond.methodLink RqLi 45 yqCo_springFor ∈ gtb := List.mem_filter.mpr ⟨List.mem_of_getElem? (i := 422) (by decide +kernel), by decide +kernel⟩
theorem tb_273 : Cond.instanceMethod yqCo_springFor ∈ gtb := List.mem_filter.mpr ⟨List.mem_of_getElem? (i := 273) (by decide +kernel), by decide +kernel⟩
theorem tb_274 : Cond.selects RqCo yqCo_springFor yqCo_springFor ∈ gtb := List.mem_filter.mpr ⟨List.mem_of_getElem? (i := 274) (by decide +kernel), by decide +kernel⟩
theorem tb_482 : Cond.code yqFo_bringToLowestTerms cqFo_bringToLowestTerms 3 (none) ∈ gtb := List.mem_filter.mpr ⟨List.mem_of_getElem? (i := 482) (by decide +kernel), by decide +kernel⟩
theorem tb_479 : Cond.methodLink RqLi 92 yqFo_bringToLowestTerms ∈ gtb := List.mem_filter.mpr ⟨List.mem_of_getElem? (i := 479) (by decide +kernel), by decide +kernel⟩
theorem tb_480 : Cond.instanceMethod yqFo_bringToLowestTerms ∈ gtb := List.mem_filter.mpr ⟨List.mem_of_getElem? (i := 480) (by decide +kernel), by decide +kernel⟩
theorem tb_481 : Cond.selects RqFo yqFo_bringToLowestTerms yqFo_bringToLowestTerms ∈ gtb := List.mem_filter.mpr ⟨List.mem_of_getElem? (i := 481) (by decide +kernel), by decide +kernel⟩
theorem tb_490 : Cond.code yqLi_sumOfLeasts cqLi_sumOfLeasts 1 (some .long) ∈ gtb := List.mem_filter.mpr ⟨List.mem_of_getElem? (i := 490) (by decide +kernel), by decide +kernel⟩
theorem tb_487 : Cond.methodLink RqLi 95 yqLi_sumOfLeasts ∈ gtb := List.mem_filter.mpr ⟨List.mem_of_getElem? (i := 487) (by decide +kernel), by decide +kernel⟩
theorem tb_488 : Cond.instanceMethod yqLi_sumOfLeasts ∈ gtb := List.mem_filter.mpr ⟨List.mem_of_getElem? (i := 488) (by decide +kernel), by decide +kernel⟩
theorem tb_489 : Cond.selects RqLi yqLi_sumOfLeasts yqLi_sumOfLeasts ∈ gtb := List.mem_filter.mpr ⟨List.mem_of_getElem? (i := 489) (by decide +kernel), by decide +kernel⟩
theorem tb_155 : Cond.fieldLink RqLi 32 "SpringSpaces$Line" "excess" "J" ∈ gtb := List.mem_filter.mpr ⟨List.mem_of_getElem? (i := 155) (by decide +kernel), by decide +kernel⟩
theorem tb_600 : Cond.constantLong RqLi 98 65536 ∈ gtb := List.mem_filter.mpr ⟨List.mem_of_getElem? (i := 600) (by decide +kernel), by decide +kernel⟩
theorem tb_570 : Cond.code yqCo_timeOf cqCo_timeOf 2 (some .int) ∈ gtb := List.mem_filter.mpr ⟨List.mem_of_getElem? (i := 570) (by decide +kernel), by decide +kernel⟩
theorem tb_567 : Cond.methodLink RqLi 104 yqCo_timeOf ∈ gtb := List.mem_filter.mpr ⟨List.mem_of_getElem? (i := 567) (by decide +kernel), by decide +kernel⟩
theorem tb_568 : Cond.instanceMethod yqCo_timeOf ∈ gtb := List.mem_filter.mpr ⟨List.mem_of_getElem? (i := 568) (by decide +kernel), by decide +kernel⟩
theorem tb_569 : Cond.selects RqCo yqCo_timeOf yqCo_timeOf ∈ gtb := List.mem_filter.mpr ⟨List.mem_of_getElem? (i := 569) (by decide +kernel), by decide +kernel⟩
theorem tb_532 : Cond.code yqLi_widthAbove cqLi_widthAbove 2 (some .long) ∈ gtb := List.mem_filter.mpr ⟨List.mem_of_getElem? (i := 532) (by decide +kernel), by decide +kernel⟩
theorem tb_529 : Cond.methodLink RqLi 107 yqLi_widthAbove ∈ gtb := List.mem_filter.mpr ⟨List.mem_of_getElem? (i := 529) (by decide +kernel), by decide +kernel⟩
theorem tb_531 : Cond.instanceMethod yqLi_widthAbove ∈ gtb := List.mem_filter.mpr ⟨List.mem_of_getElem? (i := 531) (by decide +kernel), by decide +kernel⟩
theorem tb_6 : Cond.selects RqLi yqLi_widthAbove yqLi_widthAbove ∈ gtb := List.mem_filter.mpr ⟨List.mem_of_getElem? (i := 6) (by decide +kernel), by decide +kernel⟩
theorem tb_557 : Cond.code yqLi_widthsAboveBefore cqLi_widthsAboveBefore 5 (some .long) ∈ gtb := List.mem_filter.mpr ⟨List.mem_of_getElem? (i := 557) (by decide +kernel), by decide +kernel⟩
theorem tb_554 : Cond.methodLink RqLi 113 yqLi_widthsAboveBefore ∈ gtb := List.mem_filter.mpr ⟨List.mem_of_getElem? (i := 554) (by decide +kernel), by decide +kernel⟩
theorem tb_556 : Cond.instanceMethod yqLi_widthsAboveBefore ∈ gtb := List.mem_filter.mpr ⟨List.mem_of_getElem? (i := 556) (by decide +kernel), by decide +kernel⟩
theorem tb_7 : Cond.selects RqLi yqLi_widthsAboveBefore yqLi_widthsAboveBefore ∈ gtb := List.mem_filter.mpr ⟨List.mem_of_getElem? (i := 7) (by decide +kernel), by decide +kernel⟩
theorem tb_179 : Cond.fieldLink RqBr 25 "SpringSpaces$Breaks" "size" "I" ∈ gtb := List.mem_filter.mpr ⟨List.mem_of_getElem? (i := 179) (by decide +kernel), by decide +kernel⟩
theorem tb_178 : Cond.fieldLink RqBr 22 "SpringSpaces$Breaks" "begins" "[I" ∈ gtb := List.mem_filter.mpr ⟨List.mem_of_getElem? (i := 178) (by decide +kernel), by decide +kernel⟩
theorem tb_175 : Cond.fieldLink RqBr 9 "SpringSpaces$Breaks" "costs" "[J" ∈ gtb := List.mem_filter.mpr ⟨List.mem_of_getElem? (i := 175) (by decide +kernel), by decide +kernel⟩
theorem tb_599 : Cond.code yqLi_naturalWidth cqLi_naturalWidth 4 (some .long) ∈ gtb := List.mem_filter.mpr ⟨List.mem_of_getElem? (i := 599) (by decide +kernel), by decide +kernel⟩
theorem tb_596 : Cond.methodLink RqBr 57 yqLi_naturalWidth ∈ gtb := List.mem_filter.mpr ⟨List.mem_of_getElem? (i := 596) (by decide +kernel), by decide +kernel⟩
theorem tb_597 : Cond.instanceMethod yqLi_naturalWidth ∈ gtb := List.mem_filter.mpr ⟨List.mem_of_getElem? (i := 597) (by decide +kernel), by decide +kernel⟩
theorem tb_598 : Cond.selects RqLi yqLi_naturalWidth yqLi_naturalWidth ∈ gtb := List.mem_filter.mpr ⟨List.mem_of_getElem? (i := 598) (by decide +kernel), by decide +kernel⟩
theorem tb_601 : Cond.methodLink RqBr 61 yqLi_sumOfLeasts ∈ gtb := List.mem_filter.mpr ⟨List.mem_of_getElem? (i := 601) (by decide +kernel), by decide +kernel⟩
theorem tb_602 : Cond.constantLong RqBr 64 1000000000 ∈ gtb := List.mem_filter.mpr ⟨List.mem_of_getElem? (i := 602) (by decide +kernel), by decide +kernel⟩
theorem tb_176 : Cond.fieldLink RqBr 15 "SpringSpaces$Breaks" "counts" "[I" ∈ gtb := List.mem_filter.mpr ⟨List.mem_of_getElem? (i := 176) (by decide +kernel), by decide +kernel⟩
theorem tb_177 : Cond.fieldLink RqBr 19 "SpringSpaces$Breaks" "nexts" "[I" ∈ gtb := List.mem_filter.mpr ⟨List.mem_of_getElem? (i := 177) (by decide +kernel), by decide +kernel⟩
theorem tb_363 : Cond.code yqCo_lastOne cqCo_lastOne 1 (some .int) ∈ gtb := List.mem_filter.mpr ⟨List.mem_of_getElem? (i := 363) (by decide +kernel), by decide +kernel⟩
theorem tb_583 : Cond.methodLink RqBr 29 yqCo_lastOne ∈ gtb := List.mem_filter.mpr ⟨List.mem_of_getElem? (i := 583) (by decide +kernel), by decide +kernel⟩
theorem tb_361 : Cond.instanceMethod yqCo_lastOne ∈ gtb := List.mem_filter.mpr ⟨List.mem_of_getElem? (i := 361) (by decide +kernel), by decide +kernel⟩
theorem tb_362 : Cond.selects RqCo yqCo_lastOne yqCo_lastOne ∈ gtb := List.mem_filter.mpr ⟨List.mem_of_getElem? (i := 362) (by decide +kernel), by decide +kernel⟩
theorem tb_587 : Cond.code yqCo_mayBreakAt cqCo_mayBreakAt 2 (some .boolean) ∈ gtb := List.mem_filter.mpr ⟨List.mem_of_getElem? (i := 587) (by decide +kernel), by decide +kernel⟩
theorem tb_584 : Cond.methodLink RqBr 35 yqCo_mayBreakAt ∈ gtb := List.mem_filter.mpr ⟨List.mem_of_getElem? (i := 584) (by decide +kernel), by decide +kernel⟩
theorem tb_585 : Cond.instanceMethod yqCo_mayBreakAt ∈ gtb := List.mem_filter.mpr ⟨List.mem_of_getElem? (i := 585) (by decide +kernel), by decide +kernel⟩
theorem tb_586 : Cond.selects RqCo yqCo_mayBreakAt yqCo_mayBreakAt ∈ gtb := List.mem_filter.mpr ⟨List.mem_of_getElem? (i := 586) (by decide +kernel), by decide +kernel⟩
theorem tb_413 : Cond.code yqLi_settle cqLi_settle 6 (none) ∈ gtb := List.mem_filter.mpr ⟨List.mem_of_getElem? (i := 413) (by decide +kernel), by decide +kernel⟩
theorem tb_592 : Cond.methodLink RqBr 47 yqLi_settle ∈ gtb := List.mem_filter.mpr ⟨List.mem_of_getElem? (i := 592) (by decide +kernel), by decide +kernel⟩
theorem tb_411 : Cond.instanceMethod yqLi_settle ∈ gtb := List.mem_filter.mpr ⟨List.mem_of_getElem? (i := 411) (by decide +kernel), by decide +kernel⟩
theorem tb_412 : Cond.selects RqLi yqLi_settle yqLi_settle ∈ gtb := List.mem_filter.mpr ⟨List.mem_of_getElem? (i := 412) (by decide +kernel), by decide +kernel⟩
theorem tb_595 : Cond.code yqBr_costOf cqBr_costOf 7 (some .long) ∈ gtb := List.mem_filter.mpr ⟨List.mem_of_getElem? (i := 595) (by decide +kernel), by decide +kernel⟩
theorem tb_593 : Cond.methodLink RqBr 53 yqBr_costOf ∈ gtb := List.mem_filter.mpr ⟨List.mem_of_getElem? (i := 593) (by decide +kernel), by decide +kernel⟩
theorem tb_594 : Cond.static yqBr_costOf ∈ gtb := List.mem_filter.mpr ⟨List.mem_of_getElem? (i := 594) (by decide +kernel), by decide +kernel⟩
theorem tb_32 : Cond.initialized RqBr ∈ gtb := List.mem_filter.mpr ⟨List.mem_of_getElem? (i := 32) (by decide +kernel), by decide +kernel⟩
theorem tb_606 : Cond.code yqBr_tellBegins cqBr_tellBegins 4 (none) ∈ gtb := List.mem_filter.mpr ⟨List.mem_of_getElem? (i := 606) (by decide +kernel), by decide +kernel⟩
theorem tb_603 : Cond.methodLink RqBr 43 yqBr_tellBegins ∈ gtb := List.mem_filter.mpr ⟨List.mem_of_getElem? (i := 603) (by decide +kernel), by decide +kernel⟩
theorem tb_605 : Cond.instanceMethod yqBr_tellBegins ∈ gtb := List.mem_filter.mpr ⟨List.mem_of_getElem? (i := 605) (by decide +kernel), by decide +kernel⟩
theorem tb_9 : Cond.selects RqBr yqBr_tellBegins yqBr_tellBegins ∈ gtb := List.mem_filter.mpr ⟨List.mem_of_getElem? (i := 9) (by decide +kernel), by decide +kernel⟩
theorem tb_591 : Cond.code yqBr_chooseFrom cqBr_chooseFrom 12 (none) ∈ gtb := List.mem_filter.mpr ⟨List.mem_of_getElem? (i := 591) (by decide +kernel), by decide +kernel⟩
theorem tb_588 : Cond.methodLink RqBr 39 yqBr_chooseFrom ∈ gtb := List.mem_filter.mpr ⟨List.mem_of_getElem? (i := 588) (by decide +kernel), by decide +kernel⟩
theorem tb_590 : Cond.instanceMethod yqBr_chooseFrom ∈ gtb := List.mem_filter.mpr ⟨List.mem_of_getElem? (i := 590) (by decide +kernel), by decide +kernel⟩
theorem tb_8 : Cond.selects RqBr yqBr_chooseFrom yqBr_chooseFrom ∈ gtb := List.mem_filter.mpr ⟨List.mem_of_getElem? (i := 8) (by decide +kernel), by decide +kernel⟩
theorem tb_198 : Cond.fieldLink RqX 54 "SpringSpaces" "atHand" "Z" ∈ gtb := List.mem_filter.mpr ⟨List.mem_of_getElem? (i := 198) (by decide +kernel), by decide +kernel⟩
theorem tb_199 : Cond.fieldLink RqX 58 "SpringSpaces" "broken" "Z" ∈ gtb := List.mem_filter.mpr ⟨List.mem_of_getElem? (i := 199) (by decide +kernel), by decide +kernel⟩
theorem tb_229 : Cond.code yqX_forgetAnswers cqX_forgetAnswers 1 (none) ∈ gtb := List.mem_filter.mpr ⟨List.mem_of_getElem? (i := 229) (by decide +kernel), by decide +kernel⟩
theorem tb_226 : Cond.methodLink RqX 65 yqX_forgetAnswers ∈ gtb := List.mem_filter.mpr ⟨List.mem_of_getElem? (i := 226) (by decide +kernel), by decide +kernel⟩
theorem tb_228 : Cond.instanceMethod yqX_forgetAnswers ∈ gtb := List.mem_filter.mpr ⟨List.mem_of_getElem? (i := 228) (by decide +kernel), by decide +kernel⟩
theorem tb_0 : Cond.selects RqX yqX_forgetAnswers yqX_forgetAnswers ∈ gtb := List.mem_filter.mpr ⟨List.mem_of_getElem? (i := 0) (by decide +kernel), by decide +kernel⟩
theorem tb_191 : Cond.fieldLink RqX 12 "SpringSpaces" "columns" "LSpringSpaces$Columns;" ∈ gtb := List.mem_filter.mpr ⟨List.mem_of_getElem? (i := 191) (by decide +kernel), by decide +kernel⟩
theorem tb_233 : Cond.code yqCo_useTable cqCo_useTable 3 (none) ∈ gtb := List.mem_filter.mpr ⟨List.mem_of_getElem? (i := 233) (by decide +kernel), by decide +kernel⟩
theorem tb_230 : Cond.methodLink RqX 68 yqCo_useTable ∈ gtb := List.mem_filter.mpr ⟨List.mem_of_getElem? (i := 230) (by decide +kernel), by decide +kernel⟩
theorem tb_231 : Cond.instanceMethod yqCo_useTable ∈ gtb := List.mem_filter.mpr ⟨List.mem_of_getElem? (i := 231) (by decide +kernel), by decide +kernel⟩
theorem tb_232 : Cond.selects RqCo yqCo_useTable yqCo_useTable ∈ gtb := List.mem_filter.mpr ⟨List.mem_of_getElem? (i := 232) (by decide +kernel), by decide +kernel⟩
theorem tb_238 : Cond.constant RqX 72 100000 ∈ gtb := List.mem_filter.mpr ⟨List.mem_of_getElem? (i := 238) (by decide +kernel), by decide +kernel⟩
theorem tb_242 : Cond.code yqCo_mayFollow cqCo_mayFollow 2 (some .boolean) ∈ gtb := List.mem_filter.mpr ⟨List.mem_of_getElem? (i := 242) (by decide +kernel), by decide +kernel⟩
theorem tb_239 : Cond.methodLink RqX 73 yqCo_mayFollow ∈ gtb := List.mem_filter.mpr ⟨List.mem_of_getElem? (i := 239) (by decide +kernel), by decide +kernel⟩
theorem tb_240 : Cond.instanceMethod yqCo_mayFollow ∈ gtb := List.mem_filter.mpr ⟨List.mem_of_getElem? (i := 240) (by decide +kernel), by decide +kernel⟩
theorem tb_241 : Cond.selects RqCo yqCo_mayFollow yqCo_mayFollow ∈ gtb := List.mem_filter.mpr ⟨List.mem_of_getElem? (i := 241) (by decide +kernel), by decide +kernel⟩
theorem tb_246 : Cond.code yqCo_areFull cqCo_areFull 1 (some .boolean) ∈ gtb := List.mem_filter.mpr ⟨List.mem_of_getElem? (i := 246) (by decide +kernel), by decide +kernel⟩
theorem tb_243 : Cond.methodLink RqX 77 yqCo_areFull ∈ gtb := List.mem_filter.mpr ⟨List.mem_of_getElem? (i := 243) (by decide +kernel), by decide +kernel⟩
theorem tb_244 : Cond.instanceMethod yqCo_areFull ∈ gtb := List.mem_filter.mpr ⟨List.mem_of_getElem? (i := 244) (by decide +kernel), by decide +kernel⟩
theorem tb_245 : Cond.selects RqCo yqCo_areFull yqCo_areFull ∈ gtb := List.mem_filter.mpr ⟨List.mem_of_getElem? (i := 245) (by decide +kernel), by decide +kernel⟩
theorem tb_250 : Cond.code yqCo_append cqCo_append 3 (some .int) ∈ gtb := List.mem_filter.mpr ⟨List.mem_of_getElem? (i := 250) (by decide +kernel), by decide +kernel⟩
theorem tb_247 : Cond.methodLink RqX 81 yqCo_append ∈ gtb := List.mem_filter.mpr ⟨List.mem_of_getElem? (i := 247) (by decide +kernel), by decide +kernel⟩
theorem tb_248 : Cond.instanceMethod yqCo_append ∈ gtb := List.mem_filter.mpr ⟨List.mem_of_getElem? (i := 248) (by decide +kernel), by decide +kernel⟩
theorem tb_249 : Cond.selects RqCo yqCo_append yqCo_append ∈ gtb := List.mem_filter.mpr ⟨List.mem_of_getElem? (i := 249) (by decide +kernel), by decide +kernel⟩
theorem tb_192 : Cond.fieldLink RqX 19 "SpringSpaces" "items" "LSpringSpaces$Items;" ∈ gtb := List.mem_filter.mpr ⟨List.mem_of_getElem? (i := 192) (by decide +kernel), by decide +kernel⟩
theorem tb_258 : Cond.code yqIt_takeAll cqIt_takeAll 2 (none) ∈ gtb := List.mem_filter.mpr ⟨List.mem_of_getElem? (i := 258) (by decide +kernel), by decide +kernel⟩
theorem tb_255 : Cond.methodLink RqX 85 yqIt_takeAll ∈ gtb := List.mem_filter.mpr ⟨List.mem_of_getElem? (i := 255) (by decide +kernel), by decide +kernel⟩
theorem tb_256 : Cond.instanceMethod yqIt_takeAll ∈ gtb := List.mem_filter.mpr ⟨List.mem_of_getElem? (i := 256) (by decide +kernel), by decide +kernel⟩
theorem tb_257 : Cond.selects RqIt yqIt_takeAll yqIt_takeAll ∈ gtb := List.mem_filter.mpr ⟨List.mem_of_getElem? (i := 257) (by decide +kernel), by decide +kernel⟩
theorem tb_193 : Cond.fieldLink RqX 26 "SpringSpaces" "rods" "LSpringSpaces$Rods;" ∈ gtb := List.mem_filter.mpr ⟨List.mem_of_getElem? (i := 193) (by decide +kernel), by decide +kernel⟩
theorem tb_262 : Cond.code yqRo_takeAll cqRo_takeAll 2 (none) ∈ gtb := List.mem_filter.mpr ⟨List.mem_of_getElem? (i := 262) (by decide +kernel), by decide +kernel⟩
theorem tb_259 : Cond.methodLink RqX 88 yqRo_takeAll ∈ gtb := List.mem_filter.mpr ⟨List.mem_of_getElem? (i := 259) (by decide +kernel), by decide +kernel⟩
theorem tb_260 : Cond.instanceMethod yqRo_takeAll ∈ gtb := List.mem_filter.mpr ⟨List.mem_of_getElem? (i := 260) (by decide +kernel), by decide +kernel⟩
theorem tb_261 : Cond.selects RqRo yqRo_takeAll yqRo_takeAll ∈ gtb := List.mem_filter.mpr ⟨List.mem_of_getElem? (i := 261) (by decide +kernel), by decide +kernel⟩
theorem tb_266 : Cond.code yqCo_takeAll cqCo_takeAll 2 (some .int) ∈ gtb := List.mem_filter.mpr ⟨List.mem_of_getElem? (i := 266) (by decide +kernel), by decide +kernel⟩
theorem tb_263 : Cond.methodLink RqX 89 yqCo_takeAll ∈ gtb := List.mem_filter.mpr ⟨List.mem_of_getElem? (i := 263) (by decide +kernel), by decide +kernel⟩
theorem tb_264 : Cond.instanceMethod yqCo_takeAll ∈ gtb := List.mem_filter.mpr ⟨List.mem_of_getElem? (i := 264) (by decide +kernel), by decide +kernel⟩
theorem tb_265 : Cond.selects RqCo yqCo_takeAll yqCo_takeAll ∈ gtb := List.mem_filter.mpr ⟨List.mem_of_getElem? (i := 265) (by decide +kernel), by decide +kernel⟩
theorem tb_272 : Cond.methodLink RqX 94 yqCo_springFor ∈ gtb := List.mem_filter.mpr ⟨List.mem_of_getElem? (i := 272) (by decide +kernel), by decide +kernel⟩
theorem tb_271 : Cond.constantLong RqX 92 (-2) ∈ gtb := List.mem_filter.mpr ⟨List.mem_of_getElem? (i := 271) (by decide +kernel), by decide +kernel⟩
theorem tb_284 : Cond.code yqCo_haveGap cqCo_haveGap 2 (some .boolean) ∈ gtb := List.mem_filter.mpr ⟨List.mem_of_getElem? (i := 284) (by decide +kernel), by decide +kernel⟩
theorem tb_281 : Cond.methodLink RqX 98 yqCo_haveGap ∈ gtb := List.mem_filter.mpr ⟨List.mem_of_getElem? (i := 281) (by decide +kernel), by decide +kernel⟩
theorem tb_282 : Cond.instanceMethod yqCo_haveGap ∈ gtb := List.mem_filter.mpr ⟨List.mem_of_getElem? (i := 282) (by decide +kernel), by decide +kernel⟩
theorem tb_283 : Cond.selects RqCo yqCo_haveGap yqCo_haveGap ∈ gtb := List.mem_filter.mpr ⟨List.mem_of_getElem? (i := 283) (by decide +kernel), by decide +kernel⟩
theorem tb_289 : Cond.code yqCo_setLeast cqCo_setLeast 4 (some .int) ∈ gtb := List.mem_filter.mpr ⟨List.mem_of_getElem? (i := 289) (by decide +kernel), by decide +kernel⟩
theorem tb_286 : Cond.methodLink RqX 101 yqCo_setLeast ∈ gtb := List.mem_filter.mpr ⟨List.mem_of_getElem? (i := 286) (by decide +kernel), by decide +kernel⟩
theorem tb_287 : Cond.instanceMethod yqCo_setLeast ∈ gtb := List.mem_filter.mpr ⟨List.mem_of_getElem? (i := 287) (by decide +kernel), by decide +kernel⟩
theorem tb_288 : Cond.selects RqCo yqCo_setLeast yqCo_setLeast ∈ gtb := List.mem_filter.mpr ⟨List.mem_of_getElem? (i := 288) (by decide +kernel), by decide +kernel⟩
theorem tb_296 : Cond.code yqX_isStaff cqX_isStaff 1 (some .boolean) ∈ gtb := List.mem_filter.mpr ⟨List.mem_of_getElem? (i := 296) (by decide +kernel), by decide +kernel⟩
theorem tb_294 : Cond.methodLink RqX 105 yqX_isStaff ∈ gtb := List.mem_filter.mpr ⟨List.mem_of_getElem? (i := 294) (by decide +kernel), by decide +kernel⟩
theorem tb_295 : Cond.static yqX_isStaff ∈ gtb := List.mem_filter.mpr ⟨List.mem_of_getElem? (i := 295) (by decide +kernel), by decide +kernel⟩
theorem tb_300 : Cond.code yqCo_have cqCo_have 2 (some .boolean) ∈ gtb := List.mem_filter.mpr ⟨List.mem_of_getElem? (i := 300) (by decide +kernel), by decide +kernel⟩
theorem tb_297 : Cond.methodLink RqX 108 yqCo_have ∈ gtb := List.mem_filter.mpr ⟨List.mem_of_getElem? (i := 297) (by decide +kernel), by decide +kernel⟩
theorem tb_298 : Cond.instanceMethod yqCo_have ∈ gtb := List.mem_filter.mpr ⟨List.mem_of_getElem? (i := 298) (by decide +kernel), by decide +kernel⟩
theorem tb_299 : Cond.selects RqCo yqCo_have yqCo_have ∈ gtb := List.mem_filter.mpr ⟨List.mem_of_getElem? (i := 299) (by decide +kernel), by decide +kernel⟩
theorem tb_304 : Cond.code yqIt_put cqIt_put 7 (some .boolean) ∈ gtb := List.mem_filter.mpr ⟨List.mem_of_getElem? (i := 304) (by decide +kernel), by decide +kernel⟩
theorem tb_301 : Cond.methodLink RqX 111 yqIt_put ∈ gtb := List.mem_filter.mpr ⟨List.mem_of_getElem? (i := 301) (by decide +kernel), by decide +kernel⟩
theorem tb_302 : Cond.instanceMethod yqIt_put ∈ gtb := List.mem_filter.mpr ⟨List.mem_of_getElem? (i := 302) (by decide +kernel), by decide +kernel⟩
theorem tb_303 : Cond.selects RqIt yqIt_put yqIt_put ∈ gtb := List.mem_filter.mpr ⟨List.mem_of_getElem? (i := 303) (by decide +kernel), by decide +kernel⟩
theorem tb_312 : Cond.methodLink RqX 115 yqIt_have ∈ gtb := List.mem_filter.mpr ⟨List.mem_of_getElem? (i := 312) (by decide +kernel), by decide +kernel⟩
theorem tb_319 : Cond.code yqIt_take cqIt_take 3 (none) ∈ gtb := List.mem_filter.mpr ⟨List.mem_of_getElem? (i := 319) (by decide +kernel), by decide +kernel⟩
theorem tb_316 : Cond.methodLink RqX 118 yqIt_take ∈ gtb := List.mem_filter.mpr ⟨List.mem_of_getElem? (i := 316) (by decide +kernel), by decide +kernel⟩
theorem tb_317 : Cond.instanceMethod yqIt_take ∈ gtb := List.mem_filter.mpr ⟨List.mem_of_getElem? (i := 317) (by decide +kernel), by decide +kernel⟩
theorem tb_318 : Cond.selects RqIt yqIt_take yqIt_take ∈ gtb := List.mem_filter.mpr ⟨List.mem_of_getElem? (i := 318) (by decide +kernel), by decide +kernel⟩
theorem tb_327 : Cond.code yqRo_areUsedUp cqRo_areUsedUp 1 (some .boolean) ∈ gtb := List.mem_filter.mpr ⟨List.mem_of_getElem? (i := 327) (by decide +kernel), by decide +kernel⟩
theorem tb_324 : Cond.methodLink RqX 121 yqRo_areUsedUp ∈ gtb := List.mem_filter.mpr ⟨List.mem_of_getElem? (i := 324) (by decide +kernel), by decide +kernel⟩
theorem tb_325 : Cond.instanceMethod yqRo_areUsedUp ∈ gtb := List.mem_filter.mpr ⟨List.mem_of_getElem? (i := 325) (by decide +kernel), by decide +kernel⟩
theorem tb_326 : Cond.selects RqRo yqRo_areUsedUp yqRo_areUsedUp ∈ gtb := List.mem_filter.mpr ⟨List.mem_of_getElem? (i := 326) (by decide +kernel), by decide +kernel⟩
theorem tb_331 : Cond.code yqRo_put cqRo_put 5 (some .int) ∈ gtb := List.mem_filter.mpr ⟨List.mem_of_getElem? (i := 331) (by decide +kernel), by decide +kernel⟩
theorem tb_328 : Cond.methodLink RqX 124 yqRo_put ∈ gtb := List.mem_filter.mpr ⟨List.mem_of_getElem? (i := 328) (by decide +kernel), by decide +kernel⟩
theorem tb_329 : Cond.instanceMethod yqRo_put ∈ gtb := List.mem_filter.mpr ⟨List.mem_of_getElem? (i := 329) (by decide +kernel), by decide +kernel⟩
theorem tb_330 : Cond.selects RqRo yqRo_put yqRo_put ∈ gtb := List.mem_filter.mpr ⟨List.mem_of_getElem? (i := 330) (by decide +kernel), by decide +kernel⟩
theorem tb_336 : Cond.methodLink RqX 127 yqRo_have ∈ gtb := List.mem_filter.mpr ⟨List.mem_of_getElem? (i := 336) (by decide +kernel), by decide +kernel⟩
theorem tb_344 : Cond.code yqRo_take cqRo_take 2 (some .int) ∈ gtb := List.mem_filter.mpr ⟨List.mem_of_getElem? (i := 344) (by decide +kernel), by decide +kernel⟩
theorem tb_341 : Cond.methodLink RqX 128 yqRo_take ∈ gtb := List.mem_filter.mpr ⟨List.mem_of_getElem? (i := 341) (by decide +kernel), by decide +kernel⟩
theorem tb_342 : Cond.instanceMethod yqRo_take ∈ gtb := List.mem_filter.mpr ⟨List.mem_of_getElem? (i := 342) (by decide +kernel), by decide +kernel⟩
theorem tb_343 : Cond.selects RqRo yqRo_take yqRo_take ∈ gtb := List.mem_filter.mpr ⟨List.mem_of_getElem? (i := 343) (by decide +kernel), by decide +kernel⟩
theorem tb_352 : Cond.code yqCo_setBar cqCo_setBar 4 (some .boolean) ∈ gtb := List.mem_filter.mpr ⟨List.mem_of_getElem? (i := 352) (by decide +kernel), by decide +kernel⟩
theorem tb_349 : Cond.methodLink RqX 130 yqCo_setBar ∈ gtb := List.mem_filter.mpr ⟨List.mem_of_getElem? (i := 349) (by decide +kernel), by decide +kernel⟩
theorem tb_350 : Cond.instanceMethod yqCo_setBar ∈ gtb := List.mem_filter.mpr ⟨List.mem_of_getElem? (i := 350) (by decide +kernel), by decide +kernel⟩
theorem tb_351 : Cond.selects RqCo yqCo_setBar yqCo_setBar ∈ gtb := List.mem_filter.mpr ⟨List.mem_of_getElem? (i := 351) (by decide +kernel), by decide +kernel⟩
theorem tb_194 : Cond.fieldLink RqX 33 "SpringSpaces" "needs" "LSpringSpaces$Needs;" ∈ gtb := List.mem_filter.mpr ⟨List.mem_of_getElem? (i := 194) (by decide +kernel), by decide +kernel⟩
theorem tb_371 : Cond.code yqCo_size cqCo_size 1 (some .int) ∈ gtb := List.mem_filter.mpr ⟨List.mem_of_getElem? (i := 371) (by decide +kernel), by decide +kernel⟩
theorem tb_368 : Cond.methodLink RqX 180 yqCo_size ∈ gtb := List.mem_filter.mpr ⟨List.mem_of_getElem? (i := 368) (by decide +kernel), by decide +kernel⟩
theorem tb_369 : Cond.instanceMethod yqCo_size ∈ gtb := List.mem_filter.mpr ⟨List.mem_of_getElem? (i := 369) (by decide +kernel), by decide +kernel⟩
theorem tb_370 : Cond.selects RqCo yqCo_size yqCo_size ∈ gtb := List.mem_filter.mpr ⟨List.mem_of_getElem? (i := 370) (by decide +kernel), by decide +kernel⟩
theorem tb_375 : Cond.code yqNe_gather cqNe_gather 5 (none) ∈ gtb := List.mem_filter.mpr ⟨List.mem_of_getElem? (i := 375) (by decide +kernel), by decide +kernel⟩
theorem tb_372 : Cond.methodLink RqX 183 yqNe_gather ∈ gtb := List.mem_filter.mpr ⟨List.mem_of_getElem? (i := 372) (by decide +kernel), by decide +kernel⟩
theorem tb_373 : Cond.instanceMethod yqNe_gather ∈ gtb := List.mem_filter.mpr ⟨List.mem_of_getElem? (i := 373) (by decide +kernel), by decide +kernel⟩
theorem tb_374 : Cond.selects RqNe yqNe_gather yqNe_gather ∈ gtb := List.mem_filter.mpr ⟨List.mem_of_getElem? (i := 374) (by decide +kernel), by decide +kernel⟩
theorem tb_195 : Cond.fieldLink RqX 40 "SpringSpaces" "hand" "LSpringSpaces$Line;" ∈ gtb := List.mem_filter.mpr ⟨List.mem_of_getElem? (i := 195) (by decide +kernel), by decide +kernel⟩
theorem tb_410 : Cond.methodLink RqX 199 yqLi_settle ∈ gtb := List.mem_filter.mpr ⟨List.mem_of_getElem? (i := 410) (by decide +kernel), by decide +kernel⟩
theorem tb_478 : Cond.code yqLi_stretch cqLi_stretch 3 (some .int) ∈ gtb := List.mem_filter.mpr ⟨List.mem_of_getElem? (i := 478) (by decide +kernel), by decide +kernel⟩
theorem tb_475 : Cond.methodLink RqX 206 yqLi_stretch ∈ gtb := List.mem_filter.mpr ⟨List.mem_of_getElem? (i := 475) (by decide +kernel), by decide +kernel⟩
theorem tb_476 : Cond.instanceMethod yqLi_stretch ∈ gtb := List.mem_filter.mpr ⟨List.mem_of_getElem? (i := 476) (by decide +kernel), by decide +kernel⟩
theorem tb_477 : Cond.selects RqLi yqLi_stretch yqLi_stretch ∈ gtb := List.mem_filter.mpr ⟨List.mem_of_getElem? (i := 477) (by decide +kernel), by decide +kernel⟩
theorem tb_359 : Cond.code yqX_isExtent cqX_isExtent 1 (some .boolean) ∈ gtb := List.mem_filter.mpr ⟨List.mem_of_getElem? (i := 359) (by decide +kernel), by decide +kernel⟩
theorem tb_357 : Cond.methodLink RqX 134 yqX_isExtent ∈ gtb := List.mem_filter.mpr ⟨List.mem_of_getElem? (i := 357) (by decide +kernel), by decide +kernel⟩
theorem tb_358 : Cond.static yqX_isExtent ∈ gtb := List.mem_filter.mpr ⟨List.mem_of_getElem? (i := 358) (by decide +kernel), by decide +kernel⟩
theorem tb_360 : Cond.methodLink RqX 137 yqCo_lastOne ∈ gtb := List.mem_filter.mpr ⟨List.mem_of_getElem? (i := 360) (by decide +kernel), by decide +kernel⟩
theorem tb_367 : Cond.code yqX_takeInHand cqX_takeInHand 4 (some .int) ∈ gtb := List.mem_filter.mpr ⟨List.mem_of_getElem? (i := 367) (by decide +kernel), by decide +kernel⟩
theorem tb_364 : Cond.methodLink RqX 140 yqX_takeInHand ∈ gtb := List.mem_filter.mpr ⟨List.mem_of_getElem? (i := 364) (by decide +kernel), by decide +kernel⟩
theorem tb_366 : Cond.instanceMethod yqX_takeInHand ∈ gtb := List.mem_filter.mpr ⟨List.mem_of_getElem? (i := 366) (by decide +kernel), by decide +kernel⟩
theorem tb_1 : Cond.selects RqX yqX_takeInHand yqX_takeInHand ∈ gtb := List.mem_filter.mpr ⟨List.mem_of_getElem? (i := 1) (by decide +kernel), by decide +kernel⟩
theorem tb_502 : Cond.code yqLi_excess cqLi_excess 1 (some .int) ∈ gtb := List.mem_filter.mpr ⟨List.mem_of_getElem? (i := 502) (by decide +kernel), by decide +kernel⟩
theorem tb_499 : Cond.methodLink RqX 143 yqLi_excess ∈ gtb := List.mem_filter.mpr ⟨List.mem_of_getElem? (i := 499) (by decide +kernel), by decide +kernel⟩
theorem tb_500 : Cond.instanceMethod yqLi_excess ∈ gtb := List.mem_filter.mpr ⟨List.mem_of_getElem? (i := 500) (by decide +kernel), by decide +kernel⟩
theorem tb_501 : Cond.selects RqLi yqLi_excess yqLi_excess ∈ gtb := List.mem_filter.mpr ⟨List.mem_of_getElem? (i := 501) (by decide +kernel), by decide +kernel⟩
theorem tb_509 : Cond.code yqX_isPart cqX_isPart 1 (some .boolean) ∈ gtb := List.mem_filter.mpr ⟨List.mem_of_getElem? (i := 509) (by decide +kernel), by decide +kernel⟩
theorem tb_507 : Cond.methodLink RqX 146 yqX_isPart ∈ gtb := List.mem_filter.mpr ⟨List.mem_of_getElem? (i := 507) (by decide +kernel), by decide +kernel⟩
theorem tb_508 : Cond.static yqX_isPart ∈ gtb := List.mem_filter.mpr ⟨List.mem_of_getElem? (i := 508) (by decide +kernel), by decide +kernel⟩
theorem tb_514 : Cond.code yqLi_forcePart cqLi_forcePart 2 (some .long) ∈ gtb := List.mem_filter.mpr ⟨List.mem_of_getElem? (i := 514) (by decide +kernel), by decide +kernel⟩
theorem tb_511 : Cond.methodLink RqX 151 yqLi_forcePart ∈ gtb := List.mem_filter.mpr ⟨List.mem_of_getElem? (i := 511) (by decide +kernel), by decide +kernel⟩
theorem tb_512 : Cond.instanceMethod yqLi_forcePart ∈ gtb := List.mem_filter.mpr ⟨List.mem_of_getElem? (i := 512) (by decide +kernel), by decide +kernel⟩
theorem tb_513 : Cond.selects RqLi yqLi_forcePart yqLi_forcePart ∈ gtb := List.mem_filter.mpr ⟨List.mem_of_getElem? (i := 513) (by decide +kernel), by decide +kernel⟩
theorem tb_510 : Cond.constantLong RqX 149 (-3) ∈ gtb := List.mem_filter.mpr ⟨List.mem_of_getElem? (i := 510) (by decide +kernel), by decide +kernel⟩
theorem tb_522 : Cond.code yqLi_hasGap cqLi_hasGap 2 (some .boolean) ∈ gtb := List.mem_filter.mpr ⟨List.mem_of_getElem? (i := 522) (by decide +kernel), by decide +kernel⟩
theorem tb_519 : Cond.methodLink RqX 154 yqLi_hasGap ∈ gtb := List.mem_filter.mpr ⟨List.mem_of_getElem? (i := 519) (by decide +kernel), by decide +kernel⟩
theorem tb_520 : Cond.instanceMethod yqLi_hasGap ∈ gtb := List.mem_filter.mpr ⟨List.mem_of_getElem? (i := 520) (by decide +kernel), by decide +kernel⟩
theorem tb_521 : Cond.selects RqLi yqLi_hasGap yqLi_hasGap ∈ gtb := List.mem_filter.mpr ⟨List.mem_of_getElem? (i := 521) (by decide +kernel), by decide +kernel⟩
theorem tb_528 : Cond.code yqLi_widthPart cqLi_widthPart 7 (some .long) ∈ gtb := List.mem_filter.mpr ⟨List.mem_of_getElem? (i := 528) (by decide +kernel), by decide +kernel⟩
theorem tb_525 : Cond.methodLink RqX 159 yqLi_widthPart ∈ gtb := List.mem_filter.mpr ⟨List.mem_of_getElem? (i := 525) (by decide +kernel), by decide +kernel⟩
theorem tb_526 : Cond.instanceMethod yqLi_widthPart ∈ gtb := List.mem_filter.mpr ⟨List.mem_of_getElem? (i := 526) (by decide +kernel), by decide +kernel⟩
theorem tb_527 : Cond.selects RqLi yqLi_widthPart yqLi_widthPart ∈ gtb := List.mem_filter.mpr ⟨List.mem_of_getElem? (i := 527) (by decide +kernel), by decide +kernel⟩
theorem tb_524 : Cond.constantLong RqX 157 (-1) ∈ gtb := List.mem_filter.mpr ⟨List.mem_of_getElem? (i := 524) (by decide +kernel), by decide +kernel⟩
theorem tb_541 : Cond.code yqLi_leastOf cqLi_leastOf 2 (some .int) ∈ gtb := List.mem_filter.mpr ⟨List.mem_of_getElem? (i := 541) (by decide +kernel), by decide +kernel⟩
theorem tb_538 : Cond.methodLink RqX 163 yqLi_leastOf ∈ gtb := List.mem_filter.mpr ⟨List.mem_of_getElem? (i := 538) (by decide +kernel), by decide +kernel⟩
theorem tb_539 : Cond.instanceMethod yqLi_leastOf ∈ gtb := List.mem_filter.mpr ⟨List.mem_of_getElem? (i := 539) (by decide +kernel), by decide +kernel⟩
theorem tb_540 : Cond.selects RqLi yqLi_leastOf yqLi_leastOf ∈ gtb := List.mem_filter.mpr ⟨List.mem_of_getElem? (i := 540) (by decide +kernel), by decide +kernel⟩
theorem tb_549 : Cond.code yqLi_hasColumn cqLi_hasColumn 2 (some .boolean) ∈ gtb := List.mem_filter.mpr ⟨List.mem_of_getElem? (i := 549) (by decide +kernel), by decide +kernel⟩
theorem tb_546 : Cond.methodLink RqX 166 yqLi_hasColumn ∈ gtb := List.mem_filter.mpr ⟨List.mem_of_getElem? (i := 546) (by decide +kernel), by decide +kernel⟩
theorem tb_547 : Cond.instanceMethod yqLi_hasColumn ∈ gtb := List.mem_filter.mpr ⟨List.mem_of_getElem? (i := 547) (by decide +kernel), by decide +kernel⟩
theorem tb_548 : Cond.selects RqLi yqLi_hasColumn yqLi_hasColumn ∈ gtb := List.mem_filter.mpr ⟨List.mem_of_getElem? (i := 548) (by decide +kernel), by decide +kernel⟩
theorem tb_553 : Cond.code yqLi_placeOf cqLi_placeOf 2 (some .int) ∈ gtb := List.mem_filter.mpr ⟨List.mem_of_getElem? (i := 553) (by decide +kernel), by decide +kernel⟩
theorem tb_550 : Cond.methodLink RqX 169 yqLi_placeOf ∈ gtb := List.mem_filter.mpr ⟨List.mem_of_getElem? (i := 550) (by decide +kernel), by decide +kernel⟩
theorem tb_551 : Cond.instanceMethod yqLi_placeOf ∈ gtb := List.mem_filter.mpr ⟨List.mem_of_getElem? (i := 551) (by decide +kernel), by decide +kernel⟩
theorem tb_552 : Cond.selects RqLi yqLi_placeOf yqLi_placeOf ∈ gtb := List.mem_filter.mpr ⟨List.mem_of_getElem? (i := 552) (by decide +kernel), by decide +kernel⟩
theorem tb_566 : Cond.code yqLi_spans cqLi_spans 3 (some .boolean) ∈ gtb := List.mem_filter.mpr ⟨List.mem_of_getElem? (i := 566) (by decide +kernel), by decide +kernel⟩
theorem tb_563 : Cond.methodLink RqX 172 yqLi_spans ∈ gtb := List.mem_filter.mpr ⟨List.mem_of_getElem? (i := 563) (by decide +kernel), by decide +kernel⟩
theorem tb_564 : Cond.instanceMethod yqLi_spans ∈ gtb := List.mem_filter.mpr ⟨List.mem_of_getElem? (i := 564) (by decide +kernel), by decide +kernel⟩
theorem tb_565 : Cond.selects RqLi yqLi_spans yqLi_spans ∈ gtb := List.mem_filter.mpr ⟨List.mem_of_getElem? (i := 565) (by decide +kernel), by decide +kernel⟩
theorem tb_574 : Cond.code yqLi_placeAt cqLi_placeAt 10 (some .int) ∈ gtb := List.mem_filter.mpr ⟨List.mem_of_getElem? (i := 574) (by decide +kernel), by decide +kernel⟩
theorem tb_571 : Cond.methodLink RqX 176 yqLi_placeAt ∈ gtb := List.mem_filter.mpr ⟨List.mem_of_getElem? (i := 571) (by decide +kernel), by decide +kernel⟩
theorem tb_572 : Cond.instanceMethod yqLi_placeAt ∈ gtb := List.mem_filter.mpr ⟨List.mem_of_getElem? (i := 572) (by decide +kernel), by decide +kernel⟩
theorem tb_573 : Cond.selects RqLi yqLi_placeAt yqLi_placeAt ∈ gtb := List.mem_filter.mpr ⟨List.mem_of_getElem? (i := 573) (by decide +kernel), by decide +kernel⟩
theorem tb_196 : Cond.fieldLink RqX 44 "SpringSpaces" "trial" "LSpringSpaces$Line;" ∈ gtb := List.mem_filter.mpr ⟨List.mem_of_getElem? (i := 196) (by decide +kernel), by decide +kernel⟩
theorem tb_631 : Cond.methodLink RqX 203 yqLi_naturalWidth ∈ gtb := List.mem_filter.mpr ⟨List.mem_of_getElem? (i := 631) (by decide +kernel), by decide +kernel⟩
theorem tb_197 : Cond.fieldLink RqX 50 "SpringSpaces" "breaks" "LSpringSpaces$Breaks;" ∈ gtb := List.mem_filter.mpr ⟨List.mem_of_getElem? (i := 197) (by decide +kernel), by decide +kernel⟩
theorem tb_582 : Cond.code yqBr_choose cqBr_choose 7 (none) ∈ gtb := List.mem_filter.mpr ⟨List.mem_of_getElem? (i := 582) (by decide +kernel), by decide +kernel⟩
theorem tb_579 : Cond.methodLink RqX 187 yqBr_choose ∈ gtb := List.mem_filter.mpr ⟨List.mem_of_getElem? (i := 579) (by decide +kernel), by decide +kernel⟩
theorem tb_580 : Cond.instanceMethod yqBr_choose ∈ gtb := List.mem_filter.mpr ⟨List.mem_of_getElem? (i := 580) (by decide +kernel), by decide +kernel⟩
theorem tb_581 : Cond.selects RqBr yqBr_choose yqBr_choose ∈ gtb := List.mem_filter.mpr ⟨List.mem_of_getElem? (i := 581) (by decide +kernel), by decide +kernel⟩
theorem tb_610 : Cond.code yqBr_size cqBr_size 1 (some .int) ∈ gtb := List.mem_filter.mpr ⟨List.mem_of_getElem? (i := 610) (by decide +kernel), by decide +kernel⟩
theorem tb_607 : Cond.methodLink RqX 191 yqBr_size ∈ gtb := List.mem_filter.mpr ⟨List.mem_of_getElem? (i := 607) (by decide +kernel), by decide +kernel⟩
theorem tb_608 : Cond.instanceMethod yqBr_size ∈ gtb := List.mem_filter.mpr ⟨List.mem_of_getElem? (i := 608) (by decide +kernel), by decide +kernel⟩
theorem tb_609 : Cond.selects RqBr yqBr_size yqBr_size ∈ gtb := List.mem_filter.mpr ⟨List.mem_of_getElem? (i := 609) (by decide +kernel), by decide +kernel⟩
theorem tb_618 : Cond.code yqBr_beginOf cqBr_beginOf 2 (some .int) ∈ gtb := List.mem_filter.mpr ⟨List.mem_of_getElem? (i := 618) (by decide +kernel), by decide +kernel⟩
theorem tb_615 : Cond.methodLink RqX 192 yqBr_beginOf ∈ gtb := List.mem_filter.mpr ⟨List.mem_of_getElem? (i := 615) (by decide +kernel), by decide +kernel⟩
theorem tb_616 : Cond.instanceMethod yqBr_beginOf ∈ gtb := List.mem_filter.mpr ⟨List.mem_of_getElem? (i := 616) (by decide +kernel), by decide +kernel⟩
theorem tb_617 : Cond.selects RqBr yqBr_beginOf yqBr_beginOf ∈ gtb := List.mem_filter.mpr ⟨List.mem_of_getElem? (i := 617) (by decide +kernel), by decide +kernel⟩
theorem tb_626 : Cond.code yqBr_wholeCost cqBr_wholeCost 1 (some .long) ∈ gtb := List.mem_filter.mpr ⟨List.mem_of_getElem? (i := 626) (by decide +kernel), by decide +kernel⟩
theorem tb_623 : Cond.methodLink RqX 195 yqBr_wholeCost ∈ gtb := List.mem_filter.mpr ⟨List.mem_of_getElem? (i := 623) (by decide +kernel), by decide +kernel⟩
theorem tb_624 : Cond.instanceMethod yqBr_wholeCost ∈ gtb := List.mem_filter.mpr ⟨List.mem_of_getElem? (i := 624) (by decide +kernel), by decide +kernel⟩
theorem tb_625 : Cond.selects RqBr yqBr_wholeCost yqBr_wholeCost ∈ gtb := List.mem_filter.mpr ⟨List.mem_of_getElem? (i := 625) (by decide +kernel), by decide +kernel⟩
theorem tb_48 : Cond.methodLink RqCo 3 objectInit ∈ gtb := List.mem_filter.mpr ⟨List.mem_of_getElem? (i := 48) (by decide +kernel), by decide +kernel⟩
theorem tb_41 : Cond.instanceMethod objectInit ∈ gtb := List.mem_filter.mpr ⟨List.mem_of_getElem? (i := 41) (by decide +kernel), by decide +kernel⟩
theorem tb_42 : Cond.code objectInit ⟨#[0xb1]⟩ 1 none ∈ gtb := List.mem_filter.mpr ⟨List.mem_of_getElem? (i := 42) (by decide +kernel), by decide +kernel⟩
theorem tb_68 : Cond.arrayClass .int ∈ gtb := List.mem_filter.mpr ⟨List.mem_of_getElem? (i := 68) (by decide +kernel), by decide +kernel⟩
theorem tb_69 : Cond.arrayClass .boolean ∈ gtb := List.mem_filter.mpr ⟨List.mem_of_getElem? (i := 69) (by decide +kernel), by decide +kernel⟩
theorem tb_75 : Cond.methodLink RqIt 3 objectInit ∈ gtb := List.mem_filter.mpr ⟨List.mem_of_getElem? (i := 75) (by decide +kernel), by decide +kernel⟩
theorem tb_91 : Cond.methodLink RqRo 3 objectInit ∈ gtb := List.mem_filter.mpr ⟨List.mem_of_getElem? (i := 91) (by decide +kernel), by decide +kernel⟩
theorem tb_116 : Cond.methodLink RqNe 3 objectInit ∈ gtb := List.mem_filter.mpr ⟨List.mem_of_getElem? (i := 116) (by decide +kernel), by decide +kernel⟩
theorem tb_141 : Cond.methodLink RqFo 1 objectInit ∈ gtb := List.mem_filter.mpr ⟨List.mem_of_getElem? (i := 141) (by decide +kernel), by decide +kernel⟩
theorem tb_135 : Cond.methodLink RqLi 3 objectInit ∈ gtb := List.mem_filter.mpr ⟨List.mem_of_getElem? (i := 135) (by decide +kernel), by decide +kernel⟩
theorem tb_149 : Cond.arrayClass .long ∈ gtb := List.mem_filter.mpr ⟨List.mem_of_getElem? (i := 149) (by decide +kernel), by decide +kernel⟩
theorem tb_136 : Cond.classLink RqLi 18 RqFo ∈ gtb := List.mem_filter.mpr ⟨List.mem_of_getElem? (i := 136) (by decide +kernel), by decide +kernel⟩
theorem tb_137 : Cond.instantiable RqFo 2 ∈ gtb := List.mem_filter.mpr ⟨List.mem_of_getElem? (i := 137) (by decide +kernel), by decide +kernel⟩
theorem tb_140 : Cond.code yqFo_init cqFo_init 1 (none) ∈ gtb := List.mem_filter.mpr ⟨List.mem_of_getElem? (i := 140) (by decide +kernel), by decide +kernel⟩
theorem tb_139 : Cond.instanceMethod yqFo_init ∈ gtb := List.mem_filter.mpr ⟨List.mem_of_getElem? (i := 139) (by decide +kernel), by decide +kernel⟩
theorem tb_174 : Cond.methodLink RqBr 3 objectInit ∈ gtb := List.mem_filter.mpr ⟨List.mem_of_getElem? (i := 174) (by decide +kernel), by decide +kernel⟩
theorem tb_40 : Cond.methodLink RqX 3 objectInit ∈ gtb := List.mem_filter.mpr ⟨List.mem_of_getElem? (i := 40) (by decide +kernel), by decide +kernel⟩
theorem tb_43 : Cond.classLink RqX 9 RqCo ∈ gtb := List.mem_filter.mpr ⟨List.mem_of_getElem? (i := 43) (by decide +kernel), by decide +kernel⟩
theorem tb_44 : Cond.instantiable RqCo 6 ∈ gtb := List.mem_filter.mpr ⟨List.mem_of_getElem? (i := 44) (by decide +kernel), by decide +kernel⟩
theorem tb_47 : Cond.code yqCo_init cqCo_init 1 (none) ∈ gtb := List.mem_filter.mpr ⟨List.mem_of_getElem? (i := 47) (by decide +kernel), by decide +kernel⟩
theorem tb_46 : Cond.instanceMethod yqCo_init ∈ gtb := List.mem_filter.mpr ⟨List.mem_of_getElem? (i := 46) (by decide +kernel), by decide +kernel⟩
theorem tb_70 : Cond.classLink RqX 16 RqIt ∈ gtb := List.mem_filter.mpr ⟨List.mem_of_getElem? (i := 70) (by decide +kernel), by decide +kernel⟩
theorem tb_71 : Cond.instantiable RqIt 3 ∈ gtb := List.mem_filter.mpr ⟨List.mem_of_getElem? (i := 71) (by decide +kernel), by decide +kernel⟩
theorem tb_74 : Cond.code yqIt_init cqIt_init 1 (none) ∈ gtb := List.mem_filter.mpr ⟨List.mem_of_getElem? (i := 74) (by decide +kernel), by decide +kernel⟩
theorem tb_73 : Cond.instanceMethod yqIt_init ∈ gtb := List.mem_filter.mpr ⟨List.mem_of_getElem? (i := 73) (by decide +kernel), by decide +kernel⟩
theorem tb_86 : Cond.classLink RqX 23 RqRo ∈ gtb := List.mem_filter.mpr ⟨List.mem_of_getElem? (i := 86) (by decide +kernel), by decide +kernel⟩
theorem tb_87 : Cond.instantiable RqRo 6 ∈ gtb := List.mem_filter.mpr ⟨List.mem_of_getElem? (i := 87) (by decide +kernel), by decide +kernel⟩
theorem tb_90 : Cond.code yqRo_init cqRo_init 1 (none) ∈ gtb := List.mem_filter.mpr ⟨List.mem_of_getElem? (i := 90) (by decide +kernel), by decide +kernel⟩
theorem tb_89 : Cond.instanceMethod yqRo_init ∈ gtb := List.mem_filter.mpr ⟨List.mem_of_getElem? (i := 89) (by decide +kernel), by decide +kernel⟩
theorem tb_111 : Cond.classLink RqX 30 RqNe ∈ gtb := List.mem_filter.mpr ⟨List.mem_of_getElem? (i := 111) (by decide +kernel), by decide +kernel⟩
theorem tb_112 : Cond.instantiable RqNe 4 ∈ gtb := List.mem_filter.mpr ⟨List.mem_of_getElem? (i := 112) (by decide +kernel), by decide +kernel⟩
theorem tb_115 : Cond.code yqNe_init cqNe_init 1 (none) ∈ gtb := List.mem_filter.mpr ⟨List.mem_of_getElem? (i := 115) (by decide +kernel), by decide +kernel⟩
theorem tb_114 : Cond.instanceMethod yqNe_init ∈ gtb := List.mem_filter.mpr ⟨List.mem_of_getElem? (i := 114) (by decide +kernel), by decide +kernel⟩
theorem tb_130 : Cond.classLink RqX 37 RqLi ∈ gtb := List.mem_filter.mpr ⟨List.mem_of_getElem? (i := 130) (by decide +kernel), by decide +kernel⟩
theorem tb_131 : Cond.instantiable RqLi 6 ∈ gtb := List.mem_filter.mpr ⟨List.mem_of_getElem? (i := 131) (by decide +kernel), by decide +kernel⟩
theorem tb_134 : Cond.code yqLi_init cqLi_init 1 (none) ∈ gtb := List.mem_filter.mpr ⟨List.mem_of_getElem? (i := 134) (by decide +kernel), by decide +kernel⟩
theorem tb_133 : Cond.instanceMethod yqLi_init ∈ gtb := List.mem_filter.mpr ⟨List.mem_of_getElem? (i := 133) (by decide +kernel), by decide +kernel⟩
theorem tb_169 : Cond.classLink RqX 47 RqBr ∈ gtb := List.mem_filter.mpr ⟨List.mem_of_getElem? (i := 169) (by decide +kernel), by decide +kernel⟩
theorem tb_170 : Cond.instantiable RqBr 5 ∈ gtb := List.mem_filter.mpr ⟨List.mem_of_getElem? (i := 170) (by decide +kernel), by decide +kernel⟩
theorem tb_173 : Cond.code yqBr_init cqBr_init 1 (none) ∈ gtb := List.mem_filter.mpr ⟨List.mem_of_getElem? (i := 173) (by decide +kernel), by decide +kernel⟩
theorem tb_172 : Cond.instanceMethod yqBr_init ∈ gtb := List.mem_filter.mpr ⟨List.mem_of_getElem? (i := 172) (by decide +kernel), by decide +kernel⟩
theorem tb_637 : Cond.methodLink RqM 1 objectInit ∈ gtb := List.mem_filter.mpr ⟨List.mem_of_getElem? (i := 637) (by decide +kernel), by decide +kernel⟩
theorem tb_638 : Cond.fieldLink RqM 7 "SpringSpacesModel" "base" "I" ∈ gtb := List.mem_filter.mpr ⟨List.mem_of_getElem? (i := 638) (by decide +kernel), by decide +kernel⟩
theorem tb_639 : Cond.fieldLink RqM 13 "SpringSpacesModel" "more" "I" ∈ gtb := List.mem_filter.mpr ⟨List.mem_of_getElem? (i := 639) (by decide +kernel), by decide +kernel⟩
theorem tb_641 : Cond.fieldLink RqM 16 "SpringSpacesModel" "times" "[I" ∈ gtb := List.mem_filter.mpr ⟨List.mem_of_getElem? (i := 641) (by decide +kernel), by decide +kernel⟩
theorem tb_642 : Cond.fieldLink RqM 20 "SpringSpacesModel" "leasts" "[I" ∈ gtb := List.mem_filter.mpr ⟨List.mem_of_getElem? (i := 642) (by decide +kernel), by decide +kernel⟩
theorem tb_643 : Cond.fieldLink RqM 23 "SpringSpacesModel" "bars" "[Z" ∈ gtb := List.mem_filter.mpr ⟨List.mem_of_getElem? (i := 643) (by decide +kernel), by decide +kernel⟩
theorem tb_644 : Cond.fieldLink RqM 27 "SpringSpacesModel" "isItem" "[Z" ∈ gtb := List.mem_filter.mpr ⟨List.mem_of_getElem? (i := 644) (by decide +kernel), by decide +kernel⟩
theorem tb_645 : Cond.fieldLink RqM 30 "SpringSpacesModel" "lefts" "[I" ∈ gtb := List.mem_filter.mpr ⟨List.mem_of_getElem? (i := 645) (by decide +kernel), by decide +kernel⟩
theorem tb_646 : Cond.fieldLink RqM 33 "SpringSpacesModel" "rights" "[I" ∈ gtb := List.mem_filter.mpr ⟨List.mem_of_getElem? (i := 646) (by decide +kernel), by decide +kernel⟩
theorem tb_649 : Cond.fieldLink RqM 36 "SpringSpacesModel" "rodFrom" "[I" ∈ gtb := List.mem_filter.mpr ⟨List.mem_of_getElem? (i := 649) (by decide +kernel), by decide +kernel⟩
theorem tb_650 : Cond.fieldLink RqM 39 "SpringSpacesModel" "rodTo" "[I" ∈ gtb := List.mem_filter.mpr ⟨List.mem_of_getElem? (i := 650) (by decide +kernel), by decide +kernel⟩
theorem tb_651 : Cond.fieldLink RqM 42 "SpringSpacesModel" "rodWidth" "[I" ∈ gtb := List.mem_filter.mpr ⟨List.mem_of_getElem? (i := 651) (by decide +kernel), by decide +kernel⟩
theorem tb_652 : Cond.fieldLink RqM 45 "SpringSpacesModel" "isRod" "[Z" ∈ gtb := List.mem_filter.mpr ⟨List.mem_of_getElem? (i := 652) (by decide +kernel), by decide +kernel⟩
theorem tb_658 : Cond.fieldLink RqM 48 "SpringSpacesModel" "below" "J" ∈ gtb := List.mem_filter.mpr ⟨List.mem_of_getElem? (i := 658) (by decide +kernel), by decide +kernel⟩
theorem tb_659 : Cond.fieldLink RqM 52 "SpringSpacesModel" "settled" "[I" ∈ gtb := List.mem_filter.mpr ⟨List.mem_of_getElem? (i := 659) (by decide +kernel), by decide +kernel⟩
theorem tb_660 : Cond.fieldLink RqM 55 "SpringSpacesModel" "springs" "[J" ∈ gtb := List.mem_filter.mpr ⟨List.mem_of_getElem? (i := 660) (by decide +kernel), by decide +kernel⟩
theorem tb_664 : Cond.fieldLink RqM 59 "SpringSpacesModel" "begins" "[I" ∈ gtb := List.mem_filter.mpr ⟨List.mem_of_getElem? (i := 664) (by decide +kernel), by decide +kernel⟩
theorem tb_665 : Cond.fieldLink RqM 62 "SpringSpacesModel" "work" "[I" ∈ gtb := List.mem_filter.mpr ⟨List.mem_of_getElem? (i := 665) (by decide +kernel), by decide +kernel⟩
theorem tb_666 : Cond.fieldLink RqM 65 "SpringSpacesModel" "gives" "[Z" ∈ gtb := List.mem_filter.mpr ⟨List.mem_of_getElem? (i := 666) (by decide +kernel), by decide +kernel⟩
theorem tb_669 : Cond.fieldLink RqM 68 "SpringSpacesModel" "bestCost" "[J" ∈ gtb := List.mem_filter.mpr ⟨List.mem_of_getElem? (i := 669) (by decide +kernel), by decide +kernel⟩
theorem tb_670 : Cond.fieldLink RqM 71 "SpringSpacesModel" "bestLines" "[I" ∈ gtb := List.mem_filter.mpr ⟨List.mem_of_getElem? (i := 670) (by decide +kernel), by decide +kernel⟩
theorem tb_671 : Cond.fieldLink RqM 74 "SpringSpacesModel" "bestEnd" "[I" ∈ gtb := List.mem_filter.mpr ⟨List.mem_of_getElem? (i := 671) (by decide +kernel), by decide +kernel⟩
theorem tb_653 : Cond.fieldLink RqM 77 "SpringSpacesModel" "hasLine" "Z" ∈ gtb := List.mem_filter.mpr ⟨List.mem_of_getElem? (i := 653) (by decide +kernel), by decide +kernel⟩
theorem tb_661 : Cond.fieldLink RqM 81 "SpringSpacesModel" "hasLines" "Z" ∈ gtb := List.mem_filter.mpr ⟨List.mem_of_getElem? (i := 661) (by decide +kernel), by decide +kernel⟩
theorem tb_748 : Cond.code yqM_changed cqM_changed 1 (none) ∈ gtb := List.mem_filter.mpr ⟨List.mem_of_getElem? (i := 748) (by decide +kernel), by decide +kernel⟩
theorem tb_745 : Cond.methodLink RqM 84 yqM_changed ∈ gtb := List.mem_filter.mpr ⟨List.mem_of_getElem? (i := 745) (by decide +kernel), by decide +kernel⟩
theorem tb_747 : Cond.instanceMethod yqM_changed ∈ gtb := List.mem_filter.mpr ⟨List.mem_of_getElem? (i := 747) (by decide +kernel), by decide +kernel⟩
theorem tb_10 : Cond.selects RqM yqM_changed yqM_changed ∈ gtb := List.mem_filter.mpr ⟨List.mem_of_getElem? (i := 10) (by decide +kernel), by decide +kernel⟩
theorem tb_33 : Cond.initialized RqM ∈ gtb := List.mem_filter.mpr ⟨List.mem_of_getElem? (i := 33) (by decide +kernel), by decide +kernel⟩
theorem tb_753 : Cond.constant RqM 87 100000 ∈ gtb := List.mem_filter.mpr ⟨List.mem_of_getElem? (i := 753) (by decide +kernel), by decide +kernel⟩
theorem tb_640 : Cond.fieldLink RqM 88 "SpringSpacesModel" "columns" "I" ∈ gtb := List.mem_filter.mpr ⟨List.mem_of_getElem? (i := 640) (by decide +kernel), by decide +kernel⟩
theorem tb_647 : Cond.fieldLink RqM 91 "SpringSpacesModel" "rods" "I" ∈ gtb := List.mem_filter.mpr ⟨List.mem_of_getElem? (i := 647) (by decide +kernel), by decide +kernel⟩
theorem tb_648 : Cond.fieldLink RqM 94 "SpringSpacesModel" "rodsLeft" "I" ∈ gtb := List.mem_filter.mpr ⟨List.mem_of_getElem? (i := 648) (by decide +kernel), by decide +kernel⟩
theorem tb_767 : Cond.constantLong RqM 97 65536 ∈ gtb := List.mem_filter.mpr ⟨List.mem_of_getElem? (i := 767) (by decide +kernel), by decide +kernel⟩
theorem tb_768 : Cond.constant RqM 99 65536 ∈ gtb := List.mem_filter.mpr ⟨List.mem_of_getElem? (i := 768) (by decide +kernel), by decide +kernel⟩
theorem tb_762 : Cond.constantLong RqM 100 (-2) ∈ gtb := List.mem_filter.mpr ⟨List.mem_of_getElem? (i := 762) (by decide +kernel), by decide +kernel⟩
theorem tb_766 : Cond.code yqM_springOf cqM_springOf 3 (some .long) ∈ gtb := List.mem_filter.mpr ⟨List.mem_of_getElem? (i := 766) (by decide +kernel), by decide +kernel⟩
theorem tb_763 : Cond.methodLink RqM 102 yqM_springOf ∈ gtb := List.mem_filter.mpr ⟨List.mem_of_getElem? (i := 763) (by decide +kernel), by decide +kernel⟩
theorem tb_765 : Cond.instanceMethod yqM_springOf ∈ gtb := List.mem_filter.mpr ⟨List.mem_of_getElem? (i := 765) (by decide +kernel), by decide +kernel⟩
theorem tb_11 : Cond.selects RqM yqM_springOf yqM_springOf ∈ gtb := List.mem_filter.mpr ⟨List.mem_of_getElem? (i := 11) (by decide +kernel), by decide +kernel⟩
theorem tb_780 : Cond.code yqM_isColumn cqM_isColumn 2 (some .boolean) ∈ gtb := List.mem_filter.mpr ⟨List.mem_of_getElem? (i := 780) (by decide +kernel), by decide +kernel⟩
theorem tb_777 : Cond.methodLink RqM 106 yqM_isColumn ∈ gtb := List.mem_filter.mpr ⟨List.mem_of_getElem? (i := 777) (by decide +kernel), by decide +kernel⟩
theorem tb_779 : Cond.instanceMethod yqM_isColumn ∈ gtb := List.mem_filter.mpr ⟨List.mem_of_getElem? (i := 779) (by decide +kernel), by decide +kernel⟩
theorem tb_12 : Cond.selects RqM yqM_isColumn yqM_isColumn ∈ gtb := List.mem_filter.mpr ⟨List.mem_of_getElem? (i := 12) (by decide +kernel), by decide +kernel⟩
theorem tb_667 : Cond.fieldLink RqM 110 "SpringSpacesModel" "forceAbove" "J" ∈ gtb := List.mem_filter.mpr ⟨List.mem_of_getElem? (i := 667) (by decide +kernel), by decide +kernel⟩
theorem tb_668 : Cond.fieldLink RqM 113 "SpringSpacesModel" "forceBelow" "J" ∈ gtb := List.mem_filter.mpr ⟨List.mem_of_getElem? (i := 668) (by decide +kernel), by decide +kernel⟩
theorem tb_816 : Cond.code yqM_sum cqM_sum 5 (some .int) ∈ gtb := List.mem_filter.mpr ⟨List.mem_of_getElem? (i := 816) (by decide +kernel), by decide +kernel⟩
theorem tb_813 : Cond.methodLink RqM 116 yqM_sum ∈ gtb := List.mem_filter.mpr ⟨List.mem_of_getElem? (i := 813) (by decide +kernel), by decide +kernel⟩
theorem tb_815 : Cond.instanceMethod yqM_sum ∈ gtb := List.mem_filter.mpr ⟨List.mem_of_getElem? (i := 815) (by decide +kernel), by decide +kernel⟩
theorem tb_16 : Cond.selects RqM yqM_sum yqM_sum ∈ gtb := List.mem_filter.mpr ⟨List.mem_of_getElem? (i := 16) (by decide +kernel), by decide +kernel⟩
theorem tb_820 : Cond.code yqM_hasSpring cqM_hasSpring 4 (some .boolean) ∈ gtb := List.mem_filter.mpr ⟨List.mem_of_getElem? (i := 820) (by decide +kernel), by decide +kernel⟩
theorem tb_817 : Cond.methodLink RqM 120 yqM_hasSpring ∈ gtb := List.mem_filter.mpr ⟨List.mem_of_getElem? (i := 817) (by decide +kernel), by decide +kernel⟩
theorem tb_819 : Cond.instanceMethod yqM_hasSpring ∈ gtb := List.mem_filter.mpr ⟨List.mem_of_getElem? (i := 819) (by decide +kernel), by decide +kernel⟩
theorem tb_17 : Cond.selects RqM yqM_hasSpring yqM_hasSpring ∈ gtb := List.mem_filter.mpr ⟨List.mem_of_getElem? (i := 17) (by decide +kernel), by decide +kernel⟩
theorem tb_824 : Cond.code yqM_findForce cqM_findForce 11 (none) ∈ gtb := List.mem_filter.mpr ⟨List.mem_of_getElem? (i := 824) (by decide +kernel), by decide +kernel⟩
theorem tb_821 : Cond.methodLink RqM 124 yqM_findForce ∈ gtb := List.mem_filter.mpr ⟨List.mem_of_getElem? (i := 821) (by decide +kernel), by decide +kernel⟩
theorem tb_823 : Cond.instanceMethod yqM_findForce ∈ gtb := List.mem_filter.mpr ⟨List.mem_of_getElem? (i := 823) (by decide +kernel), by decide +kernel⟩
theorem tb_18 : Cond.selects RqM yqM_findForce yqM_findForce ∈ gtb := List.mem_filter.mpr ⟨List.mem_of_getElem? (i := 18) (by decide +kernel), by decide +kernel⟩
theorem tb_812 : Cond.code yqM_need cqM_need 9 (none) ∈ gtb := List.mem_filter.mpr ⟨List.mem_of_getElem? (i := 812) (by decide +kernel), by decide +kernel⟩
theorem tb_809 : Cond.methodLink RqM 128 yqM_need ∈ gtb := List.mem_filter.mpr ⟨List.mem_of_getElem? (i := 809) (by decide +kernel), by decide +kernel⟩
theorem tb_811 : Cond.instanceMethod yqM_need ∈ gtb := List.mem_filter.mpr ⟨List.mem_of_getElem? (i := 811) (by decide +kernel), by decide +kernel⟩
theorem tb_15 : Cond.selects RqM yqM_need yqM_need ∈ gtb := List.mem_filter.mpr ⟨List.mem_of_getElem? (i := 15) (by decide +kernel), by decide +kernel⟩
theorem tb_808 : Cond.code yqM_settle cqM_settle 6 (none) ∈ gtb := List.mem_filter.mpr ⟨List.mem_of_getElem? (i := 808) (by decide +kernel), by decide +kernel⟩
theorem tb_805 : Cond.methodLink RqM 136 yqM_settle ∈ gtb := List.mem_filter.mpr ⟨List.mem_of_getElem? (i := 805) (by decide +kernel), by decide +kernel⟩
theorem tb_807 : Cond.instanceMethod yqM_settle ∈ gtb := List.mem_filter.mpr ⟨List.mem_of_getElem? (i := 807) (by decide +kernel), by decide +kernel⟩
theorem tb_14 : Cond.selects RqM yqM_settle yqM_settle ∈ gtb := List.mem_filter.mpr ⟨List.mem_of_getElem? (i := 14) (by decide +kernel), by decide +kernel⟩
theorem tb_654 : Cond.fieldLink RqM 140 "SpringSpacesModel" "first" "I" ∈ gtb := List.mem_filter.mpr ⟨List.mem_of_getElem? (i := 654) (by decide +kernel), by decide +kernel⟩
theorem tb_655 : Cond.fieldLink RqM 143 "SpringSpacesModel" "last" "I" ∈ gtb := List.mem_filter.mpr ⟨List.mem_of_getElem? (i := 655) (by decide +kernel), by decide +kernel⟩
theorem tb_656 : Cond.fieldLink RqM 146 "SpringSpacesModel" "over" "I" ∈ gtb := List.mem_filter.mpr ⟨List.mem_of_getElem? (i := 656) (by decide +kernel), by decide +kernel⟩
theorem tb_657 : Cond.fieldLink RqM 149 "SpringSpacesModel" "above" "J" ∈ gtb := List.mem_filter.mpr ⟨List.mem_of_getElem? (i := 657) (by decide +kernel), by decide +kernel⟩
theorem tb_804 : Cond.code yqM_made cqM_made 6 (some .int) ∈ gtb := List.mem_filter.mpr ⟨List.mem_of_getElem? (i := 804) (by decide +kernel), by decide +kernel⟩
theorem tb_801 : Cond.methodLink RqM 132 yqM_made ∈ gtb := List.mem_filter.mpr ⟨List.mem_of_getElem? (i := 801) (by decide +kernel), by decide +kernel⟩
theorem tb_803 : Cond.instanceMethod yqM_made ∈ gtb := List.mem_filter.mpr ⟨List.mem_of_getElem? (i := 803) (by decide +kernel), by decide +kernel⟩
theorem tb_13 : Cond.selects RqM yqM_made yqM_made ∈ gtb := List.mem_filter.mpr ⟨List.mem_of_getElem? (i := 13) (by decide +kernel), by decide +kernel⟩
theorem tb_842 : Cond.code yqM_common cqM_common 10 (some .long) ∈ gtb := List.mem_filter.mpr ⟨List.mem_of_getElem? (i := 842) (by decide +kernel), by decide +kernel⟩
theorem tb_840 : Cond.methodLink RqM 152 yqM_common ∈ gtb := List.mem_filter.mpr ⟨List.mem_of_getElem? (i := 840) (by decide +kernel), by decide +kernel⟩
theorem tb_841 : Cond.static yqM_common ∈ gtb := List.mem_filter.mpr ⟨List.mem_of_getElem? (i := 841) (by decide +kernel), by decide +kernel⟩
theorem tb_843 : Cond.constantLong RqM 160 (-3) ∈ gtb := List.mem_filter.mpr ⟨List.mem_of_getElem? (i := 843) (by decide +kernel), by decide +kernel⟩
theorem tb_839 : Cond.code yqM_part cqM_part 5 (some .long) ∈ gtb := List.mem_filter.mpr ⟨List.mem_of_getElem? (i := 839) (by decide +kernel), by decide +kernel⟩
theorem tb_837 : Cond.methodLink RqM 156 yqM_part ∈ gtb := List.mem_filter.mpr ⟨List.mem_of_getElem? (i := 837) (by decide +kernel), by decide +kernel⟩
theorem tb_838 : Cond.static yqM_part ∈ gtb := List.mem_filter.mpr ⟨List.mem_of_getElem? (i := 838) (by decide +kernel), by decide +kernel⟩
theorem tb_848 : Cond.constantLong RqM 162 (-1) ∈ gtb := List.mem_filter.mpr ⟨List.mem_of_getElem? (i := 848) (by decide +kernel), by decide +kernel⟩
theorem tb_852 : Cond.code yqM_wide cqM_wide 6 (some .long) ∈ gtb := List.mem_filter.mpr ⟨List.mem_of_getElem? (i := 852) (by decide +kernel), by decide +kernel⟩
theorem tb_849 : Cond.methodLink RqM 164 yqM_wide ∈ gtb := List.mem_filter.mpr ⟨List.mem_of_getElem? (i := 849) (by decide +kernel), by decide +kernel⟩
theorem tb_851 : Cond.instanceMethod yqM_wide ∈ gtb := List.mem_filter.mpr ⟨List.mem_of_getElem? (i := 851) (by decide +kernel), by decide +kernel⟩
theorem tb_19 : Cond.selects RqM yqM_wide yqM_wide ∈ gtb := List.mem_filter.mpr ⟨List.mem_of_getElem? (i := 19) (by decide +kernel), by decide +kernel⟩
theorem tb_864 : Cond.code yqM_before cqM_before 5 (some .long) ∈ gtb := List.mem_filter.mpr ⟨List.mem_of_getElem? (i := 864) (by decide +kernel), by decide +kernel⟩
theorem tb_861 : Cond.methodLink RqM 167 yqM_before ∈ gtb := List.mem_filter.mpr ⟨List.mem_of_getElem? (i := 861) (by decide +kernel), by decide +kernel⟩
theorem tb_863 : Cond.instanceMethod yqM_before ∈ gtb := List.mem_filter.mpr ⟨List.mem_of_getElem? (i := 863) (by decide +kernel), by decide +kernel⟩
theorem tb_20 : Cond.selects RqM yqM_before yqM_before ∈ gtb := List.mem_filter.mpr ⟨List.mem_of_getElem? (i := 20) (by decide +kernel), by decide +kernel⟩
theorem tb_876 : Cond.code yqM_naturalOf cqM_naturalOf 6 (some .int) ∈ gtb := List.mem_filter.mpr ⟨List.mem_of_getElem? (i := 876) (by decide +kernel), by decide +kernel⟩
theorem tb_873 : Cond.methodLink RqM 170 yqM_naturalOf ∈ gtb := List.mem_filter.mpr ⟨List.mem_of_getElem? (i := 873) (by decide +kernel), by decide +kernel⟩
theorem tb_875 : Cond.instanceMethod yqM_naturalOf ∈ gtb := List.mem_filter.mpr ⟨List.mem_of_getElem? (i := 875) (by decide +kernel), by decide +kernel⟩
theorem tb_21 : Cond.selects RqM yqM_naturalOf yqM_naturalOf ∈ gtb := List.mem_filter.mpr ⟨List.mem_of_getElem? (i := 21) (by decide +kernel), by decide +kernel⟩
theorem tb_889 : Cond.constantLong RqM 173 1000000000 ∈ gtb := List.mem_filter.mpr ⟨List.mem_of_getElem? (i := 889) (by decide +kernel), by decide +kernel⟩
theorem tb_662 : Cond.fieldLink RqM 182 "SpringSpacesModel" "lineCount" "I" ∈ gtb := List.mem_filter.mpr ⟨List.mem_of_getElem? (i := 662) (by decide +kernel), by decide +kernel⟩
theorem tb_663 : Cond.fieldLink RqM 185 "SpringSpacesModel" "cost" "J" ∈ gtb := List.mem_filter.mpr ⟨List.mem_of_getElem? (i := 663) (by decide +kernel), by decide +kernel⟩
theorem tb_884 : Cond.code yqM_isBreak cqM_isBreak 2 (some .boolean) ∈ gtb := List.mem_filter.mpr ⟨List.mem_of_getElem? (i := 884) (by decide +kernel), by decide +kernel⟩
theorem tb_881 : Cond.methodLink RqM 175 yqM_isBreak ∈ gtb := List.mem_filter.mpr ⟨List.mem_of_getElem? (i := 881) (by decide +kernel), by decide +kernel⟩
theorem tb_883 : Cond.instanceMethod yqM_isBreak ∈ gtb := List.mem_filter.mpr ⟨List.mem_of_getElem? (i := 883) (by decide +kernel), by decide +kernel⟩
theorem tb_22 : Cond.selects RqM yqM_isBreak yqM_isBreak ∈ gtb := List.mem_filter.mpr ⟨List.mem_of_getElem? (i := 22) (by decide +kernel), by decide +kernel⟩
theorem tb_888 : Cond.code yqM_costOf cqM_costOf 7 (some .long) ∈ gtb := List.mem_filter.mpr ⟨List.mem_of_getElem? (i := 888) (by decide +kernel), by decide +kernel⟩
theorem tb_885 : Cond.methodLink RqM 178 yqM_costOf ∈ gtb := List.mem_filter.mpr ⟨List.mem_of_getElem? (i := 885) (by decide +kernel), by decide +kernel⟩
theorem tb_887 : Cond.instanceMethod yqM_costOf ∈ gtb := List.mem_filter.mpr ⟨List.mem_of_getElem? (i := 887) (by decide +kernel), by decide +kernel⟩
theorem tb_23 : Cond.selects RqM yqM_costOf yqM_costOf ∈ gtb := List.mem_filter.mpr ⟨List.mem_of_getElem? (i := 23) (by decide +kernel), by decide +kernel⟩
def nestLinks : List (String × Nat × MethodName × String) := [(RqCo, 32, yqX_within, RqX), (RqRo, 32, yqX_within, RqX), (RqFo, 16, yqX_sumOf, RqX), (RqFo, 26, yqX_commonDivisor, RqX), (RqLi, 68, yqX_sumOf, RqX), (RqLi, 83, yqX_dividedUp, RqX), (RqLi, 100, yqX_within, RqX), (RqLi, 110, yqX_commonDivisor, RqX), (RqLi, 116, yqX_dividedDown, RqX), (RqLi, 20, yqFo_init, RqX), (RqX, 11, yqCo_init, RqX), (RqX, 18, yqIt_init, RqX), (RqX, 25, yqRo_init, RqX), (RqX, 32, yqNe_init, RqX), (RqX, 39, yqLi_init, RqX), (RqX, 49, yqBr_init, RqX)]
theorem nl_Co_have_32 : (RqCo, 32, yqX_within, RqX) ∈ nestLinks := List.mem_of_getElem? (i := 0) rfl
theorem nl_Co_haveGap_32 : (RqCo, 32, yqX_within, RqX) ∈ nestLinks := List.mem_of_getElem? (i := 0) rfl
theorem nl_Ro_have_32 : (RqRo, 32, yqX_within, RqX) ∈ nestLinks := List.mem_of_getElem? (i := 1) rfl
theorem nl_Fo_find_16 : (RqFo, 16, yqX_sumOf, RqX) ∈ nestLinks := List.mem_of_getElem? (i := 2) rfl
theorem nl_Fo_bringToLowestTerms_26 : (RqFo, 26, yqX_commonDivisor, RqX) ∈ nestLinks := List.mem_of_getElem? (i := 3) rfl
theorem nl_Li_meet_68 : (RqLi, 68, yqX_sumOf, RqX) ∈ nestLinks := List.mem_of_getElem? (i := 4) rfl
theorem nl_Li_meet_83 : (RqLi, 83, yqX_dividedUp, RqX) ∈ nestLinks := List.mem_of_getElem? (i := 5) rfl
theorem nl_Li_sumOfLeasts_68 : (RqLi, 68, yqX_sumOf, RqX) ∈ nestLinks := List.mem_of_getElem? (i := 4) rfl
theorem nl_Li_hasGap_100 : (RqLi, 100, yqX_within, RqX) ∈ nestLinks := List.mem_of_getElem? (i := 6) rfl
theorem nl_Li_hasColumn_100 : (RqLi, 100, yqX_within, RqX) ∈ nestLinks := List.mem_of_getElem? (i := 6) rfl
theorem nl_Li_spans_100 : (RqLi, 100, yqX_within, RqX) ∈ nestLinks := List.mem_of_getElem? (i := 6) rfl
theorem nl_Li_widthPart_110 : (RqLi, 110, yqX_commonDivisor, RqX) ∈ nestLinks := List.mem_of_getElem? (i := 7) rfl
theorem nl_Li_placeOf_116 : (RqLi, 116, yqX_dividedDown, RqX) ∈ nestLinks := List.mem_of_getElem? (i := 8) rfl
theorem nl_Li_placeAt_116 : (RqLi, 116, yqX_dividedDown, RqX) ∈ nestLinks := List.mem_of_getElem? (i := 8) rfl
theorem nl_Li_init_20 : (RqLi, 20, yqFo_init, RqX) ∈ nestLinks := List.mem_of_getElem? (i := 9) rfl
theorem nl_X_init_11 : (RqX, 11, yqCo_init, RqX) ∈ nestLinks := List.mem_of_getElem? (i := 10) rfl
theorem nl_X_init_18 : (RqX, 18, yqIt_init, RqX) ∈ nestLinks := List.mem_of_getElem? (i := 11) rfl
theorem nl_X_init_25 : (RqX, 25, yqRo_init, RqX) ∈ nestLinks := List.mem_of_getElem? (i := 12) rfl
theorem nl_X_init_32 : (RqX, 32, yqNe_init, RqX) ∈ nestLinks := List.mem_of_getElem? (i := 13) rfl
theorem nl_X_init_39 : (RqX, 39, yqLi_init, RqX) ∈ nestLinks := List.mem_of_getElem? (i := 14) rfl
theorem nl_X_init_49 : (RqX, 49, yqBr_init, RqX) ∈ nestLinks := List.mem_of_getElem? (i := 15) rfl
theorem nestLinks_ok : ∀ q ∈ nestLinks, Cond.methodLinkNest q.1 q.2.1 q.2.2.1 q.2.2.2 ∈ lw_tbl := by decide +kernel
end
section
/-! ints and longs by whole numbers -/
def iI (z : Int) : Int32 := Int32.ofInt z
def lI (z : Int) : Int64 := Int64.ofInt z
theorem iI_T {z : Int} (h1 : -2147483648 ≤ z) (h2 : z ≤ 2147483647) : (iI z).toInt = z := Int32.toInt_ofInt_of_le (by omega) (by omega)
theorem lI_T {z : Int} (h1 : -9223372036854775808 ≤ z) (h2 : z ≤ 9223372036854775807) : (lI z).toInt = z := Int64.toInt_ofInt_of_le (by omega) (by omega)
theorem iI_of (x : Int32) : x = iI x.toInt := (Int32.ofInt_toInt x).symm
theorem lI_of (x : Int64) : x = lI x.toInt := (Int64.ofInt_toInt x).symm
theorem iI_ex (x : Int32) : ∃ z : Int, x = iI z ∧ -2147483648 ≤ z ∧ z ≤ 2147483647 := ⟨x.toInt, iI_of x, by have := Int32.le_toInt x; omega, by have := Int32.toInt_lt x; omega⟩
theorem iI_add (a b : Int) : iI a + iI b = iI (a + b) := (Int32.ofInt_add a b).symm
theorem iI_sub (a b : Int) : iI a - iI b = iI (a - b) := (Int32.ofInt_sub a b).symm
theorem iI_mul (a b : Int) : iI a * iI b = iI (a * b) := (Int32.ofInt_mul a b).symm
theorem iI_neg (a : Int) : -iI a = iI (-a) := (Int32.ofInt_neg a).symm
theorem lI_add (a b : Int) : lI a + lI b = lI (a + b) := (Int64.ofInt_add a b).symm
theorem lI_sub (a b : Int) : lI a - lI b = lI (a - b) := (Int64.ofInt_sub a b).symm
theorem lI_mul (a b : Int) : lI a * lI b = lI (a * b) := (Int64.ofInt_mul a b).symm
theorem lI_neg (a : Int) : -lI a = lI (-a) := (Int64.ofInt_neg a).symm
theorem iI_lt {a b : Int} (a1 : -2147483648 ≤ a) (a2 : a ≤ 2147483647) (b1 : -2147483648 ≤ b) (b2 : b ≤ 2147483647) : iI a < iI b ↔ a < b := by rw [Int32.lt_iff_toInt_lt, iI_T a1 a2, iI_T b1 b2]
theorem iI_le {a b : Int} (a1 : -2147483648 ≤ a) (a2 : a ≤ 2147483647) (b1 : -2147483648 ≤ b) (b2 : b ≤ 2147483647) : iI a ≤ iI b ↔ a ≤ b := by rw [Int32.le_iff_toInt_le, iI_T a1 a2, iI_T b1 b2]
theorem iI_eq {a b : Int} (a1 : -2147483648 ≤ a) (a2 : a ≤ 2147483647) (b1 : -2147483648 ≤ b) (b2 : b ≤ 2147483647) : iI a = iI b ↔ a = b := by rw [← Int32.toInt_inj, iI_T a1 a2, iI_T b1 b2]
theorem lI_lt {a b : Int} (a1 : -9223372036854775808 ≤ a) (a2 : a ≤ 9223372036854775807) (b1 : -9223372036854775808 ≤ b) (b2 : b ≤ 9223372036854775807) : lI a < lI b ↔ a < b := by rw [Int64.lt_iff_toInt_lt, lI_T a1 a2, lI_T b1 b2]
theorem lI_le {a b : Int} (a1 : -9223372036854775808 ≤ a) (a2 : a ≤ 9223372036854775807) (b1 : -9223372036854775808 ≤ b) (b2 : b ≤ 9223372036854775807) : lI a ≤ lI b ↔ a ≤ b := by rw [Int64.le_iff_toInt_le, lI_T a1 a2, lI_T b1 b2]
theorem lI_eq {a b : Int} (a1 : -9223372036854775808 ≤ a) (a2 : a ≤ 9223372036854775807) (b1 : -9223372036854775808 ≤ b) (b2 : b ≤ 9223372036854775807) : lI a = lI b ↔ a = b := by rw [← Int64.toInt_inj, lI_T a1 a2, lI_T b1 b2]
theorem iI_l {a : Int} (a1 : -2147483648 ≤ a) (a2 : a ≤ 2147483647) : (iI a).toInt64 = lI a := by
  rw [← Int64.toInt_inj, Int32.toInt_toInt64, iI_T a1 a2, lI_T (by omega) (by omega)]
theorem lI_i (a : Int) : (lI a).toInt32 = iI a := Int64.toInt32_ofInt
theorem lI_div {a b : Int} (a1 : -9223372036854775808 ≤ a) (a2 : a ≤ 9223372036854775807) (b1 : -9223372036854775808 ≤ b) (b2 : b ≤ 9223372036854775807) : lI a / lI b = lI (a.tdiv b) := by
  rw [← Int64.toInt_inj, Int64.toInt_div, lI_T a1 a2, lI_T b1 b2]
  exact (Int64.toInt_ofInt (n := a.tdiv b)).symm
theorem iI_div {a b : Int} (a1 : -2147483648 ≤ a) (a2 : a ≤ 2147483647) (b1 : -2147483648 ≤ b) (b2 : b ≤ 2147483647) : iI a / iI b = iI (a.tdiv b) := by
  rw [← Int32.toInt_inj, Int32.toInt_div, iI_T a1 a2, iI_T b1 b2]
  exact (Int32.toInt_ofInt (n := a.tdiv b)).symm
theorem iI_c {z : Int} (h1 : 0 ≤ z) (h2 : z ≤ 2147483647) : (iI z).toNatClampNeg = z.toNat := by
  show (iI z).toInt.toNat = _
  rw [iI_T (by omega) h2]
theorem iI_in {z : Int} {n : Nat} (h1 : 0 ≤ z) (h2 : z < n) (h3 : z ≤ 2147483647) : vp_in (iI z) n := vp_in_iff.mpr (by rw [iI_T (by omega) h3]; exact ⟨h1, h2⟩)
/-! arrays: the values by functions over Int -/
def ai (f : Int → Int) : Nat → Int32 := fun j => iI (f (j : Int))
def al (f : Int → Int) : Nat → Int64 := fun j => lI (f (j : Int))
def up (f : Int → Int) (k v : Int) : Int → Int := fun j => if j = k then v else f j
theorem up_s (f : Int → Int) (k v : Int) : up f k v k = v := if_pos rfl
theorem up_n {f : Int → Int} {k v j : Int} (h : j ≠ k) : up f k v j = f j := if_neg h
theorem ai_at (f : Int → Int) {z : Int} (h1 : 0 ≤ z) (h2 : z ≤ 2147483647) : ai f (iI z).toNatClampNeg = iI (f z) := by
  rw [iI_c h1 h2]; show iI (f (z.toNat : Int)) = _; rw [Int.toNat_of_nonneg h1]
theorem al_at (f : Int → Int) {z : Int} (h1 : 0 ≤ z) (h2 : z ≤ 2147483647) : al f (iI z).toNatClampNeg = lI (f z) := by
  rw [iI_c h1 h2]; show lI (f (z.toNat : Int)) = _; rw [Int.toNat_of_nonneg h1]
theorem ai_up (f : Int → Int) (v : Int) {z : Int} (h1 : 0 ≤ z) (h2 : z ≤ 2147483647) : upd (ai f) (iI z).toNatClampNeg (iI v) = ai (up f z v) := by
  rw [iI_c h1 h2]; funext j
  show (if j = z.toNat then iI v else iI (f j)) = iI (if (j : Int) = z then v else f j)
  by_cases h : j = z.toNat
  · rw [if_pos h, if_pos (by omega)]
  · rw [if_neg h, if_neg (by omega)]
theorem al_up (f : Int → Int) (v : Int) {z : Int} (h1 : 0 ≤ z) (h2 : z ≤ 2147483647) : vp_updL (al f) (iI z).toNatClampNeg (lI v) = al (up f z v) := by
  rw [iI_c h1 h2]; funext j
  show (if j = z.toNat then lI v else lI (f j)) = lI (if (j : Int) = z then v else f j)
  by_cases h : j = z.toNat
  · rw [if_pos h, if_pos (by omega)]
  · rw [if_neg h, if_neg (by omega)]
theorem nar_z {b : Int} (h : b = 0 ∨ b = 1) : vp_nar .boolean (iI b) = iI b := by rcases h with rfl | rfl <;> decide +kernel
theorem narrow_z {b : Int} (h : b = 0 ∨ b = 1) : narrow .boolean (.int (iI b)) = .int (iI b) := by rcases h with rfl | rfl <;> rfl
theorem fits_z {b : Int} (h : b = 0 ∨ b = 1) : fits .boolean (.int (iI b)) = true := by rcases h with rfl | rfl <;> decide +kernel

theorem lI_ex (x : Int64) : ∃ z : Int, x = lI z ∧ -9223372036854775808 ≤ z ∧ z ≤ 9223372036854775807 := ⟨x.toInt, lI_of x, by have := Int64.le_toInt x; omega, by have := Int64.toInt_lt x; omega⟩
theorem lI_can (a : Int) : ∃ z : Int, -9223372036854775808 ≤ z ∧ z ≤ 9223372036854775807 ∧ lI a = lI z := by
  obtain ⟨z, h, h1, h2⟩ := lI_ex (lI a); exact ⟨z, h1, h2, h⟩
theorem iI_can (a : Int) : ∃ z : Int, -2147483648 ≤ z ∧ z ≤ 2147483647 ∧ iI a = iI z := by
  obtain ⟨z, h, h1, h2⟩ := iI_ex (iI a); exact ⟨z, h1, h2, h⟩
theorem lI_max {a b : Int} (a1 : -9223372036854775808 ≤ a) (a2 : a ≤ 9223372036854775807) (b1 : -9223372036854775808 ≤ b) (b2 : b ≤ 9223372036854775807) : (if lI b < lI a then lI a else lI b) = lI (max a b) := by
  by_cases h : b < a
  · rw [if_pos ((lI_lt b1 b2 a1 a2).mpr h), show max a b = a by omega]
  · rw [if_neg (fun q => h ((lI_lt b1 b2 a1 a2).mp q)), show max a b = b by omega]
section QR
variable {p : Program} {l : Launch} {e : Env} {R : Room} {s : State} {m : MethodId} {args : Array Value} {below : List Frame} {meth : Method} {c : Code} {H : Heap} {locs : List Loc} {cells slots : Nat} {Q : State → Prop} {cc : ByteArray} {pc : Nat} {ls : Array Slot} {rest : List Value}
theorem tp_i {x y : Int32} (h : x = y) (k : W p l e R s m args below meth c H locs cells slots Q (F0 m pc ls (.int y :: rest))) : W p l e R s m args below meth c H locs cells slots Q (F0 m pc ls (.int x :: rest)) := h ▸ k
theorem tp_l {x y : Int64} (h : x = y) (k : W p l e R s m args below meth c H locs cells slots Q (F0 m pc ls (.long y :: rest))) : W p l e R s m args below meth c H locs cells slots Q (F0 m pc ls (.long x :: rest)) := h ▸ k
theorem q_iadd (hx : p.tables.exec = Jvm.exec) (hb : c.code = cc) {x y : Int} (hd : decode cc pc = .ok (.iadd, 1)) (k : W p l e R s m args below meth c H locs cells slots Q (F0 m (pc + 1) ls (.int (iI (x + y)) :: rest))) : W p l e R s m args below meth c H locs cells slots Q (F0 m pc ls (.int (iI y) :: .int (iI x) :: rest)) := lv_iadd hx hb hd (by rw [iI_add]; exact k)
theorem q_ladd (hx : p.tables.exec = Jvm.exec) (hb : c.code = cc) {x y : Int} (hd : decode cc pc = .ok (.ladd, 1)) (k : W p l e R s m args below meth c H locs cells slots Q (F0 m (pc + 1) ls (.long (lI (x + y)) :: rest))) : W p l e R s m args below meth c H locs cells slots Q (F0 m pc ls (.long (lI y) :: .long (lI x) :: rest)) := lv_ladd hx hb hd (by rw [lI_add]; exact k)
theorem q_isub (hx : p.tables.exec = Jvm.exec) (hb : c.code = cc) {x y : Int} (hd : decode cc pc = .ok (.isub, 1)) (k : W p l e R s m args below meth c H locs cells slots Q (F0 m (pc + 1) ls (.int (iI (x - y)) :: rest))) : W p l e R s m args below meth c H locs cells slots Q (F0 m pc ls (.int (iI y) :: .int (iI x) :: rest)) := lv_isub hx hb hd (by rw [iI_sub]; exact k)
theorem q_lsub (hx : p.tables.exec = Jvm.exec) (hb : c.code = cc) {x y : Int} (hd : decode cc pc = .ok (.lsub, 1)) (k : W p l e R s m args below meth c H locs cells slots Q (F0 m (pc + 1) ls (.long (lI (x - y)) :: rest))) : W p l e R s m args below meth c H locs cells slots Q (F0 m pc ls (.long (lI y) :: .long (lI x) :: rest)) := lv_lsub hx hb hd (by rw [lI_sub]; exact k)
theorem q_imul (hx : p.tables.exec = Jvm.exec) (hb : c.code = cc) {x y : Int} (hd : decode cc pc = .ok (.imul, 1)) (k : W p l e R s m args below meth c H locs cells slots Q (F0 m (pc + 1) ls (.int (iI (x * y)) :: rest))) : W p l e R s m args below meth c H locs cells slots Q (F0 m pc ls (.int (iI y) :: .int (iI x) :: rest)) := lv_imul hx hb hd (by rw [iI_mul]; exact k)
theorem q_lmul (hx : p.tables.exec = Jvm.exec) (hb : c.code = cc) {x y : Int} (hd : decode cc pc = .ok (.lmul, 1)) (k : W p l e R s m args below meth c H locs cells slots Q (F0 m (pc + 1) ls (.long (lI (x * y)) :: rest))) : W p l e R s m args below meth c H locs cells slots Q (F0 m pc ls (.long (lI y) :: .long (lI x) :: rest)) := lv_lmul hx hb hd (by rw [lI_mul]; exact k)
theorem q_ineg (hx : p.tables.exec = Jvm.exec) (hb : c.code = cc) {x : Int} (hd : decode cc pc = .ok (.ineg, 1)) (k : W p l e R s m args below meth c H locs cells slots Q (F0 m (pc + 1) ls (.int (iI (-x)) :: rest))) : W p l e R s m args below meth c H locs cells slots Q (F0 m pc ls (.int (iI x) :: rest)) := lv_ineg hx hb hd (by rw [iI_neg]; exact k)
theorem q_lneg (hx : p.tables.exec = Jvm.exec) (hb : c.code = cc) {x : Int} (hd : decode cc pc = .ok (.lneg, 1)) (k : W p l e R s m args below meth c H locs cells slots Q (F0 m (pc + 1) ls (.long (lI (-x)) :: rest))) : W p l e R s m args below meth c H locs cells slots Q (F0 m pc ls (.long (lI x) :: rest)) := lv_lneg hx hb hd (by rw [lI_neg]; exact k)
theorem q_i2l (hx : p.tables.exec = Jvm.exec) (hb : c.code = cc) {x : Int} (hd : decode cc pc = .ok (.i2l, 1)) (h1 : -2147483648 ≤ x) (h2 : x ≤ 2147483647) (k : W p l e R s m args below meth c H locs cells slots Q (F0 m (pc + 1) ls (.long (lI x) :: rest))) : W p l e R s m args below meth c H locs cells slots Q (F0 m pc ls (.int (iI x) :: rest)) := lv_i2l hx hb hd (iI_l h1 h2) k
theorem q_l2i (hx : p.tables.exec = Jvm.exec) (hb : c.code = cc) {x : Int} (hd : decode cc pc = .ok (.l2i, 1)) (k : W p l e R s m args below meth c H locs cells slots Q (F0 m (pc + 1) ls (.int (iI x) :: rest))) : W p l e R s m args below meth c H locs cells slots Q (F0 m pc ls (.long (lI x) :: rest)) := lv_l2i hx hb hd (lI_i x) k
theorem q_ldiv (hx : p.tables.exec = Jvm.exec) (hb : c.code = cc) {x y : Int} (hd : decode cc pc = .ok (.ldiv, 1)) (x1 : -9223372036854775808 ≤ x) (x2 : x ≤ 9223372036854775807) (y1 : -9223372036854775808 ≤ y) (y2 : y ≤ 9223372036854775807) (y0 : y ≠ 0) (k : W p l e R s m args below meth c H locs cells slots Q (F0 m (pc + 1) ls (.long (lI (x.tdiv y)) :: rest))) : W p l e R s m args below meth c H locs cells slots Q (F0 m pc ls (.long (lI y) :: .long (lI x) :: rest)) := lv_ldiv hx hb hd (fun h => y0 ((lI_eq y1 y2 (by omega) (by omega)).mp (h.trans (show (0 : Int64) = lI 0 from rfl)))) (by rw [lI_div x1 x2 y1 y2]; exact k)
theorem q_lrem (hx : p.tables.exec = Jvm.exec) (hb : c.code = cc) {x y : Int} (hd : decode cc pc = .ok (.lrem, 1)) (x1 : -9223372036854775808 ≤ x) (x2 : x ≤ 9223372036854775807) (y1 : -9223372036854775808 ≤ y) (y2 : y ≤ 9223372036854775807) (y0 : y ≠ 0) (k : W p l e R s m args below meth c H locs cells slots Q (F0 m (pc + 1) ls (.long (lI (x.tmod y)) :: rest))) : W p l e R s m args below meth c H locs cells slots Q (F0 m pc ls (.long (lI y) :: .long (lI x) :: rest)) := lv_lrem hx hb hd (fun h => y0 ((lI_eq y1 y2 (by omega) (by omega)).mp (h.trans (show (0 : Int64) = lI 0 from rfl)))) (by rw [lI_div x1 x2 y1 y2, lI_mul, lI_sub, show x - x.tdiv y * y = x.tmod y by rw [Int.tmod_def, Int.mul_comm]]; exact k)
theorem q_idiv (hx : p.tables.exec = Jvm.exec) (hb : c.code = cc) {x y : Int} (hd : decode cc pc = .ok (.idiv, 1)) (x1 : -2147483648 ≤ x) (x2 : x ≤ 2147483647) (y1 : -2147483648 ≤ y) (y2 : y ≤ 2147483647) (y0 : y ≠ 0) (k : W p l e R s m args below meth c H locs cells slots Q (F0 m (pc + 1) ls (.int (iI (x.tdiv y)) :: rest))) : W p l e R s m args below meth c H locs cells slots Q (F0 m pc ls (.int (iI y) :: .int (iI x) :: rest)) := lv_idiv hx hb hd (fun h => y0 ((iI_eq y1 y2 (by omega) (by omega)).mp (h.trans (show (0 : Int32) = iI 0 from rfl)))) (by rw [iI_div x1 x2 y1 y2]; exact k)
theorem q_irem (hx : p.tables.exec = Jvm.exec) (hb : c.code = cc) {x y : Int} (hd : decode cc pc = .ok (.irem, 1)) (x1 : -2147483648 ≤ x) (x2 : x ≤ 2147483647) (y1 : -2147483648 ≤ y) (y2 : y ≤ 2147483647) (y0 : y ≠ 0) (k : W p l e R s m args below meth c H locs cells slots Q (F0 m (pc + 1) ls (.int (iI (x.tmod y)) :: rest))) : W p l e R s m args below meth c H locs cells slots Q (F0 m pc ls (.int (iI y) :: .int (iI x) :: rest)) := lv_irem hx hb hd (fun h => y0 ((iI_eq y1 y2 (by omega) (by omega)).mp (h.trans (show (0 : Int32) = iI 0 from rfl)))) (by rw [iI_div x1 x2 y1 y2, iI_mul, iI_sub, show x - x.tdiv y * y = x.tmod y by rw [Int.tmod_def, Int.mul_comm]]; exact k)
theorem q_icmp_eq (hx : p.tables.exec = Jvm.exec) (hb : c.code = cc) {x y : Int} {off : Int} {tgt : Nat} (hd : decode cc pc = .ok (.if_icmp .eq off, 3)) (ht : (pc : Int) + off = (tgt : Int)) (x1 : -2147483648 ≤ x) (x2 : x ≤ 2147483647) (y1 : -2147483648 ≤ y) (y2 : y ≤ 2147483647) (kt : x = y → W p l e R s m args below meth c H locs cells slots Q (F0 m tgt ls rest)) (kf : x ≠ y → W p l e R s m args below meth c H locs cells slots Q (F0 m (pc + 3) ls rest)) : W p l e R s m args below meth c H locs cells slots Q (F0 m pc ls (.int (iI y) :: .int (iI x) :: rest)) := lv_icmp_eq hx hb hd ht (fun h => kt ((iI_eq x1 x2 y1 y2).mp h)) (fun h => kf (fun q => h ((iI_eq x1 x2 y1 y2).mpr q)))
theorem q_icmp_ne (hx : p.tables.exec = Jvm.exec) (hb : c.code = cc) {x y : Int} {off : Int} {tgt : Nat} (hd : decode cc pc = .ok (.if_icmp .ne off, 3)) (ht : (pc : Int) + off = (tgt : Int)) (x1 : -2147483648 ≤ x) (x2 : x ≤ 2147483647) (y1 : -2147483648 ≤ y) (y2 : y ≤ 2147483647) (kt : x ≠ y → W p l e R s m args below meth c H locs cells slots Q (F0 m tgt ls rest)) (kf : x = y → W p l e R s m args below meth c H locs cells slots Q (F0 m (pc + 3) ls rest)) : W p l e R s m args below meth c H locs cells slots Q (F0 m pc ls (.int (iI y) :: .int (iI x) :: rest)) := lv_icmp_ne hx hb hd ht (fun h => kt (fun q => h ((iI_eq x1 x2 y1 y2).mpr q))) (fun h => kf ((iI_eq x1 x2 y1 y2).mp h))
theorem q_icmp_lt (hx : p.tables.exec = Jvm.exec) (hb : c.code = cc) {x y : Int} {off : Int} {tgt : Nat} (hd : decode cc pc = .ok (.if_icmp .lt off, 3)) (ht : (pc : Int) + off = (tgt : Int)) (x1 : -2147483648 ≤ x) (x2 : x ≤ 2147483647) (y1 : -2147483648 ≤ y) (y2 : y ≤ 2147483647) (kt : x < y → W p l e R s m args below meth c H locs cells slots Q (F0 m tgt ls rest)) (kf : y ≤ x → W p l e R s m args below meth c H locs cells slots Q (F0 m (pc + 3) ls rest)) : W p l e R s m args below meth c H locs cells slots Q (F0 m pc ls (.int (iI y) :: .int (iI x) :: rest)) := lv_icmp_lt hx hb hd ht (fun h => kt ((iI_lt x1 x2 y1 y2).mp h)) (fun h => kf (Int.not_lt.mp (fun q => h ((iI_lt x1 x2 y1 y2).mpr q))))
theorem q_icmp_ge (hx : p.tables.exec = Jvm.exec) (hb : c.code = cc) {x y : Int} {off : Int} {tgt : Nat} (hd : decode cc pc = .ok (.if_icmp .ge off, 3)) (ht : (pc : Int) + off = (tgt : Int)) (x1 : -2147483648 ≤ x) (x2 : x ≤ 2147483647) (y1 : -2147483648 ≤ y) (y2 : y ≤ 2147483647) (kt : y ≤ x → W p l e R s m args below meth c H locs cells slots Q (F0 m tgt ls rest)) (kf : x < y → W p l e R s m args below meth c H locs cells slots Q (F0 m (pc + 3) ls rest)) : W p l e R s m args below meth c H locs cells slots Q (F0 m pc ls (.int (iI y) :: .int (iI x) :: rest)) := lv_icmp_ge hx hb hd ht (fun h => kt ((iI_le y1 y2 x1 x2).mp h)) (fun h => kf (Int.not_le.mp (fun q => h ((iI_le y1 y2 x1 x2).mpr q))))
theorem q_icmp_gt (hx : p.tables.exec = Jvm.exec) (hb : c.code = cc) {x y : Int} {off : Int} {tgt : Nat} (hd : decode cc pc = .ok (.if_icmp .gt off, 3)) (ht : (pc : Int) + off = (tgt : Int)) (x1 : -2147483648 ≤ x) (x2 : x ≤ 2147483647) (y1 : -2147483648 ≤ y) (y2 : y ≤ 2147483647) (kt : y < x → W p l e R s m args below meth c H locs cells slots Q (F0 m tgt ls rest)) (kf : x ≤ y → W p l e R s m args below meth c H locs cells slots Q (F0 m (pc + 3) ls rest)) : W p l e R s m args below meth c H locs cells slots Q (F0 m pc ls (.int (iI y) :: .int (iI x) :: rest)) := lv_icmp_gt hx hb hd ht (fun h => kt ((iI_lt y1 y2 x1 x2).mp h)) (fun h => kf (Int.not_lt.mp (fun q => h ((iI_lt y1 y2 x1 x2).mpr q))))
theorem q_icmp_le (hx : p.tables.exec = Jvm.exec) (hb : c.code = cc) {x y : Int} {off : Int} {tgt : Nat} (hd : decode cc pc = .ok (.if_icmp .le off, 3)) (ht : (pc : Int) + off = (tgt : Int)) (x1 : -2147483648 ≤ x) (x2 : x ≤ 2147483647) (y1 : -2147483648 ≤ y) (y2 : y ≤ 2147483647) (kt : x ≤ y → W p l e R s m args below meth c H locs cells slots Q (F0 m tgt ls rest)) (kf : y < x → W p l e R s m args below meth c H locs cells slots Q (F0 m (pc + 3) ls rest)) : W p l e R s m args below meth c H locs cells slots Q (F0 m pc ls (.int (iI y) :: .int (iI x) :: rest)) := lv_icmp_le hx hb hd ht (fun h => kt ((iI_le x1 x2 y1 y2).mp h)) (fun h => kf (Int.not_le.mp (fun q => h ((iI_le x1 x2 y1 y2).mpr q))))
theorem q_if_eq (hx : p.tables.exec = Jvm.exec) (hb : c.code = cc) {x : Int} {off : Int} {tgt : Nat} (hd : decode cc pc = .ok (.ifCond .eq off, 3)) (ht : (pc : Int) + off = (tgt : Int)) (x1 : -2147483648 ≤ x) (x2 : x ≤ 2147483647) (kt : x = 0 → W p l e R s m args below meth c H locs cells slots Q (F0 m tgt ls rest)) (kf : x ≠ 0 → W p l e R s m args below meth c H locs cells slots Q (F0 m (pc + 3) ls rest)) : W p l e R s m args below meth c H locs cells slots Q (F0 m pc ls (.int (iI x) :: rest)) := by
  have y1 : (-2147483648 : Int) ≤ 0 := by omega
  have y2 : (0 : Int) ≤ 2147483647 := by omega
  have z0 : (0 : Int32) = iI 0 := rfl
  exact lv_if_eq hx hb hd ht (fun h => by rw [z0] at h; exact kt ((iI_eq x1 x2 y1 y2).mp h)) (fun h => by rw [z0] at h; exact kf (fun q => h ((iI_eq x1 x2 y1 y2).mpr q)))
theorem q_if_ne (hx : p.tables.exec = Jvm.exec) (hb : c.code = cc) {x : Int} {off : Int} {tgt : Nat} (hd : decode cc pc = .ok (.ifCond .ne off, 3)) (ht : (pc : Int) + off = (tgt : Int)) (x1 : -2147483648 ≤ x) (x2 : x ≤ 2147483647) (kt : x ≠ 0 → W p l e R s m args below meth c H locs cells slots Q (F0 m tgt ls rest)) (kf : x = 0 → W p l e R s m args below meth c H locs cells slots Q (F0 m (pc + 3) ls rest)) : W p l e R s m args below meth c H locs cells slots Q (F0 m pc ls (.int (iI x) :: rest)) := by
  have y1 : (-2147483648 : Int) ≤ 0 := by omega
  have y2 : (0 : Int) ≤ 2147483647 := by omega
  have z0 : (0 : Int32) = iI 0 := rfl
  exact lv_if_ne hx hb hd ht (fun h => by rw [z0] at h; exact kt (fun q => h ((iI_eq x1 x2 y1 y2).mpr q))) (fun h => by rw [z0] at h; exact kf ((iI_eq x1 x2 y1 y2).mp h))
theorem q_if_lt (hx : p.tables.exec = Jvm.exec) (hb : c.code = cc) {x : Int} {off : Int} {tgt : Nat} (hd : decode cc pc = .ok (.ifCond .lt off, 3)) (ht : (pc : Int) + off = (tgt : Int)) (x1 : -2147483648 ≤ x) (x2 : x ≤ 2147483647) (kt : x < 0 → W p l e R s m args below meth c H locs cells slots Q (F0 m tgt ls rest)) (kf : 0 ≤ x → W p l e R s m args below meth c H locs cells slots Q (F0 m (pc + 3) ls rest)) : W p l e R s m args below meth c H locs cells slots Q (F0 m pc ls (.int (iI x) :: rest)) := by
  have y1 : (-2147483648 : Int) ≤ 0 := by omega
  have y2 : (0 : Int) ≤ 2147483647 := by omega
  have z0 : (0 : Int32) = iI 0 := rfl
  exact lv_if_lt hx hb hd ht (fun h => by rw [z0] at h; exact kt ((iI_lt x1 x2 y1 y2).mp h)) (fun h => by rw [z0] at h; exact kf (Int.not_lt.mp (fun q => h ((iI_lt x1 x2 y1 y2).mpr q))))
theorem q_if_ge (hx : p.tables.exec = Jvm.exec) (hb : c.code = cc) {x : Int} {off : Int} {tgt : Nat} (hd : decode cc pc = .ok (.ifCond .ge off, 3)) (ht : (pc : Int) + off = (tgt : Int)) (x1 : -2147483648 ≤ x) (x2 : x ≤ 2147483647) (kt : 0 ≤ x → W p l e R s m args below meth c H locs cells slots Q (F0 m tgt ls rest)) (kf : x < 0 → W p l e R s m args below meth c H locs cells slots Q (F0 m (pc + 3) ls rest)) : W p l e R s m args below meth c H locs cells slots Q (F0 m pc ls (.int (iI x) :: rest)) := by
  have y1 : (-2147483648 : Int) ≤ 0 := by omega
  have y2 : (0 : Int) ≤ 2147483647 := by omega
  have z0 : (0 : Int32) = iI 0 := rfl
  exact lv_if_ge hx hb hd ht (fun h => by rw [z0] at h; exact kt ((iI_le y1 y2 x1 x2).mp h)) (fun h => by rw [z0] at h; exact kf (Int.not_le.mp (fun q => h ((iI_le y1 y2 x1 x2).mpr q))))
theorem q_if_gt (hx : p.tables.exec = Jvm.exec) (hb : c.code = cc) {x : Int} {off : Int} {tgt : Nat} (hd : decode cc pc = .ok (.ifCond .gt off, 3)) (ht : (pc : Int) + off = (tgt : Int)) (x1 : -2147483648 ≤ x) (x2 : x ≤ 2147483647) (kt : 0 < x → W p l e R s m args below meth c H locs cells slots Q (F0 m tgt ls rest)) (kf : x ≤ 0 → W p l e R s m args below meth c H locs cells slots Q (F0 m (pc + 3) ls rest)) : W p l e R s m args below meth c H locs cells slots Q (F0 m pc ls (.int (iI x) :: rest)) := by
  have y1 : (-2147483648 : Int) ≤ 0 := by omega
  have y2 : (0 : Int) ≤ 2147483647 := by omega
  have z0 : (0 : Int32) = iI 0 := rfl
  exact lv_if_gt hx hb hd ht (fun h => by rw [z0] at h; exact kt ((iI_lt y1 y2 x1 x2).mp h)) (fun h => by rw [z0] at h; exact kf (Int.not_lt.mp (fun q => h ((iI_lt y1 y2 x1 x2).mpr q))))
theorem q_if_le (hx : p.tables.exec = Jvm.exec) (hb : c.code = cc) {x : Int} {off : Int} {tgt : Nat} (hd : decode cc pc = .ok (.ifCond .le off, 3)) (ht : (pc : Int) + off = (tgt : Int)) (x1 : -2147483648 ≤ x) (x2 : x ≤ 2147483647) (kt : x ≤ 0 → W p l e R s m args below meth c H locs cells slots Q (F0 m tgt ls rest)) (kf : 0 < x → W p l e R s m args below meth c H locs cells slots Q (F0 m (pc + 3) ls rest)) : W p l e R s m args below meth c H locs cells slots Q (F0 m pc ls (.int (iI x) :: rest)) := by
  have y1 : (-2147483648 : Int) ≤ 0 := by omega
  have y2 : (0 : Int) ≤ 2147483647 := by omega
  have z0 : (0 : Int32) = iI 0 := rfl
  exact lv_if_le hx hb hd ht (fun h => by rw [z0] at h; exact kt ((iI_le x1 x2 y1 y2).mp h)) (fun h => by rw [z0] at h; exact kf (Int.not_le.mp (fun q => h ((iI_le x1 x2 y1 y2).mpr q))))
theorem lg_cmp_v {x y : Int64} : (y < x ∧ lg_cmp x y = 1) ∨ (x = y ∧ lg_cmp x y = 0) ∨ (x < y ∧ lg_cmp x y = -1) := by
  unfold lg_cmp
  by_cases h1 : y < x
  · exact Or.inl ⟨h1, if_pos h1⟩
  · by_cases h2 : x = y
    · exact Or.inr (Or.inl ⟨h2, by rw [if_neg (show ¬ x > y from h1), if_pos h2]⟩)
    · refine Or.inr (Or.inr ⟨?_, by rw [if_neg (show ¬ x > y from h1), if_neg h2]⟩)
      rw [Int64.lt_iff_toInt_lt] at h1 ⊢
      rw [← Int64.toInt_inj] at h2
      omega
theorem q_lcmp_eq (hx : p.tables.exec = Jvm.exec) (hb : c.code = cc) {x y : Int} {off : Int} {tgt : Nat} (hd : decode cc pc = .ok (.lcmp, 1)) (hd2 : decode cc (pc + 1) = .ok (.ifCond .eq off, 3)) (ht : ((pc + 1 : Nat) : Int) + off = (tgt : Int)) (x1 : -9223372036854775808 ≤ x) (x2 : x ≤ 9223372036854775807) (y1 : -9223372036854775808 ≤ y) (y2 : y ≤ 9223372036854775807) (kt : x = y → W p l e R s m args below meth c H locs cells slots Q (F0 m tgt ls rest)) (kf : x ≠ y → W p l e R s m args below meth c H locs cells slots Q (F0 m (pc + 4) ls rest)) : W p l e R s m args below meth c H locs cells slots Q (F0 m pc ls (.long (lI y) :: .long (lI x) :: rest)) := by
  refine W.lcmp hx hb hd ?_
  have e : lg_cmp (lI x) (lI y) = iI (if y < x then 1 else if x = y then 0 else -1) := by
    rcases @lg_cmp_v (lI x) (lI y) with ⟨h, q⟩ | ⟨h, q⟩ | ⟨h, q⟩
    · rw [q, if_pos ((lI_lt y1 y2 x1 x2).mp h)]; rfl
    · have h := (lI_eq x1 x2 y1 y2).mp h
      rw [q, if_neg (by omega), if_pos h]; rfl
    · have h := (lI_lt x1 x2 y1 y2).mp h
      rw [q, if_neg (by omega), if_neg (by omega)]; rfl
  rw [e]
  have r1 : -2147483648 ≤ (if y < x then 1 else if x = y then 0 else -1 : Int) ∧ (if y < x then 1 else if x = y then 0 else -1 : Int) ≤ 2147483647 := by split <;> (try split) <;> omega
  refine q_if_eq hx hb hd2 ht r1.1 r1.2 (fun h => kt ?_) (fun h => kf ?_) <;> (split at h <;> (try split at h) <;> omega)
theorem q_lcmp_ne (hx : p.tables.exec = Jvm.exec) (hb : c.code = cc) {x y : Int} {off : Int} {tgt : Nat} (hd : decode cc pc = .ok (.lcmp, 1)) (hd2 : decode cc (pc + 1) = .ok (.ifCond .ne off, 3)) (ht : ((pc + 1 : Nat) : Int) + off = (tgt : Int)) (x1 : -9223372036854775808 ≤ x) (x2 : x ≤ 9223372036854775807) (y1 : -9223372036854775808 ≤ y) (y2 : y ≤ 9223372036854775807) (kt : x ≠ y → W p l e R s m args below meth c H locs cells slots Q (F0 m tgt ls rest)) (kf : x = y → W p l e R s m args below meth c H locs cells slots Q (F0 m (pc + 4) ls rest)) : W p l e R s m args below meth c H locs cells slots Q (F0 m pc ls (.long (lI y) :: .long (lI x) :: rest)) := by
  refine W.lcmp hx hb hd ?_
  have e : lg_cmp (lI x) (lI y) = iI (if y < x then 1 else if x = y then 0 else -1) := by
    rcases @lg_cmp_v (lI x) (lI y) with ⟨h, q⟩ | ⟨h, q⟩ | ⟨h, q⟩
    · rw [q, if_pos ((lI_lt y1 y2 x1 x2).mp h)]; rfl
    · have h := (lI_eq x1 x2 y1 y2).mp h
      rw [q, if_neg (by omega), if_pos h]; rfl
    · have h := (lI_lt x1 x2 y1 y2).mp h
      rw [q, if_neg (by omega), if_neg (by omega)]; rfl
  rw [e]
  have r1 : -2147483648 ≤ (if y < x then 1 else if x = y then 0 else -1 : Int) ∧ (if y < x then 1 else if x = y then 0 else -1 : Int) ≤ 2147483647 := by split <;> (try split) <;> omega
  refine q_if_ne hx hb hd2 ht r1.1 r1.2 (fun h => kt ?_) (fun h => kf ?_) <;> (split at h <;> (try split at h) <;> omega)
theorem q_lcmp_lt (hx : p.tables.exec = Jvm.exec) (hb : c.code = cc) {x y : Int} {off : Int} {tgt : Nat} (hd : decode cc pc = .ok (.lcmp, 1)) (hd2 : decode cc (pc + 1) = .ok (.ifCond .lt off, 3)) (ht : ((pc + 1 : Nat) : Int) + off = (tgt : Int)) (x1 : -9223372036854775808 ≤ x) (x2 : x ≤ 9223372036854775807) (y1 : -9223372036854775808 ≤ y) (y2 : y ≤ 9223372036854775807) (kt : x < y → W p l e R s m args below meth c H locs cells slots Q (F0 m tgt ls rest)) (kf : y ≤ x → W p l e R s m args below meth c H locs cells slots Q (F0 m (pc + 4) ls rest)) : W p l e R s m args below meth c H locs cells slots Q (F0 m pc ls (.long (lI y) :: .long (lI x) :: rest)) := by
  refine W.lcmp hx hb hd ?_
  have e : lg_cmp (lI x) (lI y) = iI (if y < x then 1 else if x = y then 0 else -1) := by
    rcases @lg_cmp_v (lI x) (lI y) with ⟨h, q⟩ | ⟨h, q⟩ | ⟨h, q⟩
    · rw [q, if_pos ((lI_lt y1 y2 x1 x2).mp h)]; rfl
    · have h := (lI_eq x1 x2 y1 y2).mp h
      rw [q, if_neg (by omega), if_pos h]; rfl
    · have h := (lI_lt x1 x2 y1 y2).mp h
      rw [q, if_neg (by omega), if_neg (by omega)]; rfl
  rw [e]
  have r1 : -2147483648 ≤ (if y < x then 1 else if x = y then 0 else -1 : Int) ∧ (if y < x then 1 else if x = y then 0 else -1 : Int) ≤ 2147483647 := by split <;> (try split) <;> omega
  refine q_if_lt hx hb hd2 ht r1.1 r1.2 (fun h => kt ?_) (fun h => kf ?_) <;> (split at h <;> (try split at h) <;> omega)
theorem q_lcmp_ge (hx : p.tables.exec = Jvm.exec) (hb : c.code = cc) {x y : Int} {off : Int} {tgt : Nat} (hd : decode cc pc = .ok (.lcmp, 1)) (hd2 : decode cc (pc + 1) = .ok (.ifCond .ge off, 3)) (ht : ((pc + 1 : Nat) : Int) + off = (tgt : Int)) (x1 : -9223372036854775808 ≤ x) (x2 : x ≤ 9223372036854775807) (y1 : -9223372036854775808 ≤ y) (y2 : y ≤ 9223372036854775807) (kt : y ≤ x → W p l e R s m args below meth c H locs cells slots Q (F0 m tgt ls rest)) (kf : x < y → W p l e R s m args below meth c H locs cells slots Q (F0 m (pc + 4) ls rest)) : W p l e R s m args below meth c H locs cells slots Q (F0 m pc ls (.long (lI y) :: .long (lI x) :: rest)) := by
  refine W.lcmp hx hb hd ?_
  have e : lg_cmp (lI x) (lI y) = iI (if y < x then 1 else if x = y then 0 else -1) := by
    rcases @lg_cmp_v (lI x) (lI y) with ⟨h, q⟩ | ⟨h, q⟩ | ⟨h, q⟩
    · rw [q, if_pos ((lI_lt y1 y2 x1 x2).mp h)]; rfl
    · have h := (lI_eq x1 x2 y1 y2).mp h
      rw [q, if_neg (by omega), if_pos h]; rfl
    · have h := (lI_lt x1 x2 y1 y2).mp h
      rw [q, if_neg (by omega), if_neg (by omega)]; rfl
  rw [e]
  have r1 : -2147483648 ≤ (if y < x then 1 else if x = y then 0 else -1 : Int) ∧ (if y < x then 1 else if x = y then 0 else -1 : Int) ≤ 2147483647 := by split <;> (try split) <;> omega
  refine q_if_ge hx hb hd2 ht r1.1 r1.2 (fun h => kt ?_) (fun h => kf ?_) <;> (split at h <;> (try split at h) <;> omega)
theorem q_lcmp_gt (hx : p.tables.exec = Jvm.exec) (hb : c.code = cc) {x y : Int} {off : Int} {tgt : Nat} (hd : decode cc pc = .ok (.lcmp, 1)) (hd2 : decode cc (pc + 1) = .ok (.ifCond .gt off, 3)) (ht : ((pc + 1 : Nat) : Int) + off = (tgt : Int)) (x1 : -9223372036854775808 ≤ x) (x2 : x ≤ 9223372036854775807) (y1 : -9223372036854775808 ≤ y) (y2 : y ≤ 9223372036854775807) (kt : y < x → W p l e R s m args below meth c H locs cells slots Q (F0 m tgt ls rest)) (kf : x ≤ y → W p l e R s m args below meth c H locs cells slots Q (F0 m (pc + 4) ls rest)) : W p l e R s m args below meth c H locs cells slots Q (F0 m pc ls (.long (lI y) :: .long (lI x) :: rest)) := by
  refine W.lcmp hx hb hd ?_
  have e : lg_cmp (lI x) (lI y) = iI (if y < x then 1 else if x = y then 0 else -1) := by
    rcases @lg_cmp_v (lI x) (lI y) with ⟨h, q⟩ | ⟨h, q⟩ | ⟨h, q⟩
    · rw [q, if_pos ((lI_lt y1 y2 x1 x2).mp h)]; rfl
    · have h := (lI_eq x1 x2 y1 y2).mp h
      rw [q, if_neg (by omega), if_pos h]; rfl
    · have h := (lI_lt x1 x2 y1 y2).mp h
      rw [q, if_neg (by omega), if_neg (by omega)]; rfl
  rw [e]
  have r1 : -2147483648 ≤ (if y < x then 1 else if x = y then 0 else -1 : Int) ∧ (if y < x then 1 else if x = y then 0 else -1 : Int) ≤ 2147483647 := by split <;> (try split) <;> omega
  refine q_if_gt hx hb hd2 ht r1.1 r1.2 (fun h => kt ?_) (fun h => kf ?_) <;> (split at h <;> (try split at h) <;> omega)
theorem q_lcmp_le (hx : p.tables.exec = Jvm.exec) (hb : c.code = cc) {x y : Int} {off : Int} {tgt : Nat} (hd : decode cc pc = .ok (.lcmp, 1)) (hd2 : decode cc (pc + 1) = .ok (.ifCond .le off, 3)) (ht : ((pc + 1 : Nat) : Int) + off = (tgt : Int)) (x1 : -9223372036854775808 ≤ x) (x2 : x ≤ 9223372036854775807) (y1 : -9223372036854775808 ≤ y) (y2 : y ≤ 9223372036854775807) (kt : x ≤ y → W p l e R s m args below meth c H locs cells slots Q (F0 m tgt ls rest)) (kf : y < x → W p l e R s m args below meth c H locs cells slots Q (F0 m (pc + 4) ls rest)) : W p l e R s m args below meth c H locs cells slots Q (F0 m pc ls (.long (lI y) :: .long (lI x) :: rest)) := by
  refine W.lcmp hx hb hd ?_
  have e : lg_cmp (lI x) (lI y) = iI (if y < x then 1 else if x = y then 0 else -1) := by
    rcases @lg_cmp_v (lI x) (lI y) with ⟨h, q⟩ | ⟨h, q⟩ | ⟨h, q⟩
    · rw [q, if_pos ((lI_lt y1 y2 x1 x2).mp h)]; rfl
    · have h := (lI_eq x1 x2 y1 y2).mp h
      rw [q, if_neg (by omega), if_pos h]; rfl
    · have h := (lI_lt x1 x2 y1 y2).mp h
      rw [q, if_neg (by omega), if_neg (by omega)]; rfl
  rw [e]
  have r1 : -2147483648 ≤ (if y < x then 1 else if x = y then 0 else -1 : Int) ∧ (if y < x then 1 else if x = y then 0 else -1 : Int) ≤ 2147483647 := by split <;> (try split) <;> omega
  refine q_if_le hx hb hd2 ht r1.1 r1.2 (fun h => kt ?_) (fun h => kf ?_) <;> (split at h <;> (try split at h) <;> omega)
theorem hv_i {x : Int32} (k : ∀ z : Int, -2147483648 ≤ z → z ≤ 2147483647 → W p l e R s m args below meth c H locs cells slots Q (F0 m pc ls (.int (iI z) :: rest))) : W p l e R s m args below meth c H locs cells slots Q (F0 m pc ls (.int x :: rest)) := by
  obtain ⟨z, rfl, h1, h2⟩ := iI_ex x; exact k z h1 h2
theorem hv_l {x : Int64} (k : ∀ z : Int, -9223372036854775808 ≤ z → z ≤ 9223372036854775807 → W p l e R s m args below meth c H locs cells slots Q (F0 m pc ls (.long (lI z) :: rest))) : W p l e R s m args below meth c H locs cells slots Q (F0 m pc ls (.long x :: rest)) := by
  obtain ⟨z, rfl, h1, h2⟩ := lI_ex x; exact k z h1 h2
theorem q_i2l_w (hx : p.tables.exec = Jvm.exec) (hb : c.code = cc) {x : Int32} (hd : decode cc pc = .ok (.i2l, 1)) (k : ∀ z : Int, -9223372036854775808 ≤ z → z ≤ 9223372036854775807 → W p l e R s m args below meth c H locs cells slots Q (F0 m (pc + 1) ls (.long (lI z) :: rest))) : W p l e R s m args below meth c H locs cells slots Q (F0 m pc ls (.int x :: rest)) := lv_i2l hx hb hd rfl (hv_l k)
theorem q_ldiv_w (hx : p.tables.exec = Jvm.exec) (hb : c.code = cc) {x : Int64} {y : Int} (hd : decode cc pc = .ok (.ldiv, 1)) (y1 : -9223372036854775808 ≤ y) (y2 : y ≤ 9223372036854775807) (y0 : y ≠ 0) (k : ∀ z : Int, -9223372036854775808 ≤ z → z ≤ 9223372036854775807 → W p l e R s m args below meth c H locs cells slots Q (F0 m (pc + 1) ls (.long (lI z) :: rest))) : W p l e R s m args below meth c H locs cells slots Q (F0 m pc ls (.long (lI y) :: .long x :: rest)) := lv_ldiv hx hb hd (fun h => y0 ((lI_eq y1 y2 (by omega) (by omega)).mp (h.trans (show (0 : Int64) = lI 0 from rfl)))) (hv_l k)
theorem q_lrem_w (hx : p.tables.exec = Jvm.exec) (hb : c.code = cc) {x y : Int} (hd : decode cc pc = .ok (.lrem, 1)) (x1 : -9223372036854775808 ≤ x) (x2 : x ≤ 9223372036854775807) (y1 : -9223372036854775808 ≤ y) (y2 : y ≤ 9223372036854775807) (y0 : y ≠ 0) (k : ∀ z : Int, -9223372036854775808 ≤ z → z ≤ 9223372036854775807 → z.natAbs < y.natAbs → W p l e R s m args below meth c H locs cells slots Q (F0 m (pc + 1) ls (.long (lI z) :: rest))) : W p l e R s m args below meth c H locs cells slots Q (F0 m pc ls (.long (lI y) :: .long (lI x) :: rest)) := by
  refine q_lrem hx hb hd x1 x2 y1 y2 y0 ?_
  have h : (x.tmod y).natAbs < y.natAbs := by rw [Int.natAbs_tmod]; exact Nat.mod_lt _ (by omega)
  exact k _ (by omega) (by omega) h
theorem q_iw_eq (hx : p.tables.exec = Jvm.exec) (hb : c.code = cc) {x y : Int32} {off : Int} {tgt : Nat} (hd : decode cc pc = .ok (.if_icmp .eq off, 3)) (ht : (pc : Int) + off = (tgt : Int)) (kt : W p l e R s m args below meth c H locs cells slots Q (F0 m tgt ls rest)) (kf : W p l e R s m args below meth c H locs cells slots Q (F0 m (pc + 3) ls rest)) : W p l e R s m args below meth c H locs cells slots Q (F0 m pc ls (.int y :: .int x :: rest)) := lv_icmp_eq hx hb hd ht (fun _ => kt) (fun _ => kf)
theorem q_ifw_eq (hx : p.tables.exec = Jvm.exec) (hb : c.code = cc) {x : Int32} {off : Int} {tgt : Nat} (hd : decode cc pc = .ok (.ifCond .eq off, 3)) (ht : (pc : Int) + off = (tgt : Int)) (kt : W p l e R s m args below meth c H locs cells slots Q (F0 m tgt ls rest)) (kf : W p l e R s m args below meth c H locs cells slots Q (F0 m (pc + 3) ls rest)) : W p l e R s m args below meth c H locs cells slots Q (F0 m pc ls (.int x :: rest)) := lv_if_eq hx hb hd ht (fun _ => kt) (fun _ => kf)
theorem q_lw_eq (hx : p.tables.exec = Jvm.exec) (hb : c.code = cc) {x y : Int64} {off : Int} {tgt : Nat} (hd : decode cc pc = .ok (.lcmp, 1)) (hd2 : decode cc (pc + 1) = .ok (.ifCond .eq off, 3)) (ht : ((pc + 1 : Nat) : Int) + off = (tgt : Int)) (kt : W p l e R s m args below meth c H locs cells slots Q (F0 m tgt ls rest)) (kf : W p l e R s m args below meth c H locs cells slots Q (F0 m (pc + 4) ls rest)) : W p l e R s m args below meth c H locs cells slots Q (F0 m pc ls (.long y :: .long x :: rest)) := W.lcmp hx hb hd (q_ifw_eq hx hb hd2 ht kt kf)
theorem q_iw_ne (hx : p.tables.exec = Jvm.exec) (hb : c.code = cc) {x y : Int32} {off : Int} {tgt : Nat} (hd : decode cc pc = .ok (.if_icmp .ne off, 3)) (ht : (pc : Int) + off = (tgt : Int)) (kt : W p l e R s m args below meth c H locs cells slots Q (F0 m tgt ls rest)) (kf : W p l e R s m args below meth c H locs cells slots Q (F0 m (pc + 3) ls rest)) : W p l e R s m args below meth c H locs cells slots Q (F0 m pc ls (.int y :: .int x :: rest)) := lv_icmp_ne hx hb hd ht (fun _ => kt) (fun _ => kf)
theorem q_ifw_ne (hx : p.tables.exec = Jvm.exec) (hb : c.code = cc) {x : Int32} {off : Int} {tgt : Nat} (hd : decode cc pc = .ok (.ifCond .ne off, 3)) (ht : (pc : Int) + off = (tgt : Int)) (kt : W p l e R s m args below meth c H locs cells slots Q (F0 m tgt ls rest)) (kf : W p l e R s m args below meth c H locs cells slots Q (F0 m (pc + 3) ls rest)) : W p l e R s m args below meth c H locs cells slots Q (F0 m pc ls (.int x :: rest)) := lv_if_ne hx hb hd ht (fun _ => kt) (fun _ => kf)
theorem q_lw_ne (hx : p.tables.exec = Jvm.exec) (hb : c.code = cc) {x y : Int64} {off : Int} {tgt : Nat} (hd : decode cc pc = .ok (.lcmp, 1)) (hd2 : decode cc (pc + 1) = .ok (.ifCond .ne off, 3)) (ht : ((pc + 1 : Nat) : Int) + off = (tgt : Int)) (kt : W p l e R s m args below meth c H locs cells slots Q (F0 m tgt ls rest)) (kf : W p l e R s m args below meth c H locs cells slots Q (F0 m (pc + 4) ls rest)) : W p l e R s m args below meth c H locs cells slots Q (F0 m pc ls (.long y :: .long x :: rest)) := W.lcmp hx hb hd (q_ifw_ne hx hb hd2 ht kt kf)
theorem q_iw_lt (hx : p.tables.exec = Jvm.exec) (hb : c.code = cc) {x y : Int32} {off : Int} {tgt : Nat} (hd : decode cc pc = .ok (.if_icmp .lt off, 3)) (ht : (pc : Int) + off = (tgt : Int)) (kt : W p l e R s m args below meth c H locs cells slots Q (F0 m tgt ls rest)) (kf : W p l e R s m args below meth c H locs cells slots Q (F0 m (pc + 3) ls rest)) : W p l e R s m args below meth c H locs cells slots Q (F0 m pc ls (.int y :: .int x :: rest)) := lv_icmp_lt hx hb hd ht (fun _ => kt) (fun _ => kf)
theorem q_ifw_lt (hx : p.tables.exec = Jvm.exec) (hb : c.code = cc) {x : Int32} {off : Int} {tgt : Nat} (hd : decode cc pc = .ok (.ifCond .lt off, 3)) (ht : (pc : Int) + off = (tgt : Int)) (kt : W p l e R s m args below meth c H locs cells slots Q (F0 m tgt ls rest)) (kf : W p l e R s m args below meth c H locs cells slots Q (F0 m (pc + 3) ls rest)) : W p l e R s m args below meth c H locs cells slots Q (F0 m pc ls (.int x :: rest)) := lv_if_lt hx hb hd ht (fun _ => kt) (fun _ => kf)
theorem q_lw_lt (hx : p.tables.exec = Jvm.exec) (hb : c.code = cc) {x y : Int64} {off : Int} {tgt : Nat} (hd : decode cc pc = .ok (.lcmp, 1)) (hd2 : decode cc (pc + 1) = .ok (.ifCond .lt off, 3)) (ht : ((pc + 1 : Nat) : Int) + off = (tgt : Int)) (kt : W p l e R s m args below meth c H locs cells slots Q (F0 m tgt ls rest)) (kf : W p l e R s m args below meth c H locs cells slots Q (F0 m (pc + 4) ls rest)) : W p l e R s m args below meth c H locs cells slots Q (F0 m pc ls (.long y :: .long x :: rest)) := W.lcmp hx hb hd (q_ifw_lt hx hb hd2 ht kt kf)
theorem q_iw_ge (hx : p.tables.exec = Jvm.exec) (hb : c.code = cc) {x y : Int32} {off : Int} {tgt : Nat} (hd : decode cc pc = .ok (.if_icmp .ge off, 3)) (ht : (pc : Int) + off = (tgt : Int)) (kt : W p l e R s m args below meth c H locs cells slots Q (F0 m tgt ls rest)) (kf : W p l e R s m args below meth c H locs cells slots Q (F0 m (pc + 3) ls rest)) : W p l e R s m args below meth c H locs cells slots Q (F0 m pc ls (.int y :: .int x :: rest)) := lv_icmp_ge hx hb hd ht (fun _ => kt) (fun _ => kf)
theorem q_ifw_ge (hx : p.tables.exec = Jvm.exec) (hb : c.code = cc) {x : Int32} {off : Int} {tgt : Nat} (hd : decode cc pc = .ok (.ifCond .ge off, 3)) (ht : (pc : Int) + off = (tgt : Int)) (kt : W p l e R s m args below meth c H locs cells slots Q (F0 m tgt ls rest)) (kf : W p l e R s m args below meth c H locs cells slots Q (F0 m (pc + 3) ls rest)) : W p l e R s m args below meth c H locs cells slots Q (F0 m pc ls (.int x :: rest)) := lv_if_ge hx hb hd ht (fun _ => kt) (fun _ => kf)
theorem q_lw_ge (hx : p.tables.exec = Jvm.exec) (hb : c.code = cc) {x y : Int64} {off : Int} {tgt : Nat} (hd : decode cc pc = .ok (.lcmp, 1)) (hd2 : decode cc (pc + 1) = .ok (.ifCond .ge off, 3)) (ht : ((pc + 1 : Nat) : Int) + off = (tgt : Int)) (kt : W p l e R s m args below meth c H locs cells slots Q (F0 m tgt ls rest)) (kf : W p l e R s m args below meth c H locs cells slots Q (F0 m (pc + 4) ls rest)) : W p l e R s m args below meth c H locs cells slots Q (F0 m pc ls (.long y :: .long x :: rest)) := W.lcmp hx hb hd (q_ifw_ge hx hb hd2 ht kt kf)
theorem q_iw_gt (hx : p.tables.exec = Jvm.exec) (hb : c.code = cc) {x y : Int32} {off : Int} {tgt : Nat} (hd : decode cc pc = .ok (.if_icmp .gt off, 3)) (ht : (pc : Int) + off = (tgt : Int)) (kt : W p l e R s m args below meth c H locs cells slots Q (F0 m tgt ls rest)) (kf : W p l e R s m args below meth c H locs cells slots Q (F0 m (pc + 3) ls rest)) : W p l e R s m args below meth c H locs cells slots Q (F0 m pc ls (.int y :: .int x :: rest)) := lv_icmp_gt hx hb hd ht (fun _ => kt) (fun _ => kf)
theorem q_ifw_gt (hx : p.tables.exec = Jvm.exec) (hb : c.code = cc) {x : Int32} {off : Int} {tgt : Nat} (hd : decode cc pc = .ok (.ifCond .gt off, 3)) (ht : (pc : Int) + off = (tgt : Int)) (kt : W p l e R s m args below meth c H locs cells slots Q (F0 m tgt ls rest)) (kf : W p l e R s m args below meth c H locs cells slots Q (F0 m (pc + 3) ls rest)) : W p l e R s m args below meth c H locs cells slots Q (F0 m pc ls (.int x :: rest)) := lv_if_gt hx hb hd ht (fun _ => kt) (fun _ => kf)
theorem q_lw_gt (hx : p.tables.exec = Jvm.exec) (hb : c.code = cc) {x y : Int64} {off : Int} {tgt : Nat} (hd : decode cc pc = .ok (.lcmp, 1)) (hd2 : decode cc (pc + 1) = .ok (.ifCond .gt off, 3)) (ht : ((pc + 1 : Nat) : Int) + off = (tgt : Int)) (kt : W p l e R s m args below meth c H locs cells slots Q (F0 m tgt ls rest)) (kf : W p l e R s m args below meth c H locs cells slots Q (F0 m (pc + 4) ls rest)) : W p l e R s m args below meth c H locs cells slots Q (F0 m pc ls (.long y :: .long x :: rest)) := W.lcmp hx hb hd (q_ifw_gt hx hb hd2 ht kt kf)
theorem q_iw_le (hx : p.tables.exec = Jvm.exec) (hb : c.code = cc) {x y : Int32} {off : Int} {tgt : Nat} (hd : decode cc pc = .ok (.if_icmp .le off, 3)) (ht : (pc : Int) + off = (tgt : Int)) (kt : W p l e R s m args below meth c H locs cells slots Q (F0 m tgt ls rest)) (kf : W p l e R s m args below meth c H locs cells slots Q (F0 m (pc + 3) ls rest)) : W p l e R s m args below meth c H locs cells slots Q (F0 m pc ls (.int y :: .int x :: rest)) := lv_icmp_le hx hb hd ht (fun _ => kt) (fun _ => kf)
theorem q_ifw_le (hx : p.tables.exec = Jvm.exec) (hb : c.code = cc) {x : Int32} {off : Int} {tgt : Nat} (hd : decode cc pc = .ok (.ifCond .le off, 3)) (ht : (pc : Int) + off = (tgt : Int)) (kt : W p l e R s m args below meth c H locs cells slots Q (F0 m tgt ls rest)) (kf : W p l e R s m args below meth c H locs cells slots Q (F0 m (pc + 3) ls rest)) : W p l e R s m args below meth c H locs cells slots Q (F0 m pc ls (.int x :: rest)) := lv_if_le hx hb hd ht (fun _ => kt) (fun _ => kf)
theorem q_lw_le (hx : p.tables.exec = Jvm.exec) (hb : c.code = cc) {x y : Int64} {off : Int} {tgt : Nat} (hd : decode cc pc = .ok (.lcmp, 1)) (hd2 : decode cc (pc + 1) = .ok (.ifCond .le off, 3)) (ht : ((pc + 1 : Nat) : Int) + off = (tgt : Int)) (kt : W p l e R s m args below meth c H locs cells slots Q (F0 m tgt ls rest)) (kf : W p l e R s m args below meth c H locs cells slots Q (F0 m (pc + 4) ls rest)) : W p l e R s m args below meth c H locs cells slots Q (F0 m pc ls (.long y :: .long x :: rest)) := W.lcmp hx hb hd (q_ifw_le hx hb hd2 ht kt kf)
theorem q_iald (hx : p.tables.exec = Jvm.exec) (hb : c.code = cc) {D : va_G} {cl : List vw_C} {A : Nat → Prop} {a : Nat} {tys : List (ClassId × FieldType)} {ws : va_W} {H0 : Heap} (hK : va_K D cl tys s) (hP : va_P D cl ws H) (q0 t0 : Nat) {cA : ClassId} {n : Nat} {f : Int → Int} (ha : ws[q0]? = some (a, .inl (cA, n, .inl (ai f)))) (ht : tys[t0]? = some (cA, .int)) {i : Int} (i1 : 0 ≤ i) (i2 : i < n) (i3 : i ≤ 2147483647) (hd : decode cc pc = .ok (.iaload, 1)) (kk : W p l e R s m args below meth c H locs cells slots Q (F0 m (pc + 1) ls (.int (iI (f i)) :: rest))) : W p l e R s m args below meth c H locs cells slots Q (F0 m pc ls (.int (iI i) :: .ref a :: rest)) := va_iald hx hb hK hP q0 t0 ha ht (iI_in i1 i2 i3) hd (by rw [ai_at f i1 i3]; exact kk)
theorem q_zald (hx : p.tables.exec = Jvm.exec) (hb : c.code = cc) {D : va_G} {cl : List vw_C} {A : Nat → Prop} {a : Nat} {tys : List (ClassId × FieldType)} {ws : va_W} {H0 : Heap} (hK : va_K D cl tys s) (hP : va_P D cl ws H) (q0 t0 : Nat) {cA : ClassId} {n : Nat} {f : Int → Int} (ha : ws[q0]? = some (a, .inl (cA, n, .inl (ai f)))) (ht : tys[t0]? = some (cA, .boolean)) {i : Int} (i1 : 0 ≤ i) (i2 : i < n) (i3 : i ≤ 2147483647) (hd : decode cc pc = .ok (.baload, 1)) (kk : W p l e R s m args below meth c H locs cells slots Q (F0 m (pc + 1) ls (.int (iI (f i)) :: rest))) : W p l e R s m args below meth c H locs cells slots Q (F0 m pc ls (.int (iI i) :: .ref a :: rest)) := va_zald hx hb hK hP q0 t0 ha ht (iI_in i1 i2 i3) hd (by rw [ai_at f i1 i3]; exact kk)
theorem q_lald (hx : p.tables.exec = Jvm.exec) (hb : c.code = cc) {D : va_G} {cl : List vw_C} {A : Nat → Prop} {a : Nat} {tys : List (ClassId × FieldType)} {ws : va_W} {H0 : Heap} (hK : va_K D cl tys s) (hP : va_P D cl ws H) (q0 t0 : Nat) {cA : ClassId} {n : Nat} {f : Int → Int} (ha : ws[q0]? = some (a, .inl (cA, n, .inr (.inl (al f))))) (ht : tys[t0]? = some (cA, .long)) {i : Int} (i1 : 0 ≤ i) (i2 : i < n) (i3 : i ≤ 2147483647) (hd : decode cc pc = .ok (.laload, 1)) (kk : W p l e R s m args below meth c H locs cells slots Q (F0 m (pc + 1) ls (.long (lI (f i)) :: rest))) : W p l e R s m args below meth c H locs cells slots Q (F0 m pc ls (.int (iI i) :: .ref a :: rest)) := va_lald hx hb hK hP q0 t0 ha ht (iI_in i1 i2 i3) hd (by rw [al_at f i1 i3]; exact kk)
theorem q_iast (hx : p.tables.exec = Jvm.exec) (hb : c.code = cc) {D : va_G} {cl : List vw_C} {A : Nat → Prop} {a : Nat} {tys : List (ClassId × FieldType)} {ws : va_W} {H0 : Heap} (hK : va_K D cl tys s) (hP : va_P D cl ws H) (hD : va_D A ws) (hS : va_S A H0 H locs) (q0 t0 : Nat) {cA : ClassId} {n : Nat} {f : Int → Int} (ha : ws[q0]? = some (a, .inl (cA, n, .inl (ai f)))) (ht : tys[t0]? = some (cA, .int)) {i x : Int} (i1 : 0 ≤ i) (i2 : i < n) (i3 : i ≤ 2147483647) (hd : decode cc pc = .ok (.iastore, 1)) (kk : ∀ (H1 : Heap) (locs1 : List Loc), va_P D cl (ws.set q0 (a, .inl (cA, n, .inl (ai (up f i x))))) H1 → va_D A (ws.set q0 (a, .inl (cA, n, .inl (ai (up f i x))))) → va_S A H0 H1 locs1 → W p l e R s m args below meth c H1 locs1 cells slots Q (F0 m (pc + 1) ls rest)) : W p l e R s m args below meth c H locs cells slots Q (F0 m pc ls (.int (iI x) :: .int (iI i) :: .ref a :: rest)) := va_iast hx hb hK hP hD hS q0 t0 ha ht (iI_in i1 i2 i3) hd (by rw [ai_up f x i1 i3]; exact kk)
theorem q_zast (hx : p.tables.exec = Jvm.exec) (hb : c.code = cc) {D : va_G} {cl : List vw_C} {A : Nat → Prop} {a : Nat} {tys : List (ClassId × FieldType)} {ws : va_W} {H0 : Heap} (hK : va_K D cl tys s) (hP : va_P D cl ws H) (hD : va_D A ws) (hS : va_S A H0 H locs) (q0 t0 : Nat) {cA : ClassId} {n : Nat} {f : Int → Int} (ha : ws[q0]? = some (a, .inl (cA, n, .inl (ai f)))) (ht : tys[t0]? = some (cA, .boolean)) {i x : Int} (hz : x = 0 ∨ x = 1) (i1 : 0 ≤ i) (i2 : i < n) (i3 : i ≤ 2147483647) (hd : decode cc pc = .ok (.bastore, 1)) (kk : ∀ (H1 : Heap) (locs1 : List Loc), va_P D cl (ws.set q0 (a, .inl (cA, n, .inl (ai (up f i x))))) H1 → va_D A (ws.set q0 (a, .inl (cA, n, .inl (ai (up f i x))))) → va_S A H0 H1 locs1 → W p l e R s m args below meth c H1 locs1 cells slots Q (F0 m (pc + 1) ls rest)) : W p l e R s m args below meth c H locs cells slots Q (F0 m pc ls (.int (iI x) :: .int (iI i) :: .ref a :: rest)) := va_zast hx hb hK hP hD hS q0 t0 ha ht (iI_in i1 i2 i3) hd (by rw [nar_z hz, ai_up f x i1 i3]; exact kk)
theorem q_last (hx : p.tables.exec = Jvm.exec) (hb : c.code = cc) {D : va_G} {cl : List vw_C} {A : Nat → Prop} {a : Nat} {tys : List (ClassId × FieldType)} {ws : va_W} {H0 : Heap} (hK : va_K D cl tys s) (hP : va_P D cl ws H) (hD : va_D A ws) (hS : va_S A H0 H locs) (q0 t0 : Nat) {cA : ClassId} {n : Nat} {f : Int → Int} (ha : ws[q0]? = some (a, .inl (cA, n, .inr (.inl (al f))))) (ht : tys[t0]? = some (cA, .long)) {i x : Int} (i1 : 0 ≤ i) (i2 : i < n) (i3 : i ≤ 2147483647) (hd : decode cc pc = .ok (.lastore, 1)) (kk : ∀ (H1 : Heap) (locs1 : List Loc), va_P D cl (ws.set q0 (a, .inl (cA, n, .inr (.inl (al (up f i x)))))) H1 → va_D A (ws.set q0 (a, .inl (cA, n, .inr (.inl (al (up f i x)))))) → va_S A H0 H1 locs1 → W p l e R s m args below meth c H1 locs1 cells slots Q (F0 m (pc + 1) ls rest)) : W p l e R s m args below meth c H locs cells slots Q (F0 m pc ls (.long (lI x) :: .int (iI i) :: .ref a :: rest)) := va_last hx hb hK hP hD hS q0 t0 ha ht (iI_in i1 i2 i3) hd (by rw [al_up f x i1 i3]; exact kk)
end QR
/-! standard contracts: a world of cells before, a world behind; the array classes are fixed; the links among nest mates are known -/
abbrev TY (cI cJ cZ : ClassId) : List (ClassId × FieldType) := [(cI, .int), (cJ, .long), (cZ, .boolean)]
def NW (U : State) : Prop := ∀ q ∈ nestLinks, va_Nw (.methodLinkNest q.1 q.2.1 q.2.2.1 q.2.2.2) U
def PB (D : va_G) (cI cJ cZ : ClassId) (ws : va_W) (sz : Nat) (U : State) : Prop := U.heap.size = sz ∧ va_P D vwCl ws U.heap ∧ va_K D vwCl (TY cI cJ cZ) U ∧ va_D (fun _ => True) ws ∧ NW U
def PA {S : Type} (D : va_G) (A : Nat → Prop) (ws' : S → va_W) (u : S) (t : State) : Prop := va_P D vwCl (ws' u) t.heap ∧ va_D A (ws' u)
def Mi (l : Launch) (y : MethodName) (wd : List Cond) (rm : Room) (D : va_G) (cI cJ cZ : ClassId) (av : List Value) (ws : va_W) {S : Type} (post : Int → S → Prop) (ws' : S → va_W) (mc ms : Nat) : Prop :=
  ∀ sz : Nat, Met l y wd rm (va_Pc av (PB D cI cJ cZ ws sz)) (va_Qi (fun r u => ∃ z, r = iI z ∧ post z u) (PA D (va_A ws sz) ws') (va_A ws sz)) mc ms (va_A ws sz)
def Ml (l : Launch) (y : MethodName) (wd : List Cond) (rm : Room) (D : va_G) (cI cJ cZ : ClassId) (av : List Value) (ws : va_W) {S : Type} (post : Int → S → Prop) (ws' : S → va_W) (mc ms : Nat) : Prop :=
  ∀ sz : Nat, Met l y wd rm (va_Pc av (PB D cI cJ cZ ws sz)) (va_Ql (fun r u => ∃ z, r = lI z ∧ post z u) (PA D (va_A ws sz) ws') (va_A ws sz)) mc ms (va_A ws sz)
def Mv (l : Launch) (y : MethodName) (wd : List Cond) (rm : Room) (D : va_G) (cI cJ cZ : ClassId) (av : List Value) (ws : va_W) {S : Type} (post : S → Prop) (ws' : S → va_W) (mc ms : Nat) : Prop :=
  ∀ sz : Nat, Met l y wd rm (va_Pc av (PB D cI cJ cZ ws sz)) (va_Qv post (PA D (va_A ws sz) ws') (va_A ws sz)) mc ms (va_A ws sz)
theorem fm_of {ws wc : va_W} {is : List Nat} (h : is.map (fun i => ws[i]?) = wc.map some) : is.filterMap (fun i => ws[i]?) = wc := by
  have e : is.filterMap (fun i => ws[i]?) = (is.map (fun i => ws[i]?)).filterMap id := by rw [List.filterMap_map]; rfl
  rw [e, h, List.filterMap_map]
  exact List.filterMap_some
theorem pb_blind {D : va_G} {cI cJ cZ : ClassId} {av : List Value} {wc : va_W} {sz : Nat} : FrameBlind (va_Pc av (PB D cI cJ cZ wc sz)) := fun a U g mk q => by
  obtain ⟨q0, q1, qP, qK, qD, qN⟩ := q
  exact ⟨q0, q1, qP, va_K.moved (u := U) (U := U.calling g mk a) (Vm.Alike.refl U.vm) qK, qD, fun x hx => va_Nw.same rfl rfl (qN x hx)⟩
theorem pb_of {s U : State} {H : Heap} {D : va_G} {cI cJ cZ : ClassId} {ws wc : va_W} {A : Nat → Prop} (hK : va_K D vwCl (TY cI cJ cZ) s) (hN : NW s) (hP : va_P D vwCl ws H) (hD : va_D A ws) (is : List Nat) (hnd : va_nd is = true) (hC : is.map (fun i => ws[i]?) = wc.map some) (hU : U.heap = H) (hW : s.WarmedH U.vm) : PB D cI cJ cZ wc H.size U :=
  ⟨by rw [hU], by rw [hU]; exact hP.sub is (fm_of hC), va_K.moved hW.alike hK, (hD.sub is hnd hC).weaken (fun _ _ _ _ => trivial), fun q hq => va_Nw.warmM hW (hN q hq)⟩
theorem pre_S {s : State} {H : Heap} {D : va_G} {cI cJ cZ : ClassId} {ws wc : va_W} {A : Nat → Prop} {av : List Value} (hK : va_K D vwCl (TY cI cJ cZ) s) (hN : NW s) (hP : va_P D vwCl ws H) (hD : va_D A ws) (is : List Nat) (hnd : va_nd is = true) (hC : is.map (fun i => ws[i]?) = wc.map some) : PreS s H (va_Pc av (PB D cI cJ cZ wc H.size)) av :=
  ⟨pb_blind, fun _ hU hW => ⟨rfl, pb_of hK hN hP hD is hnd hC hU hW⟩⟩
theorem pre_V {s : State} {H : Heap} {D : va_G} {cI cJ cZ : ClassId} {ws wc : va_W} {A : Nat → Prop} {As : List Value} {b q0 ci : Nat} {q : vw_C} {fs : List Value} (hK : va_K D vwCl (TY cI cJ cZ) s) (hN : NW s) (hP : va_P D vwCl ws H) (hD : va_D A ws) (is : List Nat) (hnd : va_nd is = true) (hC : is.map (fun i => ws[i]?) = wc.map some) (hc : vwCl[ci]? = some q) (he : ws[q0]? = some (b, .inr (ci, fs))) : PreV s H q.1 b (va_Pc (.ref b :: As) (PB D cI cJ cZ wc H.size)) As :=
  ⟨pb_blind, va_recv hK hP hc he, fun _ hU hW => ⟨rfl, pb_of hK hN hP hD is hnd hC hU hW⟩⟩
section AF
variable {p : Program} {l : Launch} {e : Env} {R : Room} {s : State} {m : MethodId} {args : Array Value} {below : List Frame} {meth : Method} {c : Code} {H : Heap} {locs : List Loc} {cells slots : Nat} {Q : State → Prop}
variable {pc : Nat} {ls : Array Slot} {rest st0 : List Value} {a : Array Value} {A : Nat → Prop} {mc ms : Nat} {D : va_G} {ws wc wr : va_W}
theorem af_i {S : Type} {post : Int → S → Prop} {ws' : S → va_W} (hr : va_Run p l e R s m args below meth c H locs cells slots mc ms (F0 m pc ls st0) rest (va_Qi (fun r u => ∃ z, r = iI z ∧ post z u) (PA D (va_A wc H.size) ws') (va_A wc H.size) a) (va_A wc H.size)) (hA : ∀ q, s.heap.size ≤ q → A q) (hP : va_P D vwCl ws H) (hD : va_D A ws) (hS : va_S A s.heap H locs)
    (isC isR : List Nat) (hC : isC.map (fun i => ws[i]?) = wc.map some) (hR : isR.map (fun i => ws[i]?) = wr.map some) (hn : va_nd isR = true) (hdis : ∀ i ∈ isR, i ∉ isC)
    (kk : ∀ (z : Int) (u : S) (H1 : Heap) (locs1 : List Loc), post z u → va_P D vwCl (wr ++ ws' u) H1 → va_D A (wr ++ ws' u) → va_S A s.heap H1 locs1 → W p l e R s m args below meth c H1 locs1 (cells + mc) (slots + ms) Q (F0 m (pc + 3) ls (.int (iI z) :: rest))) : W p l e R s m args below meth c H locs cells slots Q (F0 m pc ls st0) := by
  have hFc := va_free (wc := wc) hD hS hA isC hC
  refine va_calli hr hS (fun q _ h => hFc q h) hFc (fun r u t H1 locs1 ht hvm hw hB hz1 hk1 hS1 => ?_)
  obtain ⟨z, rfl, hw⟩ := hw
  obtain ⟨hP1, hD1⟩ := hB
  rw [ht] at hP1
  obtain ⟨hP2, hD2⟩ := va_join hP hD isC isR hC hR hn hdis hk1 hFc hP1 hD1
  exact kk z u H1 locs1 hw hP2 hD2 hS1
theorem af_l {S : Type} {post : Int → S → Prop} {ws' : S → va_W} (hr : va_Run p l e R s m args below meth c H locs cells slots mc ms (F0 m pc ls st0) rest (va_Ql (fun r u => ∃ z, r = lI z ∧ post z u) (PA D (va_A wc H.size) ws') (va_A wc H.size) a) (va_A wc H.size)) (hA : ∀ q, s.heap.size ≤ q → A q) (hP : va_P D vwCl ws H) (hD : va_D A ws) (hS : va_S A s.heap H locs)
    (isC isR : List Nat) (hC : isC.map (fun i => ws[i]?) = wc.map some) (hR : isR.map (fun i => ws[i]?) = wr.map some) (hn : va_nd isR = true) (hdis : ∀ i ∈ isR, i ∉ isC)
    (kk : ∀ (z : Int) (u : S) (H1 : Heap) (locs1 : List Loc), post z u → va_P D vwCl (wr ++ ws' u) H1 → va_D A (wr ++ ws' u) → va_S A s.heap H1 locs1 → W p l e R s m args below meth c H1 locs1 (cells + mc) (slots + ms) Q (F0 m (pc + 3) ls (.long (lI z) :: rest))) : W p l e R s m args below meth c H locs cells slots Q (F0 m pc ls st0) := by
  have hFc := va_free (wc := wc) hD hS hA isC hC
  refine va_calll hr hS (fun q _ h => hFc q h) hFc (fun r u t H1 locs1 ht hvm hw hB hz1 hk1 hS1 => ?_)
  obtain ⟨z, rfl, hw⟩ := hw
  obtain ⟨hP1, hD1⟩ := hB
  rw [ht] at hP1
  obtain ⟨hP2, hD2⟩ := va_join hP hD isC isR hC hR hn hdis hk1 hFc hP1 hD1
  exact kk z u H1 locs1 hw hP2 hD2 hS1
theorem af_v {S : Type} {post : S → Prop} {ws' : S → va_W} (hr : va_Run p l e R s m args below meth c H locs cells slots mc ms (F0 m pc ls st0) rest (va_Qv post (PA D (va_A wc H.size) ws') (va_A wc H.size) a) (va_A wc H.size)) (hA : ∀ q, s.heap.size ≤ q → A q) (hP : va_P D vwCl ws H) (hD : va_D A ws) (hS : va_S A s.heap H locs)
    (isC isR : List Nat) (hC : isC.map (fun i => ws[i]?) = wc.map some) (hR : isR.map (fun i => ws[i]?) = wr.map some) (hn : va_nd isR = true) (hdis : ∀ i ∈ isR, i ∉ isC)
    (kk : ∀ (u : S) (H1 : Heap) (locs1 : List Loc), post u → va_P D vwCl (wr ++ ws' u) H1 → va_D A (wr ++ ws' u) → va_S A s.heap H1 locs1 → W p l e R s m args below meth c H1 locs1 (cells + mc) (slots + ms) Q (F0 m (pc + 3) ls rest)) : W p l e R s m args below meth c H locs cells slots Q (F0 m pc ls st0) := by
  have hFc := va_free (wc := wc) hD hS hA isC hC
  refine va_callv hr hS (fun q _ h => hFc q h) hFc (fun u t H1 locs1 ht hvm hw hB hz1 hk1 hS1 => ?_)
  obtain ⟨hP1, hD1⟩ := hB
  rw [ht] at hP1
  obtain ⟨hP2, hD2⟩ := va_join hP hD isC isR hC hR hn hdis hk1 hFc hP1 hD1
  exact kk u H1 locs1 hw hP2 hD2 hS1
end AF
/-! a method's start and its ends -/
section EN
variable {l : Launch} {y : MethodName} {wd wd' : List Cond} {rm : Room} {D : va_G} {cI cJ cZ : ClassId} {av : List Value} {ws : va_W} {S : Type} {ws' : S → va_W} {mc ms : Nat} {cc : ByteArray} {maxL : Nat} {ty : FieldType}
theorem en_i {post : Int → S → Prop} (hy : plainName y.cls = true) (hw : wd = Cond.code y cc maxL (some ty) :: wd') (hlen : (lg_sl av).length ≤ maxL)
    (body : ∀ (p : Program) (e : Env) (s : State) (m : MethodId) (args : Array Value) (below : List Frame) (meth : Method) (c : Code) (A : Nat → Prop) (Q : State → Prop), p.tables.exec = Jvm.exec → c.code = cc → c.maxLocals = maxL → meth.name = y.name → (∀ w ∈ wd, w.before args s = true) → s.vm.findClass y.cls = some m.cls → (∀ q, s.heap.size ≤ q → A q) → va_P D vwCl ws s.heap → va_K D vwCl (TY cI cJ cZ) s → va_D A ws → NW s → va_S A s.heap s.heap [] → (∀ (H : Heap) (locs : List Loc) (pc : Nat) (ls : Array Slot) (z : Int) (u : S), narrow ty (.int (iI z)) = .int (iI z) → va_S A s.heap H locs → post z u → va_P D vwCl (ws' u) H → va_D A (ws' u) → decode cc pc = .ok (.ireturn, 1) → W p l e rm s m args below meth c H locs mc ms Q (F0 m pc ls [.int (iI z)])) →
      ∀ ls : Array Slot, lv_has ls maxL (lv_args 0 av) → W p l e rm s m args below meth c s.heap [] 0 0 Q (F0 m 0 ls [])) : Mi l y wd rm D cI cJ cZ av ws post ws' mc ms := by
  intro sz
  refine Met.ofW (cc := cc) (maxL := maxL) (ret := some ty) hy hw ?_
  intro p e s m args below meth c s₁ B hml hv
  obtain ⟨rfl, hsz, hP, hK, hD0, hN⟩ := hv
  subst hsz
  have hD := hD0.self (sz := s.heap.size)
  rw [lg_entry_eq]
  exact body p e s m _ below meth c (va_A ws s.heap.size) _ B.exec B.bytes hml (name_of_methodNamed B.named B.method).1 (atoms_spec (ws := wd) B.pre) (findClass_of_methodNamed B.named) (fun q h => Or.inr h) hP hK hD hN va_S.rf
    (fun H locs pc ls z u hn hS hp hP hD hd => W.zret B.exec B.bytes B.returns hn (fun t ht _ => ⟨⟨iI z, u, rfl, ⟨z, rfl, hp⟩, by rw [ht]; exact hP, hD⟩, hS.F ht⟩) hS.2.2 hd B.notSynchronized) _ (lv_entry av hlen)
theorem en_l {post : Int → S → Prop} (hy : plainName y.cls = true) (hw : wd = Cond.code y cc maxL (some .long) :: wd') (hlen : (lg_sl av).length ≤ maxL)
    (body : ∀ (p : Program) (e : Env) (s : State) (m : MethodId) (args : Array Value) (below : List Frame) (meth : Method) (c : Code) (A : Nat → Prop) (Q : State → Prop), p.tables.exec = Jvm.exec → c.code = cc → c.maxLocals = maxL → meth.name = y.name → (∀ w ∈ wd, w.before args s = true) → s.vm.findClass y.cls = some m.cls → (∀ q, s.heap.size ≤ q → A q) → va_P D vwCl ws s.heap → va_K D vwCl (TY cI cJ cZ) s → va_D A ws → NW s → va_S A s.heap s.heap [] → (∀ (H : Heap) (locs : List Loc) (pc : Nat) (ls : Array Slot) (z : Int) (u : S), va_S A s.heap H locs → post z u → va_P D vwCl (ws' u) H → va_D A (ws' u) → decode cc pc = .ok (.lreturn, 1) → W p l e rm s m args below meth c H locs mc ms Q (F0 m pc ls [.long (lI z)])) →
      ∀ ls : Array Slot, lv_has ls maxL (lv_args 0 av) → W p l e rm s m args below meth c s.heap [] 0 0 Q (F0 m 0 ls [])) : Ml l y wd rm D cI cJ cZ av ws post ws' mc ms := by
  intro sz
  refine Met.ofW (cc := cc) (maxL := maxL) (ret := some .long) hy hw ?_
  intro p e s m args below meth c s₁ B hml hv
  obtain ⟨rfl, hsz, hP, hK, hD0, hN⟩ := hv
  subst hsz
  have hD := hD0.self (sz := s.heap.size)
  rw [lg_entry_eq]
  exact body p e s m _ below meth c (va_A ws s.heap.size) _ B.exec B.bytes hml (name_of_methodNamed B.named B.method).1 (atoms_spec (ws := wd) B.pre) (findClass_of_methodNamed B.named) (fun q h => Or.inr h) hP hK hD hN va_S.rf
    (fun H locs pc ls z u hS hp hP hD hd => W.lret B.exec B.bytes B.returns (fun t ht _ => ⟨⟨lI z, u, rfl, ⟨z, rfl, hp⟩, by rw [ht]; exact hP, hD⟩, hS.F ht⟩) hS.2.2 hd B.notSynchronized) _ (lv_entry av hlen)
theorem en_v {post : S → Prop} (hy : plainName y.cls = true) (hw : wd = Cond.code y cc maxL (none) :: wd') (hlen : (lg_sl av).length ≤ maxL)
    (body : ∀ (p : Program) (e : Env) (s : State) (m : MethodId) (args : Array Value) (below : List Frame) (meth : Method) (c : Code) (A : Nat → Prop) (Q : State → Prop), p.tables.exec = Jvm.exec → c.code = cc → c.maxLocals = maxL → meth.name = y.name → (∀ w ∈ wd, w.before args s = true) → s.vm.findClass y.cls = some m.cls → (∀ q, s.heap.size ≤ q → A q) → va_P D vwCl ws s.heap → va_K D vwCl (TY cI cJ cZ) s → va_D A ws → NW s → va_S A s.heap s.heap [] → (∀ (H : Heap) (locs : List Loc) (pc : Nat) (ls : Array Slot) (u : S), va_S A s.heap H locs → post u → va_P D vwCl (ws' u) H → va_D A (ws' u) → decode cc pc = .ok (.return_, 1) → W p l e rm s m args below meth c H locs mc ms Q (F0 m pc ls [])) →
      ∀ ls : Array Slot, lv_has ls maxL (lv_args 0 av) → W p l e rm s m args below meth c s.heap [] 0 0 Q (F0 m 0 ls [])) : Mv l y wd rm D cI cJ cZ av ws post ws' mc ms := by
  intro sz
  refine Met.ofW (cc := cc) (maxL := maxL) (ret := none) hy hw ?_
  intro p e s m args below meth c s₁ B hml hv
  obtain ⟨rfl, hsz, hP, hK, hD0, hN⟩ := hv
  subst hsz
  have hD := hD0.self (sz := s.heap.size)
  rw [lg_entry_eq]
  exact body p e s m _ below meth c (va_A ws s.heap.size) _ B.exec B.bytes hml (name_of_methodNamed B.named B.method).1 (atoms_spec (ws := wd) B.pre) (findClass_of_methodNamed B.named) (fun q h => Or.inr h) hP hK hD hN va_S.rf
    (fun H locs pc ls u hS hp hP hD hd => W.vret B.exec B.bytes B.returns (fun t ht _ => ⟨⟨u, rfl, hp, by rw [ht]; exact hP, hD⟩, hS.F ht⟩) hS.2.2 hd B.notSynchronized) _ (lv_entry av hlen)
end EN
/-! truth values -/
def bl (z : Int) (P : Prop) : Prop := (z = 1 ∧ P) ∨ (z = 0 ∧ ¬ P)
theorem bl_1 {z : Int} {P : Prop} (h : bl z P) : -2147483648 ≤ z := by rcases h with ⟨h, -⟩ | ⟨h, -⟩ <;> omega
theorem bl_2 {z : Int} {P : Prop} (h : bl z P) : z ≤ 2147483647 := by rcases h with ⟨h, -⟩ | ⟨h, -⟩ <;> omega
theorem bl_01 {z : Int} {P : Prop} (h : bl z P) : z = 0 ∨ z = 1 := by rcases h with ⟨h, -⟩ | ⟨h, -⟩ <;> omega
theorem bl_t {z : Int} {P : Prop} (h : bl z P) (q : z ≠ 0) : P := by rcases h with ⟨-, h⟩ | ⟨h, -⟩ <;> first | exact h | exact absurd h q
theorem bl_f {z : Int} {P : Prop} (h : bl z P) (q : z = 0) : ¬ P := by
  rcases h with ⟨h, -⟩ | ⟨-, h⟩
  · omega
  · exact h
theorem bl_y {P : Prop} (h : P) : bl 1 P := Or.inl ⟨rfl, h⟩
theorem bl_n {P : Prop} (h : ¬ P) : bl 0 P := Or.inr ⟨rfl, h⟩
theorem bl_c {z : Int} {P R : Prop} (h : bl z P) (e : P ↔ R) : bl z R := h.imp (fun h => ⟨h.1, e.mp h.2⟩) (fun h => ⟨h.1, fun r => h.2 (e.mpr r)⟩)
theorem bl_e {z : Int} {P : Prop} (h : bl z P) : (z = 1 ↔ P) ∧ (z = 0 ↔ ¬ P) := by rcases h with ⟨h, q⟩ | ⟨h, q⟩ <;> subst h <;> simp [q]
/-- two array classes of one kind are one -/
theorem arr_same {D : va_G} {cl : List vw_C} {t1 t2 : List (ClassId × FieldType)} {s : State} (h1 : va_K D cl t1 s) (h2 : va_K D cl t2 s) {i j : Nat} {c1 c2 : ClassId} {ty : FieldType} (e1 : t1[i]? = some (c1, ty)) (e2 : t2[j]? = some (c2, ty)) (hty : ty = .int ∨ ty = .long ∨ ty = .boolean) : c1 = c2 := by
  have a := (h1.2 i _ e1).2
  have b := (h2.2 j _ e2).2
  rcases hty with rfl | rfl | rfl <;> exact Option.some.inj (Eq.trans (Eq.symm a) b)
end
