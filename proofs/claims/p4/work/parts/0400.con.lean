def rm_X_within : Room := { frames := 0, cells := 0, slots := 0, locals := 0 }
set_option maxHeartbeats 4000000 in
set_option maxRecDepth 100000 in
theorem c_X_within (l : Launch) (D : va_G) (cI cJ cZ : ClassId) (x : Int) (lo : Int) (hi : Int) (h1 : -2147483648 ≤ x) (h2 : x ≤ 2147483647) (h3 : -2147483648 ≤ lo) (h4 : lo ≤ 2147483647) (h5 : -2147483648 ≤ hi) (h6 : hi ≤ 2147483647) : Mi l yqX_within wsqX_within rm_X_within D cI cJ cZ [.int (iI x), .int (iI lo), .int (iI hi)] [] (S := Unit) (fun z _ => bl z (lo ≤ x ∧ x ≤ hi)) (fun _ => []) 0 0 := by
  refine en_i (cc := cqX_within) (maxL := 3) (ty := .boolean) (by decide +kernel) rfl (Nat.le_of_ble_eq_true rfl) ?_
  intro p e s m args below meth c A Q hx hb hml hin hts hown hA hP hK hD hN hS hret ls hl
  have hl : lv_has ls 3 [(0, .int (iI x)), (1, .int (iI lo)), (2, .int (iI hi))] := hl
  obtain ⟨H, hH0⟩ : ∃ H, H = s.heap := ⟨_, rfl⟩
  obtain ⟨locs, hL0⟩ : ∃ locs : List Loc, locs = [] := ⟨_, rfl⟩
  rw [← hH0] at hP
  have hS : va_S A s.heap H locs := by rw [hH0, hL0]; exact hS
  have goal : W p l e rm_X_within s m args below meth c H locs 0 0 Q (F0 m 0 ls []) := by
    refine lv_iload_n hx hb dqX_within_0 rfl (lv_at hl 1 rfl) ?_
    refine lv_iload_n hx hb dqX_within_1 rfl (lv_at hl 0 rfl) ?_
    refine q_icmp_gt (tgt := 14) hx hb dqX_within_2 (by decide) (by omega) (by omega) (by omega) (by omega) (fun c_2 => ?_) (fun c_2 => ?_)
    · refine lv_iconst (v := iI 0) hx hb dqX_within_14 rfl ?_
      exact hret H locs _ ls 0 () (narrow_z (by omega)) hS (by first | rfl | trivial | omega | exact bl_y (by omega) | exact bl_n (by omega) | (apply Or.inl; (and_intros <;> first | rfl | omega)) | (apply Or.inr; apply Or.inl; (and_intros <;> first | rfl | omega)) | (apply Or.inr; (and_intros <;> first | rfl | omega)) | (apply Or.inr; apply Or.inr; apply Or.inl; (and_intros <;> first | rfl | omega)) | (apply Or.inr; apply Or.inr; (and_intros <;> first | rfl | omega)) | (apply Or.inr; apply Or.inr; apply Or.inr; apply Or.inl; (and_intros <;> first | rfl | omega)) | (apply Or.inr; apply Or.inr; apply Or.inr; (and_intros <;> first | rfl | omega)) | (apply Or.inr; apply Or.inr; apply Or.inr; apply Or.inr; apply Or.inl; (and_intros <;> first | rfl | omega)) | (apply Or.inr; apply Or.inr; apply Or.inr; apply Or.inr; (and_intros <;> first | rfl | omega))) hP hD dqX_within_15
    · refine lv_iload_n hx hb dqX_within_5 rfl (lv_at hl 0 rfl) ?_
      refine lv_iload_n hx hb dqX_within_6 rfl (lv_at hl 2 rfl) ?_
      refine q_icmp_gt (tgt := 14) hx hb dqX_within_7 (by decide) (by omega) (by omega) (by omega) (by omega) (fun c_7 => ?_) (fun c_7 => ?_)
      · refine lv_iconst (v := iI 0) hx hb dqX_within_14 rfl ?_
        exact hret H locs _ ls 0 () (narrow_z (by omega)) hS (by first | rfl | trivial | omega | exact bl_y (by omega) | exact bl_n (by omega) | (apply Or.inl; (and_intros <;> first | rfl | omega)) | (apply Or.inr; apply Or.inl; (and_intros <;> first | rfl | omega)) | (apply Or.inr; (and_intros <;> first | rfl | omega)) | (apply Or.inr; apply Or.inr; apply Or.inl; (and_intros <;> first | rfl | omega)) | (apply Or.inr; apply Or.inr; (and_intros <;> first | rfl | omega)) | (apply Or.inr; apply Or.inr; apply Or.inr; apply Or.inl; (and_intros <;> first | rfl | omega)) | (apply Or.inr; apply Or.inr; apply Or.inr; (and_intros <;> first | rfl | omega)) | (apply Or.inr; apply Or.inr; apply Or.inr; apply Or.inr; apply Or.inl; (and_intros <;> first | rfl | omega)) | (apply Or.inr; apply Or.inr; apply Or.inr; apply Or.inr; (and_intros <;> first | rfl | omega))) hP hD dqX_within_15
      · refine lv_iconst (v := iI 1) hx hb dqX_within_10 rfl ?_
        refine lv_goto (tgt := 15) hx hb dqX_within_11 (by decide) ?_
        exact hret H locs _ ls 1 () (narrow_z (by omega)) hS (by first | rfl | trivial | omega | exact bl_y (by omega) | exact bl_n (by omega) | (apply Or.inl; (and_intros <;> first | rfl | omega)) | (apply Or.inr; apply Or.inl; (and_intros <;> first | rfl | omega)) | (apply Or.inr; (and_intros <;> first | rfl | omega)) | (apply Or.inr; apply Or.inr; apply Or.inl; (and_intros <;> first | rfl | omega)) | (apply Or.inr; apply Or.inr; (and_intros <;> first | rfl | omega)) | (apply Or.inr; apply Or.inr; apply Or.inr; apply Or.inl; (and_intros <;> first | rfl | omega)) | (apply Or.inr; apply Or.inr; apply Or.inr; (and_intros <;> first | rfl | omega)) | (apply Or.inr; apply Or.inr; apply Or.inr; apply Or.inr; apply Or.inl; (and_intros <;> first | rfl | omega)) | (apply Or.inr; apply Or.inr; apply Or.inr; apply Or.inr; (and_intros <;> first | rfl | omega))) hP hD dqX_within_15
  rw [hH0, hL0] at goal
  exact goal
def rm_X_isStaff : Room := { frames := 1, cells := 0, slots := 0, locals := 22 }
set_option maxHeartbeats 4000000 in
set_option maxRecDepth 100000 in
theorem c_X_isStaff (l : Launch) (D : va_G) (cI cJ cZ : ClassId) (x : Int) (h1 : -2147483648 ≤ x) (h2 : x ≤ 2147483647) : Mi l yqX_isStaff wsqX_isStaff rm_X_isStaff D cI cJ cZ [.int (iI x)] [] (S := Unit) (fun z _ => bl z (0 ≤ x ∧ x ≤ 3)) (fun _ => []) 0 0 := by
  refine en_i (cc := cqX_isStaff) (maxL := 1) (ty := .boolean) (by decide +kernel) rfl (Nat.le_of_ble_eq_true rfl) ?_
  intro p e s m args below meth c A Q hx hb hml hin hts hown hA hP hK hD hN hS hret ls hl
  have hl : lv_has ls 1 [(0, .int (iI x))] := hl
  obtain ⟨H, hH0⟩ : ∃ H, H = s.heap := ⟨_, rfl⟩
  obtain ⟨locs, hL0⟩ : ∃ locs : List Loc, locs = [] := ⟨_, rfl⟩
  rw [← hH0] at hP
  have hS : va_S A s.heap H locs := by rw [hH0, hL0]; exact hS
  have goal : W p l e rm_X_isStaff s m args below meth c H locs 0 0 Q (F0 m 0 ls []) := by
    refine lv_iload_n hx hb dqX_isStaff_0 rfl (lv_at hl 0 rfl) ?_
    refine lv_iconst (v := iI 0) hx hb dqX_isStaff_1 rfl ?_
    refine lv_iconst (v := iI 3) hx hb dqX_isStaff_2 rfl ?_
    refine af_i (wr := []) (va_runS (As := [.int (iI x), .int (iI 0), .int (iI 3)]) (rest := []) ⟨hx, hb, hml, hown, hts⟩ (c_X_within l D cI cJ cZ x 0 3 (by omega) (by omega) (by omega) (by omega) (by omega) (by omega) H.size) (va_cwS 3 hts (gi_S tb_223 tb_224 tb_25 tb_225) rfl rfl rfl (by decide +kernel) ⟨Nat.le_of_ble_eq_true rfl, Nat.le_of_ble_eq_true rfl⟩) (pre_S hK hN hP hD [] rfl rfl) rfl rfl hl.1 rfl (lv_room (Nat.le_of_ble_eq_true rfl)) dqX_isStaff_3 ⟨by first | omega | decide, by first | omega | decide⟩) hA hP hD hS [] [] rfl rfl (by decide +kernel) (by decide +kernel) (fun z1 u2 H locs hw_z1 hP hD hS => ?_)
    have hP : va_P D vwCl [] H := hP
    have hD : va_D A [] := hD
    have hw_z1 : bl z1 ((0 : Int) ≤ x ∧ x ≤ (3 : Int)) := hw_z1
    exact hret H locs _ ls z1 () (narrow_z (bl_01 hw_z1)) hS (by first | exact hw_z1 | exact bl_01 hw_z1 | exact bl_c hw_z1 (by constructor <;> intro h <;> omega) | rfl | trivial | omega | exact bl_y (by omega) | exact bl_n (by omega) | (apply Or.inl; (and_intros <;> first | rfl | omega)) | (apply Or.inr; apply Or.inl; (and_intros <;> first | rfl | omega)) | (apply Or.inr; (and_intros <;> first | rfl | omega)) | (apply Or.inr; apply Or.inr; apply Or.inl; (and_intros <;> first | rfl | omega)) | (apply Or.inr; apply Or.inr; (and_intros <;> first | rfl | omega)) | (apply Or.inr; apply Or.inr; apply Or.inr; apply Or.inl; (and_intros <;> first | rfl | omega)) | (apply Or.inr; apply Or.inr; apply Or.inr; (and_intros <;> first | rfl | omega)) | (apply Or.inr; apply Or.inr; apply Or.inr; apply Or.inr; apply Or.inl; (and_intros <;> first | rfl | omega)) | (apply Or.inr; apply Or.inr; apply Or.inr; apply Or.inr; (and_intros <;> first | rfl | omega))) hP hD dqX_isStaff_6
  rw [hH0, hL0] at goal
  exact goal
def rm_X_isExtent : Room := { frames := 1, cells := 0, slots := 0, locals := 22 }
set_option maxHeartbeats 4000000 in
set_option maxRecDepth 100000 in
theorem c_X_isExtent (l : Launch) (D : va_G) (cI cJ cZ : ClassId) (x : Int) (h1 : -2147483648 ≤ x) (h2 : x ≤ 2147483647) : Mi l yqX_isExtent wsqX_isExtent rm_X_isExtent D cI cJ cZ [.int (iI x)] [] (S := Unit) (fun z _ => bl z (0 ≤ x ∧ x ≤ 20000)) (fun _ => []) 0 0 := by
  refine en_i (cc := cqX_isExtent) (maxL := 1) (ty := .boolean) (by decide +kernel) rfl (Nat.le_of_ble_eq_true rfl) ?_
  intro p e s m args below meth c A Q hx hb hml hin hts hown hA hP hK hD hN hS hret ls hl
  have hl : lv_has ls 1 [(0, .int (iI x))] := hl
  obtain ⟨H, hH0⟩ : ∃ H, H = s.heap := ⟨_, rfl⟩
  obtain ⟨locs, hL0⟩ : ∃ locs : List Loc, locs = [] := ⟨_, rfl⟩
  rw [← hH0] at hP
  have hS : va_S A s.heap H locs := by rw [hH0, hL0]; exact hS
  have goal : W p l e rm_X_isExtent s m args below meth c H locs 0 0 Q (F0 m 0 ls []) := by
    refine lv_iload_n hx hb dqX_isExtent_0 rfl (lv_at hl 0 rfl) ?_
    refine lv_iconst (v := iI 0) hx hb dqX_isExtent_1 rfl ?_
    refine lv_sipush (v := iI 20000) hx hb dqX_isExtent_2 (by decide +kernel) ?_
    refine af_i (wr := []) (va_runS (As := [.int (iI x), .int (iI 0), .int (iI 20000)]) (rest := []) ⟨hx, hb, hml, hown, hts⟩ (c_X_within l D cI cJ cZ x 0 20000 (by omega) (by omega) (by omega) (by omega) (by omega) (by omega) H.size) (va_cwS 3 hts (gi_S tb_223 tb_224 tb_25 tb_225) rfl rfl rfl (by decide +kernel) ⟨Nat.le_of_ble_eq_true rfl, Nat.le_of_ble_eq_true rfl⟩) (pre_S hK hN hP hD [] rfl rfl) rfl rfl hl.1 rfl (lv_room (Nat.le_of_ble_eq_true rfl)) dqX_isExtent_5 ⟨by first | omega | decide, by first | omega | decide⟩) hA hP hD hS [] [] rfl rfl (by decide +kernel) (by decide +kernel) (fun z1 u2 H locs hw_z1 hP hD hS => ?_)
    have hP : va_P D vwCl [] H := hP
    have hD : va_D A [] := hD
    have hw_z1 : bl z1 ((0 : Int) ≤ x ∧ x ≤ (20000 : Int)) := hw_z1
    exact hret H locs _ ls z1 () (narrow_z (bl_01 hw_z1)) hS (by first | exact hw_z1 | exact bl_01 hw_z1 | exact bl_c hw_z1 (by constructor <;> intro h <;> omega) | rfl | trivial | omega | exact bl_y (by omega) | exact bl_n (by omega) | (apply Or.inl; (and_intros <;> first | rfl | omega)) | (apply Or.inr; apply Or.inl; (and_intros <;> first | rfl | omega)) | (apply Or.inr; (and_intros <;> first | rfl | omega)) | (apply Or.inr; apply Or.inr; apply Or.inl; (and_intros <;> first | rfl | omega)) | (apply Or.inr; apply Or.inr; (and_intros <;> first | rfl | omega)) | (apply Or.inr; apply Or.inr; apply Or.inr; apply Or.inl; (and_intros <;> first | rfl | omega)) | (apply Or.inr; apply Or.inr; apply Or.inr; (and_intros <;> first | rfl | omega)) | (apply Or.inr; apply Or.inr; apply Or.inr; apply Or.inr; apply Or.inl; (and_intros <;> first | rfl | omega)) | (apply Or.inr; apply Or.inr; apply Or.inr; apply Or.inr; (and_intros <;> first | rfl | omega))) hP hD dqX_isExtent_8
  rw [hH0, hL0] at goal
  exact goal
def rm_X_isPart : Room := { frames := 0, cells := 0, slots := 0, locals := 0 }
set_option maxHeartbeats 4000000 in
set_option maxRecDepth 100000 in
theorem c_X_isPart (l : Launch) (D : va_G) (cI cJ cZ : ClassId) (x : Int) (h1 : -2147483648 ≤ x) (h2 : x ≤ 2147483647) : Mi l yqX_isPart wsqX_isPart rm_X_isPart D cI cJ cZ [.int (iI x)] [] (S := Unit) (fun z _ => bl z (x = 0 ∨ x = 1)) (fun _ => []) 0 0 := by
  refine en_i (cc := cqX_isPart) (maxL := 1) (ty := .boolean) (by decide +kernel) rfl (Nat.le_of_ble_eq_true rfl) ?_
  intro p e s m args below meth c A Q hx hb hml hin hts hown hA hP hK hD hN hS hret ls hl
  have hl : lv_has ls 1 [(0, .int (iI x))] := hl
  obtain ⟨H, hH0⟩ : ∃ H, H = s.heap := ⟨_, rfl⟩
  obtain ⟨locs, hL0⟩ : ∃ locs : List Loc, locs = [] := ⟨_, rfl⟩
  rw [← hH0] at hP
  have hS : va_S A s.heap H locs := by rw [hH0, hL0]; exact hS
  have goal : W p l e rm_X_isPart s m args below meth c H locs 0 0 Q (F0 m 0 ls []) := by
    refine lv_iload_n hx hb dqX_isPart_0 rfl (lv_at hl 0 rfl) ?_
    refine q_if_eq (tgt := 9) hx hb dqX_isPart_1 (by decide) (by omega) (by omega) (fun c_1 => ?_) (fun c_1 => ?_)
    · refine lv_iconst (v := iI 1) hx hb dqX_isPart_9 rfl ?_
      refine lv_goto (tgt := 14) hx hb dqX_isPart_10 (by decide) ?_
      exact hret H locs _ ls 1 () (narrow_z (by omega)) hS (by first | rfl | trivial | omega | exact bl_y (by omega) | exact bl_n (by omega) | (apply Or.inl; (and_intros <;> first | rfl | omega)) | (apply Or.inr; apply Or.inl; (and_intros <;> first | rfl | omega)) | (apply Or.inr; (and_intros <;> first | rfl | omega)) | (apply Or.inr; apply Or.inr; apply Or.inl; (and_intros <;> first | rfl | omega)) | (apply Or.inr; apply Or.inr; (and_intros <;> first | rfl | omega)) | (apply Or.inr; apply Or.inr; apply Or.inr; apply Or.inl; (and_intros <;> first | rfl | omega)) | (apply Or.inr; apply Or.inr; apply Or.inr; (and_intros <;> first | rfl | omega)) | (apply Or.inr; apply Or.inr; apply Or.inr; apply Or.inr; apply Or.inl; (and_intros <;> first | rfl | omega)) | (apply Or.inr; apply Or.inr; apply Or.inr; apply Or.inr; (and_intros <;> first | rfl | omega))) hP hD dqX_isPart_14
    · refine lv_iload_n hx hb dqX_isPart_4 rfl (lv_at hl 0 rfl) ?_
      refine lv_iconst (v := iI 1) hx hb dqX_isPart_5 rfl ?_
      refine q_icmp_ne (tgt := 13) hx hb dqX_isPart_6 (by decide) (by omega) (by omega) (by omega) (by omega) (fun c_6 => ?_) (fun c_6 => ?_)
      · refine lv_iconst (v := iI 0) hx hb dqX_isPart_13 rfl ?_
        exact hret H locs _ ls 0 () (narrow_z (by omega)) hS (by first | rfl | trivial | omega | exact bl_y (by omega) | exact bl_n (by omega) | (apply Or.inl; (and_intros <;> first | rfl | omega)) | (apply Or.inr; apply Or.inl; (and_intros <;> first | rfl | omega)) | (apply Or.inr; (and_intros <;> first | rfl | omega)) | (apply Or.inr; apply Or.inr; apply Or.inl; (and_intros <;> first | rfl | omega)) | (apply Or.inr; apply Or.inr; (and_intros <;> first | rfl | omega)) | (apply Or.inr; apply Or.inr; apply Or.inr; apply Or.inl; (and_intros <;> first | rfl | omega)) | (apply Or.inr; apply Or.inr; apply Or.inr; (and_intros <;> first | rfl | omega)) | (apply Or.inr; apply Or.inr; apply Or.inr; apply Or.inr; apply Or.inl; (and_intros <;> first | rfl | omega)) | (apply Or.inr; apply Or.inr; apply Or.inr; apply Or.inr; (and_intros <;> first | rfl | omega))) hP hD dqX_isPart_14
      · refine lv_iconst (v := iI 1) hx hb dqX_isPart_9 rfl ?_
        refine lv_goto (tgt := 14) hx hb dqX_isPart_10 (by decide) ?_
        exact hret H locs _ ls 1 () (narrow_z (by omega)) hS (by first | rfl | trivial | omega | exact bl_y (by omega) | exact bl_n (by omega) | (apply Or.inl; (and_intros <;> first | rfl | omega)) | (apply Or.inr; apply Or.inl; (and_intros <;> first | rfl | omega)) | (apply Or.inr; (and_intros <;> first | rfl | omega)) | (apply Or.inr; apply Or.inr; apply Or.inl; (and_intros <;> first | rfl | omega)) | (apply Or.inr; apply Or.inr; (and_intros <;> first | rfl | omega)) | (apply Or.inr; apply Or.inr; apply Or.inr; apply Or.inl; (and_intros <;> first | rfl | omega)) | (apply Or.inr; apply Or.inr; apply Or.inr; (and_intros <;> first | rfl | omega)) | (apply Or.inr; apply Or.inr; apply Or.inr; apply Or.inr; apply Or.inl; (and_intros <;> first | rfl | omega)) | (apply Or.inr; apply Or.inr; apply Or.inr; apply Or.inr; (and_intros <;> first | rfl | omega))) hP hD dqX_isPart_14
  rw [hH0, hL0] at goal
  exact goal
def rm_X_sumOf : Room := { frames := 0, cells := 0, slots := 0, locals := 0 }
set_option maxHeartbeats 4000000 in
set_option maxRecDepth 100000 in
theorem c_X_sumOf (l : Launch) (D : va_G) (cI cJ cZ : ClassId) (rwa : Nat) (fr : Int) (t2 : Int) (rwf : Int → Int) (h1 : 0 ≤ fr) (h2 : fr ≤ 24) (h3 : -2147483648 ≤ t2) (h4 : t2 ≤ 24) : Ml l yqX_sumOf wsqX_sumOf rm_X_sumOf D cI cJ cZ [.ref rwa, .int (iI fr), .int (iI t2)] [(rwa, .inl (cJ, 24, .inr (.inl (al rwf))))] (S := Unit) (fun z _ => True) (fun _ => [(rwa, .inl (cJ, 24, .inr (.inl (al rwf))))]) 0 0 := by
  refine en_l (cc := cqX_sumOf) (maxL := 6) (by decide +kernel) rfl (Nat.le_of_ble_eq_true rfl) ?_
  intro p e s m args below meth c A Q hx hb hml hin hts hown hA hP hK hD hN hS hret ls hl
  have hl : lv_has ls 6 [(0, .ref rwa), (1, .int (iI fr)), (2, .int (iI t2))] := hl
  obtain ⟨H, hH0⟩ : ∃ H, H = s.heap := ⟨_, rfl⟩
  obtain ⟨locs, hL0⟩ : ∃ locs : List Loc, locs = [] := ⟨_, rfl⟩
  rw [← hH0] at hP
  have hS : va_S A s.heap H locs := by rw [hH0, hL0]; exact hS
  have goal : W p l e rm_X_sumOf s m args below meth c H locs 0 0 Q (F0 m 0 ls []) := by
    refine lv_lconst (v := lI 0) hx hb dqX_sumOf_0 (by decide +kernel) ?_
    refine lv_lstore_n (lv' := [(3, .long (lI 0)), (0, .ref rwa), (1, .int (iI fr)), (2, .int (iI t2))]) hx hb dqX_sumOf_1 rfl hl (by decide) rfl (fun ls hl => ?_)
    refine lv_iload_n hx hb dqX_sumOf_2 rfl (lv_at hl 2 rfl) ?_
    refine lv_istore (lv' := [(5, .int (iI fr)), (3, .long (lI 0)), (0, .ref rwa), (1, .int (iI fr)), (2, .int (iI t2))]) hx hb dqX_sumOf_3 hl (by decide) rfl (fun ls hl => ?_)
    have loop_5 : ∀ (n9 : Nat), ∀ (sm : Int) (k : Int) (H : Heap) (locs : List Loc) (ls : Array Slot), (0 ≤ k) → (k ≤ 24) → ((t2 - k).toNat < n9) → va_P D vwCl [(rwa, .inl (cJ, 24, .inr (.inl (al rwf))))] H → va_D A [(rwa, .inl (cJ, 24, .inr (.inl (al rwf))))] → va_S A s.heap H locs → lv_has ls 6 [(5, .int (iI k)), (3, .long (lI sm)), (0, .ref rwa), (1, .int (iI fr)), (2, .int (iI t2))] → W p l e rm_X_sumOf s m args below meth c H locs 0 0 Q (F0 m 5 ls []) := by
      intro n9
      induction n9 with
      | zero =>
        intro sm k H locs ls k1 k2 hm9
        exact absurd hm9 (by omega)
      | succ n9 ih_5 =>
        intro sm k H locs ls k1 k2 hm9 hP hD hS hl
        refine lv_iload hx hb dqX_sumOf_5 (lv_at hl 0 rfl) ?_
        refine lv_iload_n hx hb dqX_sumOf_7 rfl (lv_at hl 4 rfl) ?_
        refine q_icmp_ge (tgt := 24) hx hb dqX_sumOf_8 (by decide) (by omega) (by omega) (by omega) (by omega) (fun c_8 => ?_) (fun c_8 => ?_)
        · refine lv_lload_n hx hb dqX_sumOf_24 rfl (lv_at hl 1 rfl) ?_
          exact hret H locs _ ls sm () hS (by first | rfl | trivial | omega | exact bl_y (by omega) | exact bl_n (by omega) | (apply Or.inl; (and_intros <;> first | rfl | omega)) | (apply Or.inr; apply Or.inl; (and_intros <;> first | rfl | omega)) | (apply Or.inr; (and_intros <;> first | rfl | omega)) | (apply Or.inr; apply Or.inr; apply Or.inl; (and_intros <;> first | rfl | omega)) | (apply Or.inr; apply Or.inr; (and_intros <;> first | rfl | omega)) | (apply Or.inr; apply Or.inr; apply Or.inr; apply Or.inl; (and_intros <;> first | rfl | omega)) | (apply Or.inr; apply Or.inr; apply Or.inr; (and_intros <;> first | rfl | omega)) | (apply Or.inr; apply Or.inr; apply Or.inr; apply Or.inr; apply Or.inl; (and_intros <;> first | rfl | omega)) | (apply Or.inr; apply Or.inr; apply Or.inr; apply Or.inr; (and_intros <;> first | rfl | omega))) hP hD dqX_sumOf_25
        · refine lv_lload_n hx hb dqX_sumOf_11 rfl (lv_at hl 1 rfl) ?_
          refine lv_aload_n hx hb dqX_sumOf_12 rfl (lv_at hl 2 rfl) ?_
          refine lv_iload hx hb dqX_sumOf_13 (lv_at hl 0 rfl) ?_
          refine q_lald (i := k) hx hb hK hP 0 1 rfl rfl (by omega) (by omega) (by omega) dqX_sumOf_15 ?_
          refine hv_l (fun v1 v1a v1b => ?_)
          refine q_ladd hx hb dqX_sumOf_16 ?_
          refine hv_l (fun v2 v2a v2b => ?_)
          refine lv_lstore_n (lv' := [(3, .long (lI v2)), (5, .int (iI k)), (0, .ref rwa), (1, .int (iI fr)), (2, .int (iI t2))]) hx hb dqX_sumOf_17 rfl hl (by decide) rfl (fun ls hl => ?_)
          refine lv_iinc (v := iI (k + 1)) (lv' := [(5, .int (iI (k + 1))), (3, .long (lI v2)), (0, .ref rwa), (1, .int (iI fr)), (2, .int (iI t2))]) hx hb dqX_sumOf_18 hl (k := 1) rfl (iI_add _ _) (by decide) rfl (fun ls hl => ?_)
          refine lv_goto (tgt := 5) hx hb dqX_sumOf_21 (by decide) ?_
          exact ih_5 v2 (k + 1) H locs ls (by omega) (by omega) (by omega) hP hD hS (lv_sub hl [0, 1, 2, 3, 4] rfl)
    exact loop_5 (Int.toNat (t2 - fr) + 1) 0 fr H locs ls (by omega) (by omega) (by omega) hP hD hS (lv_sub hl [0, 1, 2, 3, 4] rfl)
  rw [hH0, hL0] at goal
  exact goal
def rm_J_floorDiv : Room := { frames := 0, cells := 0, slots := 0, locals := 0 }
set_option maxHeartbeats 4000000 in
set_option maxRecDepth 100000 in
theorem c_J_floorDiv (l : Launch) (D : va_G) (cI cJ cZ : ClassId) (x : Int) (y : Int) (h1 : y ≠ 0) (h2 : -9223372036854775808 ≤ y) (h3 : y ≤ 9223372036854775807) : Ml l yqJ_floorDiv wsqJ_floorDiv rm_J_floorDiv D cI cJ cZ [.long (lI x), .long (lI y)] [] (S := Unit) (fun z _ => True) (fun _ => []) 0 0 := by
  refine en_l (cc := cqJ_floorDiv) (maxL := 6) (by decide +kernel) rfl (Nat.le_of_ble_eq_true rfl) ?_
  intro p e s m args below meth c A Q hx hb hml hin hts hown hA hP hK hD hN hS hret ls hl
  have hl : lv_has ls 6 [(0, .long (lI x)), (2, .long (lI y))] := hl
  obtain ⟨H, hH0⟩ : ∃ H, H = s.heap := ⟨_, rfl⟩
  obtain ⟨locs, hL0⟩ : ∃ locs : List Loc, locs = [] := ⟨_, rfl⟩
  rw [← hH0] at hP
  have hS : va_S A s.heap H locs := by rw [hH0, hL0]; exact hS
  have goal : W p l e rm_J_floorDiv s m args below meth c H locs 0 0 Q (F0 m 0 ls []) := by
    refine lv_lload_n hx hb dqJ_floorDiv_0 rfl (lv_at hl 0 rfl) ?_
    refine lv_lload_n hx hb dqJ_floorDiv_1 rfl (lv_at hl 1 rfl) ?_
    refine q_ldiv_w hx hb dqJ_floorDiv_2 (by omega) (by omega) (by omega) (fun v1 v1a v1b => ?_)
    refine lv_lstore (lv' := [(4, .long (lI v1)), (0, .long (lI x)), (2, .long (lI y))]) hx hb dqJ_floorDiv_3 hl (by decide) rfl (fun ls hl => ?_)
    refine lv_lload_n hx hb dqJ_floorDiv_5 rfl (lv_at hl 1 rfl) ?_
    refine lv_lload_n hx hb dqJ_floorDiv_6 rfl (lv_at hl 2 rfl) ?_
    refine lv_lxor hx hb dqJ_floorDiv_7 ?_
    refine hv_l (fun v2 v2a v2b => ?_)
    refine lv_lconst (v := lI 0) hx hb dqJ_floorDiv_8 (by decide +kernel) ?_
    refine q_lw_ge (tgt := 27) hx hb dqJ_floorDiv_9 dqJ_floorDiv_10 (by decide) ?_ ?_
    · refine lv_lload hx hb dqJ_floorDiv_27 (lv_at hl 0 rfl) ?_
      exact hret H locs _ ls v1 () hS (by first | rfl | trivial | omega | exact bl_y (by omega) | exact bl_n (by omega) | (apply Or.inl; (and_intros <;> first | rfl | omega)) | (apply Or.inr; apply Or.inl; (and_intros <;> first | rfl | omega)) | (apply Or.inr; (and_intros <;> first | rfl | omega)) | (apply Or.inr; apply Or.inr; apply Or.inl; (and_intros <;> first | rfl | omega)) | (apply Or.inr; apply Or.inr; (and_intros <;> first | rfl | omega)) | (apply Or.inr; apply Or.inr; apply Or.inr; apply Or.inl; (and_intros <;> first | rfl | omega)) | (apply Or.inr; apply Or.inr; apply Or.inr; (and_intros <;> first | rfl | omega)) | (apply Or.inr; apply Or.inr; apply Or.inr; apply Or.inr; apply Or.inl; (and_intros <;> first | rfl | omega)) | (apply Or.inr; apply Or.inr; apply Or.inr; apply Or.inr; (and_intros <;> first | rfl | omega))) hP hD dqJ_floorDiv_29
    · refine lv_lload hx hb dqJ_floorDiv_13 (lv_at hl 0 rfl) ?_
      refine lv_lload_n hx hb dqJ_floorDiv_15 rfl (lv_at hl 2 rfl) ?_
      refine q_lmul hx hb dqJ_floorDiv_16 ?_
      refine hv_l (fun v3 v3a v3b => ?_)
      refine lv_lload_n hx hb dqJ_floorDiv_17 rfl (lv_at hl 1 rfl) ?_
      refine q_lw_eq (tgt := 27) hx hb dqJ_floorDiv_18 dqJ_floorDiv_19 (by decide) ?_ ?_
      · refine lv_lload hx hb dqJ_floorDiv_27 (lv_at hl 0 rfl) ?_
        exact hret H locs _ ls v1 () hS (by first | rfl | trivial | omega | exact bl_y (by omega) | exact bl_n (by omega) | (apply Or.inl; (and_intros <;> first | rfl | omega)) | (apply Or.inr; apply Or.inl; (and_intros <;> first | rfl | omega)) | (apply Or.inr; (and_intros <;> first | rfl | omega)) | (apply Or.inr; apply Or.inr; apply Or.inl; (and_intros <;> first | rfl | omega)) | (apply Or.inr; apply Or.inr; (and_intros <;> first | rfl | omega)) | (apply Or.inr; apply Or.inr; apply Or.inr; apply Or.inl; (and_intros <;> first | rfl | omega)) | (apply Or.inr; apply Or.inr; apply Or.inr; (and_intros <;> first | rfl | omega)) | (apply Or.inr; apply Or.inr; apply Or.inr; apply Or.inr; apply Or.inl; (and_intros <;> first | rfl | omega)) | (apply Or.inr; apply Or.inr; apply Or.inr; apply Or.inr; (and_intros <;> first | rfl | omega))) hP hD dqJ_floorDiv_29
      · refine lv_lload hx hb dqJ_floorDiv_22 (lv_at hl 0 rfl) ?_
        refine lv_lconst (v := lI 1) hx hb dqJ_floorDiv_24 (by decide +kernel) ?_
        refine q_lsub hx hb dqJ_floorDiv_25 ?_
        refine hv_l (fun v4 v4a v4b => ?_)
        exact hret H locs _ ls v4 () hS (by first | rfl | trivial | omega | exact bl_y (by omega) | exact bl_n (by omega) | (apply Or.inl; (and_intros <;> first | rfl | omega)) | (apply Or.inr; apply Or.inl; (and_intros <;> first | rfl | omega)) | (apply Or.inr; (and_intros <;> first | rfl | omega)) | (apply Or.inr; apply Or.inr; apply Or.inl; (and_intros <;> first | rfl | omega)) | (apply Or.inr; apply Or.inr; (and_intros <;> first | rfl | omega)) | (apply Or.inr; apply Or.inr; apply Or.inr; apply Or.inl; (and_intros <;> first | rfl | omega)) | (apply Or.inr; apply Or.inr; apply Or.inr; (and_intros <;> first | rfl | omega)) | (apply Or.inr; apply Or.inr; apply Or.inr; apply Or.inr; apply Or.inl; (and_intros <;> first | rfl | omega)) | (apply Or.inr; apply Or.inr; apply Or.inr; apply Or.inr; (and_intros <;> first | rfl | omega))) hP hD dqJ_floorDiv_26
  rw [hH0, hL0] at goal
  exact goal
def rm_X_dividedDown : Room := { frames := 1, cells := 0, slots := 0, locals := 25 }
set_option maxHeartbeats 4000000 in
set_option maxRecDepth 100000 in
theorem c_X_dividedDown (l : Launch) (D : va_G) (cI cJ cZ : ClassId) (ab : Int) (bw : Int)  : Ml l yqX_dividedDown wsqX_dividedDown rm_X_dividedDown D cI cJ cZ [.long (lI ab), .long (lI bw)] [] (S := Unit) (fun z _ => True) (fun _ => []) 0 0 := by
  obtain ⟨ab, aba, abb, e9⟩ := lI_can ab; rw [e9]; clear e9
  obtain ⟨bw, bwa, bwb, e9⟩ := lI_can bw; rw [e9]; clear e9
  refine en_l (cc := cqX_dividedDown) (maxL := 4) (by decide +kernel) rfl (Nat.le_of_ble_eq_true rfl) ?_
  intro p e s m args below meth c A Q hx hb hml hin hts hown hA hP hK hD hN hS hret ls hl
  have hl : lv_has ls 4 [(0, .long (lI ab)), (2, .long (lI bw))] := hl
  obtain ⟨H, hH0⟩ : ∃ H, H = s.heap := ⟨_, rfl⟩
  obtain ⟨locs, hL0⟩ : ∃ locs : List Loc, locs = [] := ⟨_, rfl⟩
  rw [← hH0] at hP
  have hS : va_S A s.heap H locs := by rw [hH0, hL0]; exact hS
  have goal : W p l e rm_X_dividedDown s m args below meth c H locs 0 0 Q (F0 m 0 ls []) := by
    refine lv_lload_n hx hb dqX_dividedDown_0 rfl (lv_at hl 1 rfl) ?_
    refine lv_lconst (v := lI 0) hx hb dqX_dividedDown_1 (by decide +kernel) ?_
    refine q_lcmp_le (tgt := 14) hx hb dqX_dividedDown_2 dqX_dividedDown_3 (by decide) (by omega) (by omega) (by omega) (by omega) (fun c_2 => ?_) (fun c_2 => ?_)
    · refine lv_lconst (v := lI 0) hx hb dqX_dividedDown_14 (by decide +kernel) ?_
      exact hret H locs _ ls 0 () hS (by first | rfl | trivial | omega | exact bl_y (by omega) | exact bl_n (by omega) | (apply Or.inl; (and_intros <;> first | rfl | omega)) | (apply Or.inr; apply Or.inl; (and_intros <;> first | rfl | omega)) | (apply Or.inr; (and_intros <;> first | rfl | omega)) | (apply Or.inr; apply Or.inr; apply Or.inl; (and_intros <;> first | rfl | omega)) | (apply Or.inr; apply Or.inr; (and_intros <;> first | rfl | omega)) | (apply Or.inr; apply Or.inr; apply Or.inr; apply Or.inl; (and_intros <;> first | rfl | omega)) | (apply Or.inr; apply Or.inr; apply Or.inr; (and_intros <;> first | rfl | omega)) | (apply Or.inr; apply Or.inr; apply Or.inr; apply Or.inr; apply Or.inl; (and_intros <;> first | rfl | omega)) | (apply Or.inr; apply Or.inr; apply Or.inr; apply Or.inr; (and_intros <;> first | rfl | omega))) hP hD dqX_dividedDown_15
    · refine lv_lload_n hx hb dqX_dividedDown_6 rfl (lv_at hl 0 rfl) ?_
      refine lv_lload_n hx hb dqX_dividedDown_7 rfl (lv_at hl 1 rfl) ?_
      refine af_l (wr := []) (va_runS (As := [.long (lI ab), .long (lI bw)]) (rest := []) ⟨hx, hb, hml, hown, hts⟩ (c_J_floorDiv l D cI cJ cZ ab bw (by omega) (by omega) (by omega) H.size) (va_cwS 2 hts (gi_S tb_469 tb_470 tb_34 tb_471) rfl rfl rfl (by decide +kernel) ⟨Nat.le_of_ble_eq_true rfl, Nat.le_of_ble_eq_true rfl⟩) (pre_S hK hN hP hD [] rfl rfl) rfl rfl hl.1 rfl (lv_room (Nat.le_of_ble_eq_true rfl)) dqX_dividedDown_8 ⟨by first | omega | decide, by first | omega | decide⟩) hA hP hD hS [] [] rfl rfl (by decide +kernel) (by decide +kernel) (fun z1 u2 H locs hw_z1 hP hD hS => ?_)
      have hP : va_P D vwCl [] H := hP
      have hD : va_D A [] := hD
      have hw_z1 : True := hw_z1
      refine lv_goto (tgt := 15) hx hb dqX_dividedDown_11 (by decide) ?_
      exact hret H locs _ ls z1 () hS (by first | rfl | trivial | omega | exact bl_y (by omega) | exact bl_n (by omega) | (apply Or.inl; (and_intros <;> first | rfl | omega)) | (apply Or.inr; apply Or.inl; (and_intros <;> first | rfl | omega)) | (apply Or.inr; (and_intros <;> first | rfl | omega)) | (apply Or.inr; apply Or.inr; apply Or.inl; (and_intros <;> first | rfl | omega)) | (apply Or.inr; apply Or.inr; (and_intros <;> first | rfl | omega)) | (apply Or.inr; apply Or.inr; apply Or.inr; apply Or.inl; (and_intros <;> first | rfl | omega)) | (apply Or.inr; apply Or.inr; apply Or.inr; (and_intros <;> first | rfl | omega)) | (apply Or.inr; apply Or.inr; apply Or.inr; apply Or.inr; apply Or.inl; (and_intros <;> first | rfl | omega)) | (apply Or.inr; apply Or.inr; apply Or.inr; apply Or.inr; (and_intros <;> first | rfl | omega))) hP hD dqX_dividedDown_15
  rw [hH0, hL0] at goal
  exact goal
def rm_X_dividedUp : Room := { frames := 2, cells := 0, slots := 0, locals := 48 }
set_option maxHeartbeats 4000000 in
set_option maxRecDepth 100000 in
theorem c_X_dividedUp (l : Launch) (D : va_G) (cI cJ cZ : ClassId) (ab : Int) (bw : Int)  : Ml l yqX_dividedUp wsqX_dividedUp rm_X_dividedUp D cI cJ cZ [.long (lI ab), .long (lI bw)] [] (S := Unit) (fun z _ => True) (fun _ => []) 0 0 := by
  refine en_l (cc := cqX_dividedUp) (maxL := 4) (by decide +kernel) rfl (Nat.le_of_ble_eq_true rfl) ?_
  intro p e s m args below meth c A Q hx hb hml hin hts hown hA hP hK hD hN hS hret ls hl
  have hl : lv_has ls 4 [(0, .long (lI ab)), (2, .long (lI bw))] := hl
  obtain ⟨H, hH0⟩ : ∃ H, H = s.heap := ⟨_, rfl⟩
  obtain ⟨locs, hL0⟩ : ∃ locs : List Loc, locs = [] := ⟨_, rfl⟩
  rw [← hH0] at hP
  have hS : va_S A s.heap H locs := by rw [hH0, hL0]; exact hS
  have goal : W p l e rm_X_dividedUp s m args below meth c H locs 0 0 Q (F0 m 0 ls []) := by
    refine lv_lload_n hx hb dqX_dividedUp_0 rfl (lv_at hl 0 rfl) ?_
    refine q_lneg hx hb dqX_dividedUp_1 ?_
    refine hv_l (fun v1 v1a v1b => ?_)
    refine lv_lload_n hx hb dqX_dividedUp_2 rfl (lv_at hl 1 rfl) ?_
    refine af_l (wr := []) (va_runS (As := [.long (lI v1), .long (lI bw)]) (rest := []) ⟨hx, hb, hml, hown, hts⟩ (c_X_dividedDown l D cI cJ cZ v1 bw H.size) (va_cwS 2 hts (gi_S tb_466 tb_467 tb_25 tb_468) rfl rfl rfl (by decide +kernel) ⟨Nat.le_of_ble_eq_true rfl, Nat.le_of_ble_eq_true rfl⟩) (pre_S hK hN hP hD [] rfl rfl) rfl rfl hl.1 rfl (lv_room (Nat.le_of_ble_eq_true rfl)) dqX_dividedUp_3 ⟨by first | omega | decide, by first | omega | decide⟩) hA hP hD hS [] [] rfl rfl (by decide +kernel) (by decide +kernel) (fun z2 u3 H locs hw_z2 hP hD hS => ?_)
    have hP : va_P D vwCl [] H := hP
    have hD : va_D A [] := hD
    have hw_z2 : True := hw_z2
    refine q_lneg hx hb dqX_dividedUp_6 ?_
    refine hv_l (fun v4 v4a v4b => ?_)
    exact hret H locs _ ls v4 () hS (by first | rfl | trivial | omega | exact bl_y (by omega) | exact bl_n (by omega) | (apply Or.inl; (and_intros <;> first | rfl | omega)) | (apply Or.inr; apply Or.inl; (and_intros <;> first | rfl | omega)) | (apply Or.inr; (and_intros <;> first | rfl | omega)) | (apply Or.inr; apply Or.inr; apply Or.inl; (and_intros <;> first | rfl | omega)) | (apply Or.inr; apply Or.inr; (and_intros <;> first | rfl | omega)) | (apply Or.inr; apply Or.inr; apply Or.inr; apply Or.inl; (and_intros <;> first | rfl | omega)) | (apply Or.inr; apply Or.inr; apply Or.inr; (and_intros <;> first | rfl | omega)) | (apply Or.inr; apply Or.inr; apply Or.inr; apply Or.inr; apply Or.inl; (and_intros <;> first | rfl | omega)) | (apply Or.inr; apply Or.inr; apply Or.inr; apply Or.inr; (and_intros <;> first | rfl | omega))) hP hD dqX_dividedUp_7
  rw [hH0, hL0] at goal
  exact goal
def rm_X_commonDivisor : Room := { frames := 1, cells := 0, slots := 0, locals := 15 }
set_option maxHeartbeats 4000000 in
set_option maxRecDepth 100000 in
theorem c_X_commonDivisor (l : Launch) (D : va_G) (cI cJ cZ : ClassId) (on1 : Int) (ot1 : Int)  : Ml l yqX_commonDivisor wsqX_commonDivisor rm_X_commonDivisor D cI cJ cZ [.long (lI on1), .long (lI ot1)] [] (S := Unit) (fun z _ => 1 ≤ z ∧ z ≤ 9223372036854775807) (fun _ => []) 0 0 := by
  obtain ⟨on1, on1a, on1b, e9⟩ := lI_can on1; rw [e9]; clear e9
  obtain ⟨ot1, ot1a, ot1b, e9⟩ := lI_can ot1; rw [e9]; clear e9
  refine en_l (cc := cqX_commonDivisor) (maxL := 11) (by decide +kernel) rfl (Nat.le_of_ble_eq_true rfl) ?_
  intro p e s m args below meth c A Q hx hb hml hin hts hown hA hP hK hD hN hS hret ls hl
  have hl : lv_has ls 11 [(0, .long (lI on1)), (2, .long (lI ot1))] := hl
  obtain ⟨H, hH0⟩ : ∃ H, H = s.heap := ⟨_, rfl⟩
  obtain ⟨locs, hL0⟩ : ∃ locs : List Loc, locs = [] := ⟨_, rfl⟩
  rw [← hH0] at hP
  have hS : va_S A s.heap H locs := by rw [hH0, hL0]; exact hS
  have goal : W p l e rm_X_commonDivisor s m args below meth c H locs 0 0 Q (F0 m 0 ls []) := by
    refine lv_lload_n hx hb dqX_commonDivisor_0 rfl (lv_at hl 0 rfl) ?_
    refine lv_lstore (lv' := [(4, .long (lI on1)), (0, .long (lI on1)), (2, .long (lI ot1))]) hx hb dqX_commonDivisor_1 hl (by decide) rfl (fun ls hl => ?_)
    refine lv_lload_n hx hb dqX_commonDivisor_3 rfl (lv_at hl 2 rfl) ?_
    refine lv_lstore (lv' := [(6, .long (lI ot1)), (4, .long (lI on1)), (0, .long (lI on1)), (2, .long (lI ot1))]) hx hb dqX_commonDivisor_4 hl (by decide) rfl (fun ls hl => ?_)
    refine lv_iconst (v := iI 0) hx hb dqX_commonDivisor_6 rfl ?_
    refine lv_istore (lv' := [(8, .int (iI 0)), (6, .long (lI ot1)), (4, .long (lI on1)), (0, .long (lI on1)), (2, .long (lI ot1))]) hx hb dqX_commonDivisor_7 hl (by decide) rfl (fun ls hl => ?_)
    have loop_9 : ∀ (n9 : Nat), ∀ (a1 : Int) (b1 : Int) (k : Int) (H : Heap) (locs : List Loc) (ls : Array Slot), (-9223372036854775808 ≤ a1) → (a1 ≤ 9223372036854775807) → (-9223372036854775808 ≤ b1) → (b1 ≤ 9223372036854775807) → (0 ≤ k) → (k ≤ 128) → ((128 - k).toNat < n9) → va_P D vwCl [] H → va_D A [] → va_S A s.heap H locs → lv_has ls 11 [(8, .int (iI k)), (6, .long (lI b1)), (4, .long (lI a1)), (0, .long (lI on1)), (2, .long (lI ot1))] → W p l e rm_X_commonDivisor s m args below meth c H locs 0 0 Q (F0 m 9 ls []) := by
      intro n9
      induction n9 with
      | zero =>
        intro a1 b1 k H locs ls a1a a1b b1a b1b k1 k2 hm9
        exact absurd hm9 (by omega)
      | succ n9 ih_9 =>
        intro a1 b1 k H locs ls a1a a1b b1a b1b k1 k2 hm9 hP hD hS hl
        refine lv_iload hx hb dqX_commonDivisor_9 (lv_at hl 0 rfl) ?_
        refine lv_sipush (v := iI 128) hx hb dqX_commonDivisor_11 (by decide +kernel) ?_
        refine q_icmp_ge (tgt := 45) hx hb dqX_commonDivisor_14 (by decide) (by omega) (by omega) (by omega) (by omega) (fun c_14 => ?_) (fun c_14 => ?_)
        · refine lv_lconst (v := lI 1) hx hb dqX_commonDivisor_45 (by decide +kernel) ?_
          refine lv_lload hx hb dqX_commonDivisor_46 (lv_at hl 2 rfl) ?_
          refine va_mmax_long hx hb (by rw [hml]; exact hl.1.symm) hown (hts _ (List.mem_cons_of_mem _ tb_486)) (hts _ (List.mem_cons_of_mem _ tb_473)) (hts _ (List.mem_cons_of_mem _ tb_34)) (hts _ (List.mem_cons_of_mem _ tb_474)) (Nat.le_of_ble_eq_true rfl) (Nat.le_of_ble_eq_true rfl) (by omega) (by omega) dqX_commonDivisor_48 ?_
          refine tp_l (y := lI (max 1 a1)) (lI_max (by omega) (by omega) (by omega) (by omega)) ?_
          exact hret H locs _ ls (max 1 a1) () hS (by first | rfl | trivial | omega | exact bl_y (by omega) | exact bl_n (by omega) | (apply Or.inl; (and_intros <;> first | rfl | omega)) | (apply Or.inr; apply Or.inl; (and_intros <;> first | rfl | omega)) | (apply Or.inr; (and_intros <;> first | rfl | omega)) | (apply Or.inr; apply Or.inr; apply Or.inl; (and_intros <;> first | rfl | omega)) | (apply Or.inr; apply Or.inr; (and_intros <;> first | rfl | omega)) | (apply Or.inr; apply Or.inr; apply Or.inr; apply Or.inl; (and_intros <;> first | rfl | omega)) | (apply Or.inr; apply Or.inr; apply Or.inr; (and_intros <;> first | rfl | omega)) | (apply Or.inr; apply Or.inr; apply Or.inr; apply Or.inr; apply Or.inl; (and_intros <;> first | rfl | omega)) | (apply Or.inr; apply Or.inr; apply Or.inr; apply Or.inr; (and_intros <;> first | rfl | omega))) hP hD dqX_commonDivisor_51
        · refine lv_lload hx hb dqX_commonDivisor_17 (lv_at hl 1 rfl) ?_
          refine lv_lconst (v := lI 0) hx hb dqX_commonDivisor_19 (by decide +kernel) ?_
          refine q_lcmp_eq (tgt := 45) hx hb dqX_commonDivisor_20 dqX_commonDivisor_21 (by decide) (by omega) (by omega) (by omega) (by omega) (fun c_20 => ?_) (fun c_20 => ?_)
          · refine lv_lconst (v := lI 1) hx hb dqX_commonDivisor_45 (by decide +kernel) ?_
            refine lv_lload hx hb dqX_commonDivisor_46 (lv_at hl 2 rfl) ?_
            refine va_mmax_long hx hb (by rw [hml]; exact hl.1.symm) hown (hts _ (List.mem_cons_of_mem _ tb_486)) (hts _ (List.mem_cons_of_mem _ tb_473)) (hts _ (List.mem_cons_of_mem _ tb_34)) (hts _ (List.mem_cons_of_mem _ tb_474)) (Nat.le_of_ble_eq_true rfl) (Nat.le_of_ble_eq_true rfl) (by omega) (by omega) dqX_commonDivisor_48 ?_
            refine tp_l (y := lI (max 1 a1)) (lI_max (by omega) (by omega) (by omega) (by omega)) ?_
            exact hret H locs _ ls (max 1 a1) () hS (by first | rfl | trivial | omega | exact bl_y (by omega) | exact bl_n (by omega) | (apply Or.inl; (and_intros <;> first | rfl | omega)) | (apply Or.inr; apply Or.inl; (and_intros <;> first | rfl | omega)) | (apply Or.inr; (and_intros <;> first | rfl | omega)) | (apply Or.inr; apply Or.inr; apply Or.inl; (and_intros <;> first | rfl | omega)) | (apply Or.inr; apply Or.inr; (and_intros <;> first | rfl | omega)) | (apply Or.inr; apply Or.inr; apply Or.inr; apply Or.inl; (and_intros <;> first | rfl | omega)) | (apply Or.inr; apply Or.inr; apply Or.inr; (and_intros <;> first | rfl | omega)) | (apply Or.inr; apply Or.inr; apply Or.inr; apply Or.inr; apply Or.inl; (and_intros <;> first | rfl | omega)) | (apply Or.inr; apply Or.inr; apply Or.inr; apply Or.inr; (and_intros <;> first | rfl | omega))) hP hD dqX_commonDivisor_51
          · refine lv_lload hx hb dqX_commonDivisor_24 (lv_at hl 2 rfl) ?_
            refine lv_lload hx hb dqX_commonDivisor_26 (lv_at hl 1 rfl) ?_
            refine q_lrem_w hx hb dqX_commonDivisor_28 (by omega) (by omega) (by omega) (by omega) (by omega) (fun v1 v1a v1b v1c => ?_)
            refine lv_lstore (lv' := [(9, .long (lI v1)), (8, .int (iI k)), (6, .long (lI b1)), (4, .long (lI a1)), (0, .long (lI on1)), (2, .long (lI ot1))]) hx hb dqX_commonDivisor_29 hl (by decide) rfl (fun ls hl => ?_)
            refine lv_lload hx hb dqX_commonDivisor_31 (lv_at hl 2 rfl) ?_
            refine lv_lstore (lv' := [(4, .long (lI b1)), (9, .long (lI v1)), (8, .int (iI k)), (6, .long (lI b1)), (0, .long (lI on1)), (2, .long (lI ot1))]) hx hb dqX_commonDivisor_33 hl (by decide) rfl (fun ls hl => ?_)
            refine lv_lload hx hb dqX_commonDivisor_35 (lv_at hl 1 rfl) ?_
            refine lv_lstore (lv' := [(6, .long (lI v1)), (4, .long (lI b1)), (9, .long (lI v1)), (8, .int (iI k)), (0, .long (lI on1)), (2, .long (lI ot1))]) hx hb dqX_commonDivisor_37 hl (by decide) rfl (fun ls hl => ?_)
            refine lv_iinc (v := iI (k + 1)) (lv' := [(8, .int (iI (k + 1))), (6, .long (lI v1)), (4, .long (lI b1)), (9, .long (lI v1)), (0, .long (lI on1)), (2, .long (lI ot1))]) hx hb dqX_commonDivisor_39 hl (k := 3) rfl (iI_add _ _) (by decide) rfl (fun ls hl => ?_)
            refine lv_goto (tgt := 9) hx hb dqX_commonDivisor_42 (by decide) ?_
            exact ih_9 b1 v1 (k + 1) H locs ls (by omega) (by omega) (by omega) (by omega) (by omega) (by omega) (by omega) hP hD hS (lv_sub hl [0, 1, 2, 4, 5] rfl)
    exact loop_9 (Int.toNat (128 - 0) + 1) on1 ot1 0 H locs ls (by omega) (by omega) (by omega) (by omega) (by omega) (by omega) (by omega) hP hD hS (lv_sub hl [0, 1, 2, 3, 4] rfl)
  rw [hH0, hL0] at goal
  exact goal
def rm_Co_useTable : Room := { frames := 0, cells := 0, slots := 0, locals := 0 }
set_option maxHeartbeats 4000000 in
set_option maxRecDepth 100000 in
theorem c_Co_useTable (l : Launch) (D : va_G) (cI cJ cZ : ClassId) (co : Nat) (nb : Int) (nm : Int) (tm : Nat) (lw : Nat) (br : Nat) (n : Int) (b : Int) (mo : Int)  : Mv l yqCo_useTable wsqCo_useTable rm_Co_useTable D cI cJ cZ [.ref co, .int (iI nb), .int (iI nm)] [(co, .inr (1, [.ref tm, .ref lw, .ref br, .int (iI n), .int (iI b), .int (iI mo)]))] (S := Unit) (fun _ => True) (fun _ => [(co, .inr (1, [.ref tm, .ref lw, .ref br, .int (iI n), .int (iI nb), .int (iI nm)]))]) 0 0 := by
  refine en_v (cc := cqCo_useTable) (maxL := 3) (by decide +kernel) rfl (Nat.le_of_ble_eq_true rfl) ?_
  intro p e s m args below meth c A Q hx hb hml hin hts hown hA hP hK hD hN hS hret ls hl
  have hl : lv_has ls 3 [(0, .ref co), (1, .int (iI nb)), (2, .int (iI nm))] := hl
  obtain ⟨H, hH0⟩ : ∃ H, H = s.heap := ⟨_, rfl⟩
  obtain ⟨locs, hL0⟩ : ∃ locs : List Loc, locs = [] := ⟨_, rfl⟩
  rw [← hH0] at hP
  have hS : va_S A s.heap H locs := by rw [hH0, hL0]; exact hS
  have goal : W p l e rm_Co_useTable s m args below meth c H locs 0 0 Q (F0 m 0 ls []) := by
    refine lv_aload_n hx hb dqCo_useTable_0 rfl (lv_at hl 0 rfl) ?_
    refine lv_iload_n hx hb dqCo_useTable_1 rfl (lv_at hl 1 rfl) ?_
    refine va_put (D := D) (ci := 1) (v := .int (iI nb)) (ty := .int) (C := RqCo) (T := TqCo) (N := 6) hx hb hts (in_c inqCo) tyqCo tyqCo_ok nmqCo hown hK hP hD hS 0 rfl rfl 4 (by decide) (hts (.fieldLink RqCo 26 "SpringSpaces$Columns" "base" "I") (List.mem_cons_of_mem _ tb_53)) (fun _ h9 => h9) rfl (by decide +kernel) rfl rfl (Nat.le_of_ble_eq_true rfl) dqCo_useTable_2 (fun H locs hP hD hS => ?_)
    have hP : va_P D vwCl [(co, .inr (1, [.ref tm, .ref lw, .ref br, .int (iI n), .int (iI nb), .int (iI mo)]))] H := hP
    have hD : va_D A [(co, .inr (1, [.ref tm, .ref lw, .ref br, .int (iI n), .int (iI nb), .int (iI mo)]))] := hD
    refine lv_aload_n hx hb dqCo_useTable_5 rfl (lv_at hl 0 rfl) ?_
    refine lv_iload_n hx hb dqCo_useTable_6 rfl (lv_at hl 2 rfl) ?_
    refine va_put (D := D) (ci := 1) (v := .int (iI nm)) (ty := .int) (C := RqCo) (T := TqCo) (N := 6) hx hb hts (in_c inqCo) tyqCo tyqCo_ok nmqCo hown hK hP hD hS 0 rfl rfl 5 (by decide) (hts (.fieldLink RqCo 29 "SpringSpaces$Columns" "more" "I") (List.mem_cons_of_mem _ tb_54)) (fun _ h9 => h9) rfl (by decide +kernel) rfl rfl (Nat.le_of_ble_eq_true rfl) dqCo_useTable_7 (fun H locs hP hD hS => ?_)
    have hP : va_P D vwCl [(co, .inr (1, [.ref tm, .ref lw, .ref br, .int (iI n), .int (iI nb), .int (iI nm)]))] H := hP
    have hD : va_D A [(co, .inr (1, [.ref tm, .ref lw, .ref br, .int (iI n), .int (iI nb), .int (iI nm)]))] := hD
    exact hret H locs _ ls () hS (by first | rfl | trivial | omega | exact bl_y (by omega) | exact bl_n (by omega) | (apply Or.inl; (and_intros <;> first | rfl | omega)) | (apply Or.inr; apply Or.inl; (and_intros <;> first | rfl | omega)) | (apply Or.inr; (and_intros <;> first | rfl | omega)) | (apply Or.inr; apply Or.inr; apply Or.inl; (and_intros <;> first | rfl | omega)) | (apply Or.inr; apply Or.inr; (and_intros <;> first | rfl | omega)) | (apply Or.inr; apply Or.inr; apply Or.inr; apply Or.inl; (and_intros <;> first | rfl | omega)) | (apply Or.inr; apply Or.inr; apply Or.inr; (and_intros <;> first | rfl | omega)) | (apply Or.inr; apply Or.inr; apply Or.inr; apply Or.inr; apply Or.inl; (and_intros <;> first | rfl | omega)) | (apply Or.inr; apply Or.inr; apply Or.inr; apply Or.inr; (and_intros <;> first | rfl | omega))) hP hD dqCo_useTable_10
  rw [hH0, hL0] at goal
  exact goal
def rm_Co_size : Room := { frames := 0, cells := 0, slots := 0, locals := 0 }
set_option maxHeartbeats 4000000 in
set_option maxRecDepth 100000 in
theorem c_Co_size (l : Launch) (D : va_G) (cI cJ cZ : ClassId) (co : Nat) (tm : Nat) (lw : Nat) (br : Nat) (n : Int) (b : Int) (mo : Int)  : Mi l yqCo_size wsqCo_size rm_Co_size D cI cJ cZ [.ref co] [(co, .inr (1, [.ref tm, .ref lw, .ref br, .int (iI n), .int (iI b), .int (iI mo)]))] (S := Unit) (fun z _ => z = n) (fun _ => [(co, .inr (1, [.ref tm, .ref lw, .ref br, .int (iI n), .int (iI b), .int (iI mo)]))]) 0 0 := by
  refine en_i (cc := cqCo_size) (maxL := 1) (ty := .int) (by decide +kernel) rfl (Nat.le_of_ble_eq_true rfl) ?_
  intro p e s m args below meth c A Q hx hb hml hin hts hown hA hP hK hD hN hS hret ls hl
  have hl : lv_has ls 1 [(0, .ref co)] := hl
  obtain ⟨H, hH0⟩ : ∃ H, H = s.heap := ⟨_, rfl⟩
  obtain ⟨locs, hL0⟩ : ∃ locs : List Loc, locs = [] := ⟨_, rfl⟩
  rw [← hH0] at hP
  have hS : va_S A s.heap H locs := by rw [hH0, hL0]; exact hS
  have goal : W p l e rm_Co_size s m args below meth c H locs 0 0 Q (F0 m 0 ls []) := by
    refine lv_aload_n hx hb dqCo_size_0 rfl (lv_at hl 0 rfl) ?_
    refine va_get (D := D) (ci := 1) (v := .int (iI n)) (C := RqCo) (T := TqCo) (N := 6) hx hb hts (in_c inqCo) hown hK hP 0 rfl rfl 3 (by decide) (hts (.fieldLink RqCo 22 "SpringSpaces$Columns" "count" "I") (List.mem_cons_of_mem _ tb_52)) (fun _ h9 => h9) rfl dqCo_size_1 ?_
    exact hret H locs _ ls n () rfl hS (by first | rfl | trivial | omega | exact bl_y (by omega) | exact bl_n (by omega) | (apply Or.inl; (and_intros <;> first | rfl | omega)) | (apply Or.inr; apply Or.inl; (and_intros <;> first | rfl | omega)) | (apply Or.inr; (and_intros <;> first | rfl | omega)) | (apply Or.inr; apply Or.inr; apply Or.inl; (and_intros <;> first | rfl | omega)) | (apply Or.inr; apply Or.inr; (and_intros <;> first | rfl | omega)) | (apply Or.inr; apply Or.inr; apply Or.inr; apply Or.inl; (and_intros <;> first | rfl | omega)) | (apply Or.inr; apply Or.inr; apply Or.inr; (and_intros <;> first | rfl | omega)) | (apply Or.inr; apply Or.inr; apply Or.inr; apply Or.inr; apply Or.inl; (and_intros <;> first | rfl | omega)) | (apply Or.inr; apply Or.inr; apply Or.inr; apply Or.inr; (and_intros <;> first | rfl | omega))) hP hD dqCo_size_4
  rw [hH0, hL0] at goal
  exact goal
def rm_Co_lastOne : Room := { frames := 0, cells := 0, slots := 0, locals := 0 }
set_option maxHeartbeats 4000000 in
set_option maxRecDepth 100000 in
theorem c_Co_lastOne (l : Launch) (D : va_G) (cI cJ cZ : ClassId) (co : Nat) (tm : Nat) (lw : Nat) (br : Nat) (n : Int) (b : Int) (mo : Int)  : Mi l yqCo_lastOne wsqCo_lastOne rm_Co_lastOne D cI cJ cZ [.ref co] [(co, .inr (1, [.ref tm, .ref lw, .ref br, .int (iI n), .int (iI b), .int (iI mo)]))] (S := Unit) (fun z _ => z = n - 1) (fun _ => [(co, .inr (1, [.ref tm, .ref lw, .ref br, .int (iI n), .int (iI b), .int (iI mo)]))]) 0 0 := by
  refine en_i (cc := cqCo_lastOne) (maxL := 1) (ty := .int) (by decide +kernel) rfl (Nat.le_of_ble_eq_true rfl) ?_
  intro p e s m args below meth c A Q hx hb hml hin hts hown hA hP hK hD hN hS hret ls hl
  have hl : lv_has ls 1 [(0, .ref co)] := hl
  obtain ⟨H, hH0⟩ : ∃ H, H = s.heap := ⟨_, rfl⟩
  obtain ⟨locs, hL0⟩ : ∃ locs : List Loc, locs = [] := ⟨_, rfl⟩
  rw [← hH0] at hP
  have hS : va_S A s.heap H locs := by rw [hH0, hL0]; exact hS
  have goal : W p l e rm_Co_lastOne s m args below meth c H locs 0 0 Q (F0 m 0 ls []) := by
    refine lv_aload_n hx hb dqCo_lastOne_0 rfl (lv_at hl 0 rfl) ?_
    refine va_get (D := D) (ci := 1) (v := .int (iI n)) (C := RqCo) (T := TqCo) (N := 6) hx hb hts (in_c inqCo) hown hK hP 0 rfl rfl 3 (by decide) (hts (.fieldLink RqCo 22 "SpringSpaces$Columns" "count" "I") (List.mem_cons_of_mem _ tb_52)) (fun _ h9 => h9) rfl dqCo_lastOne_1 ?_
    refine lv_iconst (v := iI 1) hx hb dqCo_lastOne_4 rfl ?_
    refine q_isub hx hb dqCo_lastOne_5 ?_
    exact hret H locs _ ls (n - 1) () rfl hS (by first | rfl | trivial | omega | exact bl_y (by omega) | exact bl_n (by omega) | (apply Or.inl; (and_intros <;> first | rfl | omega)) | (apply Or.inr; apply Or.inl; (and_intros <;> first | rfl | omega)) | (apply Or.inr; (and_intros <;> first | rfl | omega)) | (apply Or.inr; apply Or.inr; apply Or.inl; (and_intros <;> first | rfl | omega)) | (apply Or.inr; apply Or.inr; (and_intros <;> first | rfl | omega)) | (apply Or.inr; apply Or.inr; apply Or.inr; apply Or.inl; (and_intros <;> first | rfl | omega)) | (apply Or.inr; apply Or.inr; apply Or.inr; (and_intros <;> first | rfl | omega)) | (apply Or.inr; apply Or.inr; apply Or.inr; apply Or.inr; apply Or.inl; (and_intros <;> first | rfl | omega)) | (apply Or.inr; apply Or.inr; apply Or.inr; apply Or.inr; (and_intros <;> first | rfl | omega))) hP hD dqCo_lastOne_6
  rw [hH0, hL0] at goal
  exact goal
def rm_Co_areFull : Room := { frames := 0, cells := 0, slots := 0, locals := 0 }
set_option maxHeartbeats 4000000 in
set_option maxRecDepth 100000 in
theorem c_Co_areFull (l : Launch) (D : va_G) (cI cJ cZ : ClassId) (co : Nat) (tm : Nat) (lw : Nat) (br : Nat) (n : Int) (b : Int) (mo : Int) (h1 : 0 ≤ n) (h2 : n ≤ 24) : Mi l yqCo_areFull wsqCo_areFull rm_Co_areFull D cI cJ cZ [.ref co] [(co, .inr (1, [.ref tm, .ref lw, .ref br, .int (iI n), .int (iI b), .int (iI mo)]))] (S := Unit) (fun z _ => bl z (24 ≤ n)) (fun _ => [(co, .inr (1, [.ref tm, .ref lw, .ref br, .int (iI n), .int (iI b), .int (iI mo)]))]) 0 0 := by
  refine en_i (cc := cqCo_areFull) (maxL := 1) (ty := .boolean) (by decide +kernel) rfl (Nat.le_of_ble_eq_true rfl) ?_
  intro p e s m args below meth c A Q hx hb hml hin hts hown hA hP hK hD hN hS hret ls hl
  have hl : lv_has ls 1 [(0, .ref co)] := hl
  obtain ⟨H, hH0⟩ : ∃ H, H = s.heap := ⟨_, rfl⟩
  obtain ⟨locs, hL0⟩ : ∃ locs : List Loc, locs = [] := ⟨_, rfl⟩
  rw [← hH0] at hP
  have hS : va_S A s.heap H locs := by rw [hH0, hL0]; exact hS
  have goal : W p l e rm_Co_areFull s m args below meth c H locs 0 0 Q (F0 m 0 ls []) := by
    refine lv_aload_n hx hb dqCo_areFull_0 rfl (lv_at hl 0 rfl) ?_
    refine va_get (D := D) (ci := 1) (v := .int (iI n)) (C := RqCo) (T := TqCo) (N := 6) hx hb hts (in_c inqCo) hown hK hP 0 rfl rfl 3 (by decide) (hts (.fieldLink RqCo 22 "SpringSpaces$Columns" "count" "I") (List.mem_cons_of_mem _ tb_52)) (fun _ h9 => h9) rfl dqCo_areFull_1 ?_
    refine lv_bipush (v := iI 24) hx hb dqCo_areFull_4 (by decide +kernel) ?_
    refine q_icmp_lt (tgt := 13) hx hb dqCo_areFull_6 (by decide) (by omega) (by omega) (by omega) (by omega) (fun c_6 => ?_) (fun c_6 => ?_)
    · refine lv_iconst (v := iI 0) hx hb dqCo_areFull_13 rfl ?_
      exact hret H locs _ ls 0 () (narrow_z (by omega)) hS (by first | rfl | trivial | omega | exact bl_y (by omega) | exact bl_n (by omega) | (apply Or.inl; (and_intros <;> first | rfl | omega)) | (apply Or.inr; apply Or.inl; (and_intros <;> first | rfl | omega)) | (apply Or.inr; (and_intros <;> first | rfl | omega)) | (apply Or.inr; apply Or.inr; apply Or.inl; (and_intros <;> first | rfl | omega)) | (apply Or.inr; apply Or.inr; (and_intros <;> first | rfl | omega)) | (apply Or.inr; apply Or.inr; apply Or.inr; apply Or.inl; (and_intros <;> first | rfl | omega)) | (apply Or.inr; apply Or.inr; apply Or.inr; (and_intros <;> first | rfl | omega)) | (apply Or.inr; apply Or.inr; apply Or.inr; apply Or.inr; apply Or.inl; (and_intros <;> first | rfl | omega)) | (apply Or.inr; apply Or.inr; apply Or.inr; apply Or.inr; (and_intros <;> first | rfl | omega))) hP hD dqCo_areFull_14
    · refine lv_iconst (v := iI 1) hx hb dqCo_areFull_9 rfl ?_
      refine lv_goto (tgt := 14) hx hb dqCo_areFull_10 (by decide) ?_
      exact hret H locs _ ls 1 () (narrow_z (by omega)) hS (by first | rfl | trivial | omega | exact bl_y (by omega) | exact bl_n (by omega) | (apply Or.inl; (and_intros <;> first | rfl | omega)) | (apply Or.inr; apply Or.inl; (and_intros <;> first | rfl | omega)) | (apply Or.inr; (and_intros <;> first | rfl | omega)) | (apply Or.inr; apply Or.inr; apply Or.inl; (and_intros <;> first | rfl | omega)) | (apply Or.inr; apply Or.inr; (and_intros <;> first | rfl | omega)) | (apply Or.inr; apply Or.inr; apply Or.inr; apply Or.inl; (and_intros <;> first | rfl | omega)) | (apply Or.inr; apply Or.inr; apply Or.inr; (and_intros <;> first | rfl | omega)) | (apply Or.inr; apply Or.inr; apply Or.inr; apply Or.inr; apply Or.inl; (and_intros <;> first | rfl | omega)) | (apply Or.inr; apply Or.inr; apply Or.inr; apply Or.inr; (and_intros <;> first | rfl | omega))) hP hD dqCo_areFull_14
  rw [hH0, hL0] at goal
  exact goal
def rm_Co_have : Room := { frames := 1, cells := 0, slots := 0, locals := 22 }
set_option maxHeartbeats 4000000 in
set_option maxRecDepth 100000 in
theorem c_Co_have (l : Launch) (D : va_G) (cI cJ cZ : ClassId) (co : Nat) (x : Int) (tm : Nat) (lw : Nat) (br : Nat) (n : Int) (b : Int) (mo : Int) (h1 : 0 ≤ n) (h2 : n ≤ 24) (h3 : -2147483648 ≤ x) (h4 : x ≤ 2147483647) : Mi l yqCo_have wsqCo_have rm_Co_have D cI cJ cZ [.ref co, .int (iI x)] [(co, .inr (1, [.ref tm, .ref lw, .ref br, .int (iI n), .int (iI b), .int (iI mo)]))] (S := Unit) (fun z _ => bl z (0 ≤ x ∧ x ≤ n - 1)) (fun _ => [(co, .inr (1, [.ref tm, .ref lw, .ref br, .int (iI n), .int (iI b), .int (iI mo)]))]) 0 0 := by
  refine en_i (cc := cqCo_have) (maxL := 2) (ty := .boolean) (by decide +kernel) rfl (Nat.le_of_ble_eq_true rfl) ?_
  intro p e s m args below meth c A Q hx hb hml hin hts hown hA hP hK hD hN hS hret ls hl
  have hl : lv_has ls 2 [(0, .ref co), (1, .int (iI x))] := hl
  obtain ⟨H, hH0⟩ : ∃ H, H = s.heap := ⟨_, rfl⟩
  obtain ⟨locs, hL0⟩ : ∃ locs : List Loc, locs = [] := ⟨_, rfl⟩
  rw [← hH0] at hP
  have hS : va_S A s.heap H locs := by rw [hH0, hL0]; exact hS
  have goal : W p l e rm_Co_have s m args below meth c H locs 0 0 Q (F0 m 0 ls []) := by
    refine lv_iload_n hx hb dqCo_have_0 rfl (lv_at hl 1 rfl) ?_
    refine lv_iconst (v := iI 0) hx hb dqCo_have_1 rfl ?_
    refine lv_aload_n hx hb dqCo_have_2 rfl (lv_at hl 0 rfl) ?_
    refine va_get (D := D) (ci := 1) (v := .int (iI n)) (C := RqCo) (T := TqCo) (N := 6) hx hb hts (in_c inqCo) hown hK hP 0 rfl rfl 3 (by decide) (hts (.fieldLink RqCo 22 "SpringSpaces$Columns" "count" "I") (List.mem_cons_of_mem _ tb_52)) (fun _ h9 => h9) rfl dqCo_have_3 ?_
    refine lv_iconst (v := iI 1) hx hb dqCo_have_6 rfl ?_
    refine q_isub hx hb dqCo_have_7 ?_
    refine af_i (wr := [(co, .inr (1, [.ref tm, .ref lw, .ref br, .int (iI n), .int (iI b), .int (iI mo)]))]) (va_runSN (As := [.int (iI x), .int (iI 0), .int (iI (n - 1))]) (rest := []) ⟨hx, hb, hml, hown, hts⟩ (c_X_within l D cI cJ cZ x 0 (n - 1) (by omega) (by omega) (by omega) (by omega) (by omega) (by omega) H.size) ⟨va_cnB 3 hts (gi_0 tb_225) rfl rfl rfl (hN _ nl_Co_have_32) (hts _ (List.mem_cons_of_mem _ tb_25)) (by decide +kernel) ⟨Nat.le_of_ble_eq_true rfl, Nat.le_of_ble_eq_true rfl⟩, (hts _ (List.mem_cons_of_mem _ tb_224)), trivial⟩ (pre_S hK hN hP hD [] rfl rfl) rfl rfl hl.1 rfl (lv_room (Nat.le_of_ble_eq_true rfl)) dqCo_have_8 ⟨by first | omega | decide, by first | omega | decide⟩) hA hP hD hS [] [0] rfl rfl (by decide +kernel) (by decide +kernel) (fun z1 u2 H locs hw_z1 hP hD hS => ?_)
    have hP : va_P D vwCl [(co, .inr (1, [.ref tm, .ref lw, .ref br, .int (iI n), .int (iI b), .int (iI mo)]))] H := hP
    have hD : va_D A [(co, .inr (1, [.ref tm, .ref lw, .ref br, .int (iI n), .int (iI b), .int (iI mo)]))] := hD
    have hw_z1 : bl z1 ((0 : Int) ≤ x ∧ x ≤ (n - 1)) := hw_z1
    exact hret H locs _ ls z1 () (narrow_z (bl_01 hw_z1)) hS (by first | exact hw_z1 | exact bl_01 hw_z1 | exact bl_c hw_z1 (by constructor <;> intro h <;> omega) | rfl | trivial | omega | exact bl_y (by omega) | exact bl_n (by omega) | (apply Or.inl; (and_intros <;> first | rfl | omega)) | (apply Or.inr; apply Or.inl; (and_intros <;> first | rfl | omega)) | (apply Or.inr; (and_intros <;> first | rfl | omega)) | (apply Or.inr; apply Or.inr; apply Or.inl; (and_intros <;> first | rfl | omega)) | (apply Or.inr; apply Or.inr; (and_intros <;> first | rfl | omega)) | (apply Or.inr; apply Or.inr; apply Or.inr; apply Or.inl; (and_intros <;> first | rfl | omega)) | (apply Or.inr; apply Or.inr; apply Or.inr; (and_intros <;> first | rfl | omega)) | (apply Or.inr; apply Or.inr; apply Or.inr; apply Or.inr; apply Or.inl; (and_intros <;> first | rfl | omega)) | (apply Or.inr; apply Or.inr; apply Or.inr; apply Or.inr; (and_intros <;> first | rfl | omega))) hP hD dqCo_have_11
  rw [hH0, hL0] at goal
  exact goal
def rm_Co_haveGap : Room := { frames := 1, cells := 0, slots := 0, locals := 22 }
set_option maxHeartbeats 4000000 in
set_option maxRecDepth 100000 in
theorem c_Co_haveGap (l : Launch) (D : va_G) (cI cJ cZ : ClassId) (co : Nat) (x : Int) (tm : Nat) (lw : Nat) (br : Nat) (n : Int) (b : Int) (mo : Int) (h1 : 0 ≤ n) (h2 : n ≤ 24) (h3 : -2147483648 ≤ x) (h4 : x ≤ 2147483647) : Mi l yqCo_haveGap wsqCo_haveGap rm_Co_haveGap D cI cJ cZ [.ref co, .int (iI x)] [(co, .inr (1, [.ref tm, .ref lw, .ref br, .int (iI n), .int (iI b), .int (iI mo)]))] (S := Unit) (fun z _ => bl z (0 ≤ x ∧ x ≤ n - 2)) (fun _ => [(co, .inr (1, [.ref tm, .ref lw, .ref br, .int (iI n), .int (iI b), .int (iI mo)]))]) 0 0 := by
  refine en_i (cc := cqCo_haveGap) (maxL := 2) (ty := .boolean) (by decide +kernel) rfl (Nat.le_of_ble_eq_true rfl) ?_
  intro p e s m args below meth c A Q hx hb hml hin hts hown hA hP hK hD hN hS hret ls hl
  have hl : lv_has ls 2 [(0, .ref co), (1, .int (iI x))] := hl
  obtain ⟨H, hH0⟩ : ∃ H, H = s.heap := ⟨_, rfl⟩
  obtain ⟨locs, hL0⟩ : ∃ locs : List Loc, locs = [] := ⟨_, rfl⟩
  rw [← hH0] at hP
  have hS : va_S A s.heap H locs := by rw [hH0, hL0]; exact hS
  have goal : W p l e rm_Co_haveGap s m args below meth c H locs 0 0 Q (F0 m 0 ls []) := by
    refine lv_iload_n hx hb dqCo_haveGap_0 rfl (lv_at hl 1 rfl) ?_
    refine lv_iconst (v := iI 0) hx hb dqCo_haveGap_1 rfl ?_
    refine lv_aload_n hx hb dqCo_haveGap_2 rfl (lv_at hl 0 rfl) ?_
    refine va_get (D := D) (ci := 1) (v := .int (iI n)) (C := RqCo) (T := TqCo) (N := 6) hx hb hts (in_c inqCo) hown hK hP 0 rfl rfl 3 (by decide) (hts (.fieldLink RqCo 22 "SpringSpaces$Columns" "count" "I") (List.mem_cons_of_mem _ tb_52)) (fun _ h9 => h9) rfl dqCo_haveGap_3 ?_
    refine lv_iconst (v := iI 2) hx hb dqCo_haveGap_6 rfl ?_
    refine q_isub hx hb dqCo_haveGap_7 ?_
    refine af_i (wr := [(co, .inr (1, [.ref tm, .ref lw, .ref br, .int (iI n), .int (iI b), .int (iI mo)]))]) (va_runSN (As := [.int (iI x), .int (iI 0), .int (iI (n - 2))]) (rest := []) ⟨hx, hb, hml, hown, hts⟩ (c_X_within l D cI cJ cZ x 0 (n - 2) (by omega) (by omega) (by omega) (by omega) (by omega) (by omega) H.size) ⟨va_cnB 3 hts (gi_0 tb_225) rfl rfl rfl (hN _ nl_Co_haveGap_32) (hts _ (List.mem_cons_of_mem _ tb_25)) (by decide +kernel) ⟨Nat.le_of_ble_eq_true rfl, Nat.le_of_ble_eq_true rfl⟩, (hts _ (List.mem_cons_of_mem _ tb_224)), trivial⟩ (pre_S hK hN hP hD [] rfl rfl) rfl rfl hl.1 rfl (lv_room (Nat.le_of_ble_eq_true rfl)) dqCo_haveGap_8 ⟨by first | omega | decide, by first | omega | decide⟩) hA hP hD hS [] [0] rfl rfl (by decide +kernel) (by decide +kernel) (fun z1 u2 H locs hw_z1 hP hD hS => ?_)
    have hP : va_P D vwCl [(co, .inr (1, [.ref tm, .ref lw, .ref br, .int (iI n), .int (iI b), .int (iI mo)]))] H := hP
    have hD : va_D A [(co, .inr (1, [.ref tm, .ref lw, .ref br, .int (iI n), .int (iI b), .int (iI mo)]))] := hD
    have hw_z1 : bl z1 ((0 : Int) ≤ x ∧ x ≤ (n - 2)) := hw_z1
    exact hret H locs _ ls z1 () (narrow_z (bl_01 hw_z1)) hS (by first | exact hw_z1 | exact bl_01 hw_z1 | exact bl_c hw_z1 (by constructor <;> intro h <;> omega) | rfl | trivial | omega | exact bl_y (by omega) | exact bl_n (by omega) | (apply Or.inl; (and_intros <;> first | rfl | omega)) | (apply Or.inr; apply Or.inl; (and_intros <;> first | rfl | omega)) | (apply Or.inr; (and_intros <;> first | rfl | omega)) | (apply Or.inr; apply Or.inr; apply Or.inl; (and_intros <;> first | rfl | omega)) | (apply Or.inr; apply Or.inr; (and_intros <;> first | rfl | omega)) | (apply Or.inr; apply Or.inr; apply Or.inr; apply Or.inl; (and_intros <;> first | rfl | omega)) | (apply Or.inr; apply Or.inr; apply Or.inr; (and_intros <;> first | rfl | omega)) | (apply Or.inr; apply Or.inr; apply Or.inr; apply Or.inr; apply Or.inl; (and_intros <;> first | rfl | omega)) | (apply Or.inr; apply Or.inr; apply Or.inr; apply Or.inr; (and_intros <;> first | rfl | omega))) hP hD dqCo_haveGap_11
  rw [hH0, hL0] at goal
  exact goal
def rm_Co_mayFollow : Room := { frames := 0, cells := 0, slots := 0, locals := 0 }
set_option maxHeartbeats 4000000 in
set_option maxRecDepth 100000 in
theorem c_Co_mayFollow (l : Launch) (D : va_G) (cI cJ cZ : ClassId) (co : Nat) (x : Int) (tm : Nat) (lw : Nat) (br : Nat) (n : Int) (b : Int) (mo : Int) (tf : Int → Int) (h1 : 0 ≤ n) (h2 : n ≤ 24) (h3 : -2147483648 ≤ x) (h4 : x ≤ 2147483647) (hT : TS n tf) : Mi l yqCo_mayFollow wsqCo_mayFollow rm_Co_mayFollow D cI cJ cZ [.ref co, .int (iI x)] [(co, .inr (1, [.ref tm, .ref lw, .ref br, .int (iI n), .int (iI b), .int (iI mo)])), (tm, .inl (cI, 24, .inl (ai tf)))] (S := Unit) (fun z _ => bl z (n = 0 ∨ tf (n - 1) < x)) (fun _ => [(co, .inr (1, [.ref tm, .ref lw, .ref br, .int (iI n), .int (iI b), .int (iI mo)])), (tm, .inl (cI, 24, .inl (ai tf)))]) 0 0 := by
  refine en_i (cc := cqCo_mayFollow) (maxL := 2) (ty := .boolean) (by decide +kernel) rfl (Nat.le_of_ble_eq_true rfl) ?_
  intro p e s m args below meth c A Q hx hb hml hin hts hown hA hP hK hD hN hS hret ls hl
  have hl : lv_has ls 2 [(0, .ref co), (1, .int (iI x))] := hl
  obtain ⟨H, hH0⟩ : ∃ H, H = s.heap := ⟨_, rfl⟩
  obtain ⟨locs, hL0⟩ : ∃ locs : List Loc, locs = [] := ⟨_, rfl⟩
  rw [← hH0] at hP
  have hS : va_S A s.heap H locs := by rw [hH0, hL0]; exact hS
  have goal : W p l e rm_Co_mayFollow s m args below meth c H locs 0 0 Q (F0 m 0 ls []) := by
    refine lv_aload_n hx hb dqCo_mayFollow_0 rfl (lv_at hl 0 rfl) ?_
    refine va_get (D := D) (ci := 1) (v := .int (iI n)) (C := RqCo) (T := TqCo) (N := 6) hx hb hts (in_c inqCo) hown hK hP 0 rfl rfl 3 (by decide) (hts (.fieldLink RqCo 22 "SpringSpaces$Columns" "count" "I") (List.mem_cons_of_mem _ tb_52)) (fun _ h9 => h9) rfl dqCo_mayFollow_1 ?_
    refine q_if_eq (tgt := 22) hx hb dqCo_mayFollow_4 (by decide) (by omega) (by omega) (fun c_4 => ?_) (fun c_4 => ?_)
    · refine lv_iconst (v := iI 1) hx hb dqCo_mayFollow_22 rfl ?_
      refine lv_goto (tgt := 27) hx hb dqCo_mayFollow_23 (by decide) ?_
      exact hret H locs _ ls 1 () (narrow_z (by omega)) hS (by first | rfl | trivial | omega | exact bl_y (by omega) | exact bl_n (by omega) | (apply Or.inl; (and_intros <;> first | rfl | omega)) | (apply Or.inr; apply Or.inl; (and_intros <;> first | rfl | omega)) | (apply Or.inr; (and_intros <;> first | rfl | omega)) | (apply Or.inr; apply Or.inr; apply Or.inl; (and_intros <;> first | rfl | omega)) | (apply Or.inr; apply Or.inr; (and_intros <;> first | rfl | omega)) | (apply Or.inr; apply Or.inr; apply Or.inr; apply Or.inl; (and_intros <;> first | rfl | omega)) | (apply Or.inr; apply Or.inr; apply Or.inr; (and_intros <;> first | rfl | omega)) | (apply Or.inr; apply Or.inr; apply Or.inr; apply Or.inr; apply Or.inl; (and_intros <;> first | rfl | omega)) | (apply Or.inr; apply Or.inr; apply Or.inr; apply Or.inr; (and_intros <;> first | rfl | omega))) hP hD dqCo_mayFollow_27
    · have t9 := hT.1 (n - 1) (by omega) (by omega)
      refine lv_iload_n hx hb dqCo_mayFollow_7 rfl (lv_at hl 1 rfl) ?_
      refine lv_aload_n hx hb dqCo_mayFollow_8 rfl (lv_at hl 0 rfl) ?_
      refine va_get (D := D) (ci := 1) (v := .ref tm) (C := RqCo) (T := TqCo) (N := 6) hx hb hts (in_c inqCo) hown hK hP 0 rfl rfl 0 (by decide) (hts (.fieldLink RqCo 9 "SpringSpaces$Columns" "times" "[I") (List.mem_cons_of_mem _ tb_49)) (fun _ h9 => h9) rfl dqCo_mayFollow_9 ?_
      refine lv_aload_n hx hb dqCo_mayFollow_12 rfl (lv_at hl 0 rfl) ?_
      refine va_get (D := D) (ci := 1) (v := .int (iI n)) (C := RqCo) (T := TqCo) (N := 6) hx hb hts (in_c inqCo) hown hK hP 0 rfl rfl 3 (by decide) (hts (.fieldLink RqCo 22 "SpringSpaces$Columns" "count" "I") (List.mem_cons_of_mem _ tb_52)) (fun _ h9 => h9) rfl dqCo_mayFollow_13 ?_
      refine lv_iconst (v := iI 1) hx hb dqCo_mayFollow_16 rfl ?_
      refine q_isub hx hb dqCo_mayFollow_17 ?_
      refine q_iald (i := n - 1) hx hb hK hP 1 0 rfl rfl (by omega) (by omega) (by omega) dqCo_mayFollow_18 ?_
      refine q_icmp_le (tgt := 26) hx hb dqCo_mayFollow_19 (by decide) (by omega) (by omega) (by omega) (by omega) (fun c_19 => ?_) (fun c_19 => ?_)
      · refine lv_iconst (v := iI 0) hx hb dqCo_mayFollow_26 rfl ?_
        exact hret H locs _ ls 0 () (narrow_z (by omega)) hS (by first | rfl | trivial | omega | exact bl_y (by omega) | exact bl_n (by omega) | (apply Or.inl; (and_intros <;> first | rfl | omega)) | (apply Or.inr; apply Or.inl; (and_intros <;> first | rfl | omega)) | (apply Or.inr; (and_intros <;> first | rfl | omega)) | (apply Or.inr; apply Or.inr; apply Or.inl; (and_intros <;> first | rfl | omega)) | (apply Or.inr; apply Or.inr; (and_intros <;> first | rfl | omega)) | (apply Or.inr; apply Or.inr; apply Or.inr; apply Or.inl; (and_intros <;> first | rfl | omega)) | (apply Or.inr; apply Or.inr; apply Or.inr; (and_intros <;> first | rfl | omega)) | (apply Or.inr; apply Or.inr; apply Or.inr; apply Or.inr; apply Or.inl; (and_intros <;> first | rfl | omega)) | (apply Or.inr; apply Or.inr; apply Or.inr; apply Or.inr; (and_intros <;> first | rfl | omega))) hP hD dqCo_mayFollow_27
      · refine lv_iconst (v := iI 1) hx hb dqCo_mayFollow_22 rfl ?_
        refine lv_goto (tgt := 27) hx hb dqCo_mayFollow_23 (by decide) ?_
        exact hret H locs _ ls 1 () (narrow_z (by omega)) hS (by first | rfl | trivial | omega | exact bl_y (by omega) | exact bl_n (by omega) | (apply Or.inl; (and_intros <;> first | rfl | omega)) | (apply Or.inr; apply Or.inl; (and_intros <;> first | rfl | omega)) | (apply Or.inr; (and_intros <;> first | rfl | omega)) | (apply Or.inr; apply Or.inr; apply Or.inl; (and_intros <;> first | rfl | omega)) | (apply Or.inr; apply Or.inr; (and_intros <;> first | rfl | omega)) | (apply Or.inr; apply Or.inr; apply Or.inr; apply Or.inl; (and_intros <;> first | rfl | omega)) | (apply Or.inr; apply Or.inr; apply Or.inr; (and_intros <;> first | rfl | omega)) | (apply Or.inr; apply Or.inr; apply Or.inr; apply Or.inr; apply Or.inl; (and_intros <;> first | rfl | omega)) | (apply Or.inr; apply Or.inr; apply Or.inr; apply Or.inr; (and_intros <;> first | rfl | omega))) hP hD dqCo_mayFollow_27
  rw [hH0, hL0] at goal
  exact goal
