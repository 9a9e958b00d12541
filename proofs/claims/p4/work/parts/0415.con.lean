def rm_M_part : Room := { frames := 1, cells := 0, slots := 0, locals := 29 }
set_option maxHeartbeats 4000000 in
set_option maxRecDepth 100000 in
theorem c_M_part (l : Launch) (D : va_G) (cI cJ cZ : ClassId) (x : Int) (y : Int) (pt : Int) (h1 : -9223372036854775808 ≤ x) (h2 : x ≤ 9223372036854775807) (h3 : -9223372036854775808 ≤ y) (h4 : y ≤ 9223372036854775807) (h5 : y ≠ 0) (h6 : -2147483648 ≤ pt) (h7 : pt ≤ 2147483647) : Ml l yqM_part wsqM_part rm_M_part D cI cJ cZ [.long (lI x), .long (lI y), .int (iI pt)] [] (S := Unit) (fun z _ => True) (fun _ => []) 0 0 := by
  refine en_l (cc := cqM_part) (maxL := 5) (by decide +kernel) rfl (Nat.le_of_ble_eq_true rfl) ?_
  intro p e s m args below meth c A Q hx hb hml hin hts hown hA hP hK hD hN hS hret ls hl
  have hl : lv_has ls 5 [(0, .long (lI x)), (2, .long (lI y)), (4, .int (iI pt))] := hl
  obtain ⟨H, hH0⟩ : ∃ H, H = s.heap := ⟨_, rfl⟩
  obtain ⟨locs, hL0⟩ : ∃ locs : List Loc, locs = [] := ⟨_, rfl⟩
  rw [← hH0] at hP
  have hS : va_S A s.heap H locs := by rw [hH0, hL0]; exact hS
  have goal : W p l e rm_M_part s m args below meth c H locs 0 0 Q (F0 m 0 ls []) := by
    refine lv_iload hx hb dqM_part_0 (lv_at hl 2 rfl) ?_
    refine q_if_ne (tgt := 9) hx hb dqM_part_2 (by decide) (by omega) (by omega) (fun c_2 => ?_) (fun c_2 => ?_)
    · refine lv_lload_n hx hb dqM_part_9 rfl (lv_at hl 1 rfl) ?_
      refine lv_lload_n hx hb dqM_part_10 rfl (lv_at hl 0 rfl) ?_
      refine lv_lload_n hx hb dqM_part_11 rfl (lv_at hl 1 rfl) ?_
      refine af_l (wr := []) (va_runS (As := [.long (lI x), .long (lI y)]) (rest := [.long (lI y)]) ⟨hx, hb, hml, hown, hts⟩ (c_M_common l D cI cJ cZ x y (by omega) (by omega) (by omega) (by omega) (by omega) H.size) (va_cwS 2 hts (gi_S tb_840 tb_841 tb_33 tb_842) rfl rfl rfl (by decide +kernel) ⟨Nat.le_of_ble_eq_true rfl, Nat.le_of_ble_eq_true rfl⟩) (pre_S hK hN hP hD [] rfl rfl) rfl rfl hl.1 rfl (lv_room (Nat.le_of_ble_eq_true rfl)) dqM_part_12 ⟨by first | omega | decide, by first | omega | decide⟩) hA hP hD hS [] [] rfl rfl (by decide +kernel) (by decide +kernel) (fun z1 u2 H locs hw_z1 hP hD hS => ?_)
      have hP : va_P D vwCl [] H := hP
      have hD : va_D A [] := hD
      have hw_z1 : z1 ≠ 0 ∧ -9223372036854775808 ≤ z1 ∧ z1 ≤ 9223372036854775807 := hw_z1
      refine q_ldiv_w hx hb dqM_part_15 (by omega) (by omega) (by omega) (fun v3 v3a v3b => ?_)
      exact hret H locs _ ls v3 () hS (by first | rfl | trivial | omega | exact bl_y (by omega) | exact bl_n (by omega) | (apply Or.inl; (and_intros <;> first | rfl | omega)) | (apply Or.inr; apply Or.inl; (and_intros <;> first | rfl | omega)) | (apply Or.inr; (and_intros <;> first | rfl | omega)) | (apply Or.inr; apply Or.inr; apply Or.inl; (and_intros <;> first | rfl | omega)) | (apply Or.inr; apply Or.inr; (and_intros <;> first | rfl | omega)) | (apply Or.inr; apply Or.inr; apply Or.inr; apply Or.inl; (and_intros <;> first | rfl | omega)) | (apply Or.inr; apply Or.inr; apply Or.inr; (and_intros <;> first | rfl | omega)) | (apply Or.inr; apply Or.inr; apply Or.inr; apply Or.inr; apply Or.inl; (and_intros <;> first | rfl | omega)) | (apply Or.inr; apply Or.inr; apply Or.inr; apply Or.inr; (and_intros <;> first | rfl | omega))) hP hD dqM_part_16
    · refine lv_lload_n hx hb dqM_part_5 rfl (lv_at hl 0 rfl) ?_
      refine lv_goto (tgt := 10) hx hb dqM_part_6 (by decide) ?_
      refine lv_lload_n hx hb dqM_part_10 rfl (lv_at hl 0 rfl) ?_
      refine lv_lload_n hx hb dqM_part_11 rfl (lv_at hl 1 rfl) ?_
      refine af_l (wr := []) (va_runS (As := [.long (lI x), .long (lI y)]) (rest := [.long (lI x)]) ⟨hx, hb, hml, hown, hts⟩ (c_M_common l D cI cJ cZ x y (by omega) (by omega) (by omega) (by omega) (by omega) H.size) (va_cwS 2 hts (gi_S tb_840 tb_841 tb_33 tb_842) rfl rfl rfl (by decide +kernel) ⟨Nat.le_of_ble_eq_true rfl, Nat.le_of_ble_eq_true rfl⟩) (pre_S hK hN hP hD [] rfl rfl) rfl rfl hl.1 rfl (lv_room (Nat.le_of_ble_eq_true rfl)) dqM_part_12 ⟨by first | omega | decide, by first | omega | decide⟩) hA hP hD hS [] [] rfl rfl (by decide +kernel) (by decide +kernel) (fun z4 u5 H locs hw_z4 hP hD hS => ?_)
      have hP : va_P D vwCl [] H := hP
      have hD : va_D A [] := hD
      have hw_z4 : z4 ≠ 0 ∧ -9223372036854775808 ≤ z4 ∧ z4 ≤ 9223372036854775807 := hw_z4
      refine q_ldiv_w hx hb dqM_part_15 (by omega) (by omega) (by omega) (fun v6 v6a v6b => ?_)
      exact hret H locs _ ls v6 () hS (by first | rfl | trivial | omega | exact bl_y (by omega) | exact bl_n (by omega) | (apply Or.inl; (and_intros <;> first | rfl | omega)) | (apply Or.inr; apply Or.inl; (and_intros <;> first | rfl | omega)) | (apply Or.inr; (and_intros <;> first | rfl | omega)) | (apply Or.inr; apply Or.inr; apply Or.inl; (and_intros <;> first | rfl | omega)) | (apply Or.inr; apply Or.inr; (and_intros <;> first | rfl | omega)) | (apply Or.inr; apply Or.inr; apply Or.inr; apply Or.inl; (and_intros <;> first | rfl | omega)) | (apply Or.inr; apply Or.inr; apply Or.inr; (and_intros <;> first | rfl | omega)) | (apply Or.inr; apply Or.inr; apply Or.inr; apply Or.inr; apply Or.inl; (and_intros <;> first | rfl | omega)) | (apply Or.inr; apply Or.inr; apply Or.inr; apply Or.inr; (and_intros <;> first | rfl | omega))) hP hD dqM_part_16
  rw [hH0, hL0] at goal
  exact goal
def rm_M_over : Room := { frames := 0, cells := 0, slots := 0, locals := 0 }
set_option maxHeartbeats 4000000 in
set_option maxRecDepth 100000 in
theorem c_M_over (l : Launch) (D : va_G) (cI cJ cZ : ClassId) (mx : Nat) (b : Int) (mo : Int) (n : Int) (ptm : Nat) (plw : Nat) (pbr : Nat) (pit : Nat) (ple : Nat) (pri : Nat) (nu : Int) (nl : Int) (prf : Nat) (prt : Nat) (prw : Nat) (pir : Nat) (hl1 : Int) (fi : Int) (la : Int) (ov : Int) (av : Int) (bw : Int) (pse : Nat) (psp : Nat) (hm1 : Int) (lc : Int) (cst : Int) (pbg : Nat) (pwk : Nat) (pgv : Nat) (fa : Int) (fb : Int) (pbc : Nat) (pbl : Nat) (pbe : Nat) (h1 : hl1 = 0 ∨ hl1 = 1) : Mi l yqM_over wsqM_over rm_M_over D cI cJ cZ [.ref mx] [(mx, .inr (8, [.int (iI b), .int (iI mo), .int (iI n), .ref ptm, .ref plw, .ref pbr, .ref pit, .ref ple, .ref pri, .int (iI nu), .int (iI nl), .ref prf, .ref prt, .ref prw, .ref pir, .int (iI hl1), .int (iI fi), .int (iI la), .int (iI ov), .long (lI av), .long (lI bw), .ref pse, .ref psp, .int (iI hm1), .int (iI lc), .long (lI cst), .ref pbg, .ref pwk, .ref pgv, .long (lI fa), .long (lI fb), .ref pbc, .ref pbl, .ref pbe]))] (S := Unit) (fun z _ => hl1 = 0 → z = -3) (fun _ => [(mx, .inr (8, [.int (iI b), .int (iI mo), .int (iI n), .ref ptm, .ref plw, .ref pbr, .ref pit, .ref ple, .ref pri, .int (iI nu), .int (iI nl), .ref prf, .ref prt, .ref prw, .ref pir, .int (iI hl1), .int (iI fi), .int (iI la), .int (iI ov), .long (lI av), .long (lI bw), .ref pse, .ref psp, .int (iI hm1), .int (iI lc), .long (lI cst), .ref pbg, .ref pwk, .ref pgv, .long (lI fa), .long (lI fb), .ref pbc, .ref pbl, .ref pbe]))]) 0 0 := by
  refine en_i (cc := cqM_over) (maxL := 1) (ty := .int) (by decide +kernel) rfl (Nat.le_of_ble_eq_true rfl) ?_
  intro p e s m args below meth c A Q hx hb hml hin hts hown hA hP hK hD hN hS hret ls hl
  have hl : lv_has ls 1 [(0, .ref mx)] := hl
  obtain ⟨H, hH0⟩ : ∃ H, H = s.heap := ⟨_, rfl⟩
  obtain ⟨locs, hL0⟩ : ∃ locs : List Loc, locs = [] := ⟨_, rfl⟩
  rw [← hH0] at hP
  have hS : va_S A s.heap H locs := by rw [hH0, hL0]; exact hS
  have goal : W p l e rm_M_over s m args below meth c H locs 0 0 Q (F0 m 0 ls []) := by
    refine lv_aload_n hx hb dqM_over_0 rfl (lv_at hl 0 rfl) ?_
    refine va_get (D := D) (ci := 8) (v := .int (iI hl1)) (C := RqM) (T := TqM) (N := 34) hx hb hts (in_c inqM) hown hK hP 0 rfl rfl 15 (by decide) (hts (.fieldLink RqM 77 "SpringSpacesModel" "hasLine" "Z") (List.mem_cons_of_mem _ tb_653)) (fun _ h9 => h9) rfl dqM_over_1 ?_
    refine q_if_eq (tgt := 14) hx hb dqM_over_4 (by decide) (by omega) (by omega) (fun c_4 => ?_) (fun c_4 => ?_)
    · refine lv_bipush (v := iI (-3)) hx hb dqM_over_14 (by decide +kernel) ?_
      exact hret H locs _ ls (-3) () rfl hS (by omega) hP hD dqM_over_16
    · refine lv_aload_n hx hb dqM_over_7 rfl (lv_at hl 0 rfl) ?_
      refine va_get (D := D) (ci := 8) (v := .int (iI ov)) (C := RqM) (T := TqM) (N := 34) hx hb hts (in_c inqM) hown hK hP 0 rfl rfl 18 (by decide) (hts (.fieldLink RqM 146 "SpringSpacesModel" "over" "I") (List.mem_cons_of_mem _ tb_656)) (fun _ h9 => h9) rfl dqM_over_8 ?_
      refine lv_goto (tgt := 16) hx hb dqM_over_11 (by decide) ?_
      exact hret H locs _ ls ov () rfl hS (by omega) hP hD dqM_over_16
  rw [hH0, hL0] at goal
  exact goal
def rm_M_force : Room := { frames := 2, cells := 0, slots := 0, locals := 53 }
set_option maxHeartbeats 4000000 in
set_option maxRecDepth 100000 in
theorem c_M_force (l : Launch) (D : va_G) (cI cJ cZ : ClassId) (mx : Nat) (x : Int) (b : Int) (mo : Int) (n : Int) (ptm : Nat) (plw : Nat) (pbr : Nat) (pit : Nat) (ple : Nat) (pri : Nat) (nu : Int) (nl : Int) (prf : Nat) (prt : Nat) (prw : Nat) (pir : Nat) (hl1 : Int) (fi : Int) (la : Int) (ov : Int) (av : Int) (bw : Int) (pse : Nat) (psp : Nat) (hm1 : Int) (lc : Int) (cst : Int) (pbg : Nat) (pwk : Nat) (pgv : Nat) (fa : Int) (fb : Int) (pbc : Nat) (pbl : Nat) (pbe : Nat) (h1 : -2147483648 ≤ x) (h2 : x ≤ 2147483647) (hH : hl1 = 1 → 0 ≤ fi ∧ fi < la ∧ la ≤ 23 ∧ 1 ≤ bw ∧ bw ≤ 3221225472) (h4 : hl1 = 0 ∨ hl1 = 1) : Ml l yqM_force wsqM_force rm_M_force D cI cJ cZ [.ref mx, .int (iI x)] [(mx, .inr (8, [.int (iI b), .int (iI mo), .int (iI n), .ref ptm, .ref plw, .ref pbr, .ref pit, .ref ple, .ref pri, .int (iI nu), .int (iI nl), .ref prf, .ref prt, .ref prw, .ref pir, .int (iI hl1), .int (iI fi), .int (iI la), .int (iI ov), .long (lI av), .long (lI bw), .ref pse, .ref psp, .int (iI hm1), .int (iI lc), .long (lI cst), .ref pbg, .ref pwk, .ref pgv, .long (lI fa), .long (lI fb), .ref pbc, .ref pbl, .ref pbe]))] (S := Unit) (fun z _ => hl1 = 0 → (x = 0 ∨ x = 1 → z = -3) ∧ (¬ (x = 0 ∨ x = 1) → z = -2)) (fun _ => [(mx, .inr (8, [.int (iI b), .int (iI mo), .int (iI n), .ref ptm, .ref plw, .ref pbr, .ref pit, .ref ple, .ref pri, .int (iI nu), .int (iI nl), .ref prf, .ref prt, .ref prw, .ref pir, .int (iI hl1), .int (iI fi), .int (iI la), .int (iI ov), .long (lI av), .long (lI bw), .ref pse, .ref psp, .int (iI hm1), .int (iI lc), .long (lI cst), .ref pbg, .ref pwk, .ref pgv, .long (lI fa), .long (lI fb), .ref pbc, .ref pbl, .ref pbe]))]) 0 0 := by
  obtain ⟨av, ava, avb, e9⟩ := lI_can av; rw [e9]; clear e9
  refine en_l (cc := cqM_force) (maxL := 2) (by decide +kernel) rfl (Nat.le_of_ble_eq_true rfl) ?_
  intro p e s m args below meth c A Q hx hb hml hin hts hown hA hP hK hD hN hS hret ls hl
  have hl : lv_has ls 2 [(0, .ref mx), (1, .int (iI x))] := hl
  obtain ⟨H, hH0⟩ : ∃ H, H = s.heap := ⟨_, rfl⟩
  obtain ⟨locs, hL0⟩ : ∃ locs : List Loc, locs = [] := ⟨_, rfl⟩
  rw [← hH0] at hP
  have hS : va_S A s.heap H locs := by rw [hH0, hL0]; exact hS
  have goal : W p l e rm_M_force s m args below meth c H locs 0 0 Q (F0 m 0 ls []) := by
    refine lv_iload_n hx hb dqM_force_0 rfl (lv_at hl 1 rfl) ?_
    refine q_if_eq (tgt := 15) hx hb dqM_force_1 (by decide) (by omega) (by omega) (fun c_1 => ?_) (fun c_1 => ?_)
    · refine lv_aload_n hx hb dqM_force_15 rfl (lv_at hl 0 rfl) ?_
      refine va_get (D := D) (ci := 8) (v := .int (iI hl1)) (C := RqM) (T := TqM) (N := 34) hx hb hts (in_c inqM) hown hK hP 0 rfl rfl 15 (by decide) (hts (.fieldLink RqM 77 "SpringSpacesModel" "hasLine" "Z") (List.mem_cons_of_mem _ tb_653)) (fun _ h9 => h9) rfl dqM_force_16 ?_
      refine q_if_eq (tgt := 37) hx hb dqM_force_19 (by decide) (by omega) (by omega) (fun c_19 => ?_) (fun c_19 => ?_)
      · refine lv_ldc2 (v := (-3)) hx hb hown (hts (.constantLong RqM 160 (-3)) (List.mem_cons_of_mem _ tb_843)) dqM_force_37 ?_
        refine tp_l (y := lI (-3)) (by decide +kernel) ?_
        exact hret H locs _ ls (-3) () hS (by omega) hP hD dqM_force_40
      · have hh := hH (by omega)
        refine lv_aload_n hx hb dqM_force_22 rfl (lv_at hl 0 rfl) ?_
        refine va_get (D := D) (ci := 8) (v := .long (lI av)) (C := RqM) (T := TqM) (N := 34) hx hb hts (in_c inqM) hown hK hP 0 rfl rfl 19 (by decide) (hts (.fieldLink RqM 149 "SpringSpacesModel" "above" "J") (List.mem_cons_of_mem _ tb_657)) (fun _ h9 => h9) rfl dqM_force_23 ?_
        refine lv_aload_n hx hb dqM_force_26 rfl (lv_at hl 0 rfl) ?_
        refine va_get (D := D) (ci := 8) (v := .long (lI bw)) (C := RqM) (T := TqM) (N := 34) hx hb hts (in_c inqM) hown hK hP 0 rfl rfl 20 (by decide) (hts (.fieldLink RqM 48 "SpringSpacesModel" "below" "J") (List.mem_cons_of_mem _ tb_658)) (fun _ h9 => h9) rfl dqM_force_27 ?_
        refine lv_iload_n hx hb dqM_force_30 rfl (lv_at hl 1 rfl) ?_
        refine af_l (wr := [(mx, .inr (8, [.int (iI b), .int (iI mo), .int (iI n), .ref ptm, .ref plw, .ref pbr, .ref pit, .ref ple, .ref pri, .int (iI nu), .int (iI nl), .ref prf, .ref prt, .ref prw, .ref pir, .int (iI hl1), .int (iI fi), .int (iI la), .int (iI ov), .long (lI av), .long (lI bw), .ref pse, .ref psp, .int (iI hm1), .int (iI lc), .long (lI cst), .ref pbg, .ref pwk, .ref pgv, .long (lI fa), .long (lI fb), .ref pbc, .ref pbl, .ref pbe]))]) (va_runS (As := [.long (lI av), .long (lI bw), .int (iI x)]) (rest := []) ⟨hx, hb, hml, hown, hts⟩ (c_M_part l D cI cJ cZ av bw x (by omega) (by omega) (by omega) (by omega) (by omega) (by omega) (by omega) H.size) (va_cwS 3 hts (gi_S tb_837 tb_838 tb_33 tb_839) rfl rfl rfl (by decide +kernel) ⟨Nat.le_of_ble_eq_true rfl, Nat.le_of_ble_eq_true rfl⟩) (pre_S hK hN hP hD [] rfl rfl) rfl rfl hl.1 rfl (lv_room (Nat.le_of_ble_eq_true rfl)) dqM_force_31 ⟨by first | omega | decide, by first | omega | decide⟩) hA hP hD hS [] [0] rfl rfl (by decide +kernel) (by decide +kernel) (fun z1 u2 H locs hw_z1 hP hD hS => ?_)
        have hP : va_P D vwCl [(mx, .inr (8, [.int (iI b), .int (iI mo), .int (iI n), .ref ptm, .ref plw, .ref pbr, .ref pit, .ref ple, .ref pri, .int (iI nu), .int (iI nl), .ref prf, .ref prt, .ref prw, .ref pir, .int (iI hl1), .int (iI fi), .int (iI la), .int (iI ov), .long (lI av), .long (lI bw), .ref pse, .ref psp, .int (iI hm1), .int (iI lc), .long (lI cst), .ref pbg, .ref pwk, .ref pgv, .long (lI fa), .long (lI fb), .ref pbc, .ref pbl, .ref pbe]))] H := hP
        have hD : va_D A [(mx, .inr (8, [.int (iI b), .int (iI mo), .int (iI n), .ref ptm, .ref plw, .ref pbr, .ref pit, .ref ple, .ref pri, .int (iI nu), .int (iI nl), .ref prf, .ref prt, .ref prw, .ref pir, .int (iI hl1), .int (iI fi), .int (iI la), .int (iI ov), .long (lI av), .long (lI bw), .ref pse, .ref psp, .int (iI hm1), .int (iI lc), .long (lI cst), .ref pbg, .ref pwk, .ref pgv, .long (lI fa), .long (lI fb), .ref pbc, .ref pbl, .ref pbe]))] := hD
        have hw_z1 : True := hw_z1
        refine lv_goto (tgt := 40) hx hb dqM_force_34 (by decide) ?_
        exact hret H locs _ ls z1 () hS (by omega) hP hD dqM_force_40
    · refine lv_iload_n hx hb dqM_force_4 rfl (lv_at hl 1 rfl) ?_
      refine lv_iconst (v := iI 1) hx hb dqM_force_5 rfl ?_
      refine q_icmp_eq (tgt := 15) hx hb dqM_force_6 (by decide) (by omega) (by omega) (by omega) (by omega) (fun c_6 => ?_) (fun c_6 => ?_)
      · refine lv_aload_n hx hb dqM_force_15 rfl (lv_at hl 0 rfl) ?_
        refine va_get (D := D) (ci := 8) (v := .int (iI hl1)) (C := RqM) (T := TqM) (N := 34) hx hb hts (in_c inqM) hown hK hP 0 rfl rfl 15 (by decide) (hts (.fieldLink RqM 77 "SpringSpacesModel" "hasLine" "Z") (List.mem_cons_of_mem _ tb_653)) (fun _ h9 => h9) rfl dqM_force_16 ?_
        refine q_if_eq (tgt := 37) hx hb dqM_force_19 (by decide) (by omega) (by omega) (fun c_19 => ?_) (fun c_19 => ?_)
        · refine lv_ldc2 (v := (-3)) hx hb hown (hts (.constantLong RqM 160 (-3)) (List.mem_cons_of_mem _ tb_843)) dqM_force_37 ?_
          refine tp_l (y := lI (-3)) (by decide +kernel) ?_
          exact hret H locs _ ls (-3) () hS (by omega) hP hD dqM_force_40
        · have hh := hH (by omega)
          refine lv_aload_n hx hb dqM_force_22 rfl (lv_at hl 0 rfl) ?_
          refine va_get (D := D) (ci := 8) (v := .long (lI av)) (C := RqM) (T := TqM) (N := 34) hx hb hts (in_c inqM) hown hK hP 0 rfl rfl 19 (by decide) (hts (.fieldLink RqM 149 "SpringSpacesModel" "above" "J") (List.mem_cons_of_mem _ tb_657)) (fun _ h9 => h9) rfl dqM_force_23 ?_
          refine lv_aload_n hx hb dqM_force_26 rfl (lv_at hl 0 rfl) ?_
          refine va_get (D := D) (ci := 8) (v := .long (lI bw)) (C := RqM) (T := TqM) (N := 34) hx hb hts (in_c inqM) hown hK hP 0 rfl rfl 20 (by decide) (hts (.fieldLink RqM 48 "SpringSpacesModel" "below" "J") (List.mem_cons_of_mem _ tb_658)) (fun _ h9 => h9) rfl dqM_force_27 ?_
          refine lv_iload_n hx hb dqM_force_30 rfl (lv_at hl 1 rfl) ?_
          refine af_l (wr := [(mx, .inr (8, [.int (iI b), .int (iI mo), .int (iI n), .ref ptm, .ref plw, .ref pbr, .ref pit, .ref ple, .ref pri, .int (iI nu), .int (iI nl), .ref prf, .ref prt, .ref prw, .ref pir, .int (iI hl1), .int (iI fi), .int (iI la), .int (iI ov), .long (lI av), .long (lI bw), .ref pse, .ref psp, .int (iI hm1), .int (iI lc), .long (lI cst), .ref pbg, .ref pwk, .ref pgv, .long (lI fa), .long (lI fb), .ref pbc, .ref pbl, .ref pbe]))]) (va_runS (As := [.long (lI av), .long (lI bw), .int (iI x)]) (rest := []) ⟨hx, hb, hml, hown, hts⟩ (c_M_part l D cI cJ cZ av bw x (by omega) (by omega) (by omega) (by omega) (by omega) (by omega) (by omega) H.size) (va_cwS 3 hts (gi_S tb_837 tb_838 tb_33 tb_839) rfl rfl rfl (by decide +kernel) ⟨Nat.le_of_ble_eq_true rfl, Nat.le_of_ble_eq_true rfl⟩) (pre_S hK hN hP hD [] rfl rfl) rfl rfl hl.1 rfl (lv_room (Nat.le_of_ble_eq_true rfl)) dqM_force_31 ⟨by first | omega | decide, by first | omega | decide⟩) hA hP hD hS [] [0] rfl rfl (by decide +kernel) (by decide +kernel) (fun z3 u4 H locs hw_z3 hP hD hS => ?_)
          have hP : va_P D vwCl [(mx, .inr (8, [.int (iI b), .int (iI mo), .int (iI n), .ref ptm, .ref plw, .ref pbr, .ref pit, .ref ple, .ref pri, .int (iI nu), .int (iI nl), .ref prf, .ref prt, .ref prw, .ref pir, .int (iI hl1), .int (iI fi), .int (iI la), .int (iI ov), .long (lI av), .long (lI bw), .ref pse, .ref psp, .int (iI hm1), .int (iI lc), .long (lI cst), .ref pbg, .ref pwk, .ref pgv, .long (lI fa), .long (lI fb), .ref pbc, .ref pbl, .ref pbe]))] H := hP
          have hD : va_D A [(mx, .inr (8, [.int (iI b), .int (iI mo), .int (iI n), .ref ptm, .ref plw, .ref pbr, .ref pit, .ref ple, .ref pri, .int (iI nu), .int (iI nl), .ref prf, .ref prt, .ref prw, .ref pir, .int (iI hl1), .int (iI fi), .int (iI la), .int (iI ov), .long (lI av), .long (lI bw), .ref pse, .ref psp, .int (iI hm1), .int (iI lc), .long (lI cst), .ref pbg, .ref pwk, .ref pgv, .long (lI fa), .long (lI fb), .ref pbc, .ref pbl, .ref pbe]))] := hD
          have hw_z3 : True := hw_z3
          refine lv_goto (tgt := 40) hx hb dqM_force_34 (by decide) ?_
          exact hret H locs _ ls z3 () hS (by omega) hP hD dqM_force_40
      · refine lv_ldc2 (v := (-2)) hx hb hown (hts (.constantLong RqM 100 (-2)) (List.mem_cons_of_mem _ tb_762)) dqM_force_9 ?_
        refine tp_l (y := lI (-2)) (by decide +kernel) ?_
        refine lv_goto (tgt := 40) hx hb dqM_force_12 (by decide) ?_
        exact hret H locs _ ls (-2) () hS (by omega) hP hD dqM_force_40
  rw [hH0, hL0] at goal
  exact goal
def rm_M_wide : Room := { frames := 0, cells := 0, slots := 0, locals := 0 }
set_option maxHeartbeats 4000000 in
set_option maxRecDepth 100000 in
theorem c_M_wide (l : Launch) (D : va_G) (cI cJ cZ : ClassId) (mx : Nat) (x : Int) (b : Int) (mo : Int) (n : Int) (ptm : Nat) (plw : Nat) (pbr : Nat) (pit : Nat) (ple : Nat) (pri : Nat) (nu : Int) (nl : Int) (prf : Nat) (prt : Nat) (prw : Nat) (pir : Nat) (hl1 : Int) (fi : Int) (la : Int) (ov : Int) (av : Int) (bw : Int) (pse : Nat) (psp : Nat) (hm1 : Int) (lc : Int) (cst : Int) (pbg : Nat) (pwk : Nat) (pgv : Nat) (fa : Int) (fb : Int) (pbc : Nat) (pbl : Nat) (pbe : Nat) (zf : Int → Int) (pf : Int → Int) (h1 : 0 ≤ x) (h2 : x < 24) : Ml l yqM_wide wsqM_wide rm_M_wide D cI cJ cZ [.ref mx, .int (iI x)] [(mx, .inr (8, [.int (iI b), .int (iI mo), .int (iI n), .ref ptm, .ref plw, .ref pbr, .ref pit, .ref ple, .ref pri, .int (iI nu), .int (iI nl), .ref prf, .ref prt, .ref prw, .ref pir, .int (iI hl1), .int (iI fi), .int (iI la), .int (iI ov), .long (lI av), .long (lI bw), .ref pse, .ref psp, .int (iI hm1), .int (iI lc), .long (lI cst), .ref pbg, .ref pwk, .ref pgv, .long (lI fa), .long (lI fb), .ref pbc, .ref pbl, .ref pbe])), (pse, .inl (cI, 24, .inl (ai zf))), (psp, .inl (cJ, 24, .inr (.inl (al pf))))] (S := Unit) (fun z _ => -9223372036854775808 ≤ z ∧ z ≤ 9223372036854775807) (fun _ => [(mx, .inr (8, [.int (iI b), .int (iI mo), .int (iI n), .ref ptm, .ref plw, .ref pbr, .ref pit, .ref ple, .ref pri, .int (iI nu), .int (iI nl), .ref prf, .ref prt, .ref prw, .ref pir, .int (iI hl1), .int (iI fi), .int (iI la), .int (iI ov), .long (lI av), .long (lI bw), .ref pse, .ref psp, .int (iI hm1), .int (iI lc), .long (lI cst), .ref pbg, .ref pwk, .ref pgv, .long (lI fa), .long (lI fb), .ref pbc, .ref pbl, .ref pbe])), (pse, .inl (cI, 24, .inl (ai zf))), (psp, .inl (cJ, 24, .inr (.inl (al pf))))]) 0 0 := by
  refine en_l (cc := cqM_wide) (maxL := 6) (by decide +kernel) rfl (Nat.le_of_ble_eq_true rfl) ?_
  intro p e s m args below meth c A Q hx hb hml hin hts hown hA hP hK hD hN hS hret ls hl
  have hl : lv_has ls 6 [(0, .ref mx), (1, .int (iI x))] := hl
  obtain ⟨H, hH0⟩ : ∃ H, H = s.heap := ⟨_, rfl⟩
  obtain ⟨locs, hL0⟩ : ∃ locs : List Loc, locs = [] := ⟨_, rfl⟩
  rw [← hH0] at hP
  have hS : va_S A s.heap H locs := by rw [hH0, hL0]; exact hS
  have goal : W p l e rm_M_wide s m args below meth c H locs 0 0 Q (F0 m 0 ls []) := by
    refine lv_aload_n hx hb dqM_wide_0 rfl (lv_at hl 0 rfl) ?_
    refine va_get (D := D) (ci := 8) (v := .ref pse) (C := RqM) (T := TqM) (N := 34) hx hb hts (in_c inqM) hown hK hP 0 rfl rfl 21 (by decide) (hts (.fieldLink RqM 52 "SpringSpacesModel" "settled" "[I") (List.mem_cons_of_mem _ tb_659)) (fun _ h9 => h9) rfl dqM_wide_1 ?_
    refine lv_iload_n hx hb dqM_wide_4 rfl (lv_at hl 1 rfl) ?_
    refine q_iald (i := x) hx hb hK hP 1 0 rfl rfl (by omega) (by omega) (by omega) dqM_wide_5 ?_
    refine q_i2l_w hx hb dqM_wide_6 (fun v1 v1a v1b => ?_)
    refine lv_aload_n hx hb dqM_wide_7 rfl (lv_at hl 0 rfl) ?_
    refine va_get (D := D) (ci := 8) (v := .long (lI bw)) (C := RqM) (T := TqM) (N := 34) hx hb hts (in_c inqM) hown hK hP 0 rfl rfl 20 (by decide) (hts (.fieldLink RqM 48 "SpringSpacesModel" "below" "J") (List.mem_cons_of_mem _ tb_658)) (fun _ h9 => h9) rfl dqM_wide_8 ?_
    refine q_lmul hx hb dqM_wide_11 ?_
    refine hv_l (fun v2 v2a v2b => ?_)
    refine lv_lstore_n (lv' := [(2, .long (lI v2)), (0, .ref mx), (1, .int (iI x))]) hx hb dqM_wide_12 rfl hl (by decide) rfl (fun ls hl => ?_)
    refine lv_aload_n hx hb dqM_wide_13 rfl (lv_at hl 1 rfl) ?_
    refine va_get (D := D) (ci := 8) (v := .long (lI av)) (C := RqM) (T := TqM) (N := 34) hx hb hts (in_c inqM) hown hK hP 0 rfl rfl 19 (by decide) (hts (.fieldLink RqM 149 "SpringSpacesModel" "above" "J") (List.mem_cons_of_mem _ tb_657)) (fun _ h9 => h9) rfl dqM_wide_14 ?_
    refine lv_aload_n hx hb dqM_wide_17 rfl (lv_at hl 1 rfl) ?_
    refine va_get (D := D) (ci := 8) (v := .ref psp) (C := RqM) (T := TqM) (N := 34) hx hb hts (in_c inqM) hown hK hP 0 rfl rfl 22 (by decide) (hts (.fieldLink RqM 55 "SpringSpacesModel" "springs" "[J") (List.mem_cons_of_mem _ tb_660)) (fun _ h9 => h9) rfl dqM_wide_18 ?_
    refine lv_iload_n hx hb dqM_wide_21 rfl (lv_at hl 2 rfl) ?_
    refine q_lald (i := x) hx hb hK hP 2 1 rfl rfl (by omega) (by omega) (by omega) dqM_wide_22 ?_
    refine hv_l (fun v3 v3a v3b => ?_)
    refine q_lmul hx hb dqM_wide_23 ?_
    refine hv_l (fun v4 v4a v4b => ?_)
    refine lv_lstore (lv' := [(4, .long (lI v4)), (2, .long (lI v2)), (0, .ref mx), (1, .int (iI x))]) hx hb dqM_wide_24 hl (by decide) rfl (fun ls hl => ?_)
    refine lv_lload_n hx hb dqM_wide_26 rfl (lv_at hl 1 rfl) ?_
    refine lv_lload hx hb dqM_wide_27 (lv_at hl 0 rfl) ?_
    refine q_lw_le (tgt := 37) hx hb dqM_wide_29 dqM_wide_30 (by decide) ?_ ?_
    · refine lv_lload hx hb dqM_wide_37 (lv_at hl 0 rfl) ?_
      exact hret H locs _ ls v4 () hS (by first | rfl | trivial | omega | exact bl_y (by omega) | exact bl_n (by omega) | (apply Or.inl; (and_intros <;> first | rfl | omega)) | (apply Or.inr; apply Or.inl; (and_intros <;> first | rfl | omega)) | (apply Or.inr; (and_intros <;> first | rfl | omega)) | (apply Or.inr; apply Or.inr; apply Or.inl; (and_intros <;> first | rfl | omega)) | (apply Or.inr; apply Or.inr; (and_intros <;> first | rfl | omega)) | (apply Or.inr; apply Or.inr; apply Or.inr; apply Or.inl; (and_intros <;> first | rfl | omega)) | (apply Or.inr; apply Or.inr; apply Or.inr; (and_intros <;> first | rfl | omega)) | (apply Or.inr; apply Or.inr; apply Or.inr; apply Or.inr; apply Or.inl; (and_intros <;> first | rfl | omega)) | (apply Or.inr; apply Or.inr; apply Or.inr; apply Or.inr; (and_intros <;> first | rfl | omega))) hP hD dqM_wide_39
    · refine lv_lload_n hx hb dqM_wide_33 rfl (lv_at hl 1 rfl) ?_
      refine lv_goto (tgt := 39) hx hb dqM_wide_34 (by decide) ?_
      exact hret H locs _ ls v2 () hS (by first | rfl | trivial | omega | exact bl_y (by omega) | exact bl_n (by omega) | (apply Or.inl; (and_intros <;> first | rfl | omega)) | (apply Or.inr; apply Or.inl; (and_intros <;> first | rfl | omega)) | (apply Or.inr; (and_intros <;> first | rfl | omega)) | (apply Or.inr; apply Or.inr; apply Or.inl; (and_intros <;> first | rfl | omega)) | (apply Or.inr; apply Or.inr; (and_intros <;> first | rfl | omega)) | (apply Or.inr; apply Or.inr; apply Or.inr; apply Or.inl; (and_intros <;> first | rfl | omega)) | (apply Or.inr; apply Or.inr; apply Or.inr; (and_intros <;> first | rfl | omega)) | (apply Or.inr; apply Or.inr; apply Or.inr; apply Or.inr; apply Or.inl; (and_intros <;> first | rfl | omega)) | (apply Or.inr; apply Or.inr; apply Or.inr; apply Or.inr; (and_intros <;> first | rfl | omega))) hP hD dqM_wide_39
  rw [hH0, hL0] at goal
  exact goal
def rm_M_width : Room := { frames := 2, cells := 0, slots := 0, locals := 53 }
set_option maxHeartbeats 4000000 in
set_option maxRecDepth 100000 in
theorem c_M_width (l : Launch) (D : va_G) (cI cJ cZ : ClassId) (mx : Nat) (x : Int) (y : Int) (b : Int) (mo : Int) (n : Int) (ptm : Nat) (plw : Nat) (pbr : Nat) (pit : Nat) (ple : Nat) (pri : Nat) (nu : Int) (nl : Int) (prf : Nat) (prt : Nat) (prw : Nat) (pir : Nat) (hl1 : Int) (fi : Int) (la : Int) (ov : Int) (av : Int) (bw : Int) (pse : Nat) (psp : Nat) (hm1 : Int) (lc : Int) (cst : Int) (pbg : Nat) (pwk : Nat) (pgv : Nat) (fa : Int) (fb : Int) (pbc : Nat) (pbl : Nat) (pbe : Nat) (zf : Int → Int) (pf : Int → Int) (h1 : -2147483648 ≤ x) (h2 : x ≤ 2147483647) (h3 : -2147483648 ≤ y) (h4 : y ≤ 2147483647) (hH : hl1 = 1 → 0 ≤ fi ∧ fi < la ∧ la ≤ 23 ∧ 1 ≤ bw ∧ bw ≤ 3221225472) (h6 : hl1 = 0 ∨ hl1 = 1) : Ml l yqM_width wsqM_width rm_M_width D cI cJ cZ [.ref mx, .int (iI x), .int (iI y)] [(mx, .inr (8, [.int (iI b), .int (iI mo), .int (iI n), .ref ptm, .ref plw, .ref pbr, .ref pit, .ref ple, .ref pri, .int (iI nu), .int (iI nl), .ref prf, .ref prt, .ref prw, .ref pir, .int (iI hl1), .int (iI fi), .int (iI la), .int (iI ov), .long (lI av), .long (lI bw), .ref pse, .ref psp, .int (iI hm1), .int (iI lc), .long (lI cst), .ref pbg, .ref pwk, .ref pgv, .long (lI fa), .long (lI fb), .ref pbc, .ref pbl, .ref pbe])), (pse, .inl (cI, 24, .inl (ai zf))), (psp, .inl (cJ, 24, .inr (.inl (al pf))))] (S := Unit) (fun z _ => hl1 = 0 → z = -3) (fun _ => [(mx, .inr (8, [.int (iI b), .int (iI mo), .int (iI n), .ref ptm, .ref plw, .ref pbr, .ref pit, .ref ple, .ref pri, .int (iI nu), .int (iI nl), .ref prf, .ref prt, .ref prw, .ref pir, .int (iI hl1), .int (iI fi), .int (iI la), .int (iI ov), .long (lI av), .long (lI bw), .ref pse, .ref psp, .int (iI hm1), .int (iI lc), .long (lI cst), .ref pbg, .ref pwk, .ref pgv, .long (lI fa), .long (lI fb), .ref pbc, .ref pbl, .ref pbe])), (pse, .inl (cI, 24, .inl (ai zf))), (psp, .inl (cJ, 24, .inr (.inl (al pf))))]) 0 0 := by
  refine en_l (cc := cqM_width) (maxL := 3) (by decide +kernel) rfl (Nat.le_of_ble_eq_true rfl) ?_
  intro p e s m args below meth c A Q hx hb hml hin hts hown hA hP hK hD hN hS hret ls hl
  have hl : lv_has ls 3 [(0, .ref mx), (1, .int (iI x)), (2, .int (iI y))] := hl
  obtain ⟨H, hH0⟩ : ∃ H, H = s.heap := ⟨_, rfl⟩
  obtain ⟨locs, hL0⟩ : ∃ locs : List Loc, locs = [] := ⟨_, rfl⟩
  rw [← hH0] at hP
  have hS : va_S A s.heap H locs := by rw [hH0, hL0]; exact hS
  have goal : W p l e rm_M_width s m args below meth c H locs 0 0 Q (F0 m 0 ls []) := by
    refine lv_aload_n hx hb dqM_width_0 rfl (lv_at hl 0 rfl) ?_
    refine va_get (D := D) (ci := 8) (v := .int (iI hl1)) (C := RqM) (T := TqM) (N := 34) hx hb hts (in_c inqM) hown hK hP 0 rfl rfl 15 (by decide) (hts (.fieldLink RqM 77 "SpringSpacesModel" "hasLine" "Z") (List.mem_cons_of_mem _ tb_653)) (fun _ h9 => h9) rfl dqM_width_1 ?_
    refine q_if_ne (tgt := 11) hx hb dqM_width_4 (by decide) (by omega) (by omega) (fun c_4 => ?_) (fun c_4 => ?_)
    · have hh := hH (by omega)
      refine lv_iload_n hx hb dqM_width_11 rfl (lv_at hl 1 rfl) ?_
      refine lv_aload_n hx hb dqM_width_12 rfl (lv_at hl 0 rfl) ?_
      refine va_get (D := D) (ci := 8) (v := .int (iI fi)) (C := RqM) (T := TqM) (N := 34) hx hb hts (in_c inqM) hown hK hP 0 rfl rfl 16 (by decide) (hts (.fieldLink RqM 140 "SpringSpacesModel" "first" "I") (List.mem_cons_of_mem _ tb_654)) (fun _ h9 => h9) rfl dqM_width_13 ?_
      refine q_icmp_lt (tgt := 27) hx hb dqM_width_16 (by decide) (by omega) (by omega) (by omega) (by omega) (fun c_16 => ?_) (fun c_16 => ?_)
      · refine lv_ldc2 (v := (-1)) hx hb hown (hts (.constantLong RqM 162 (-1)) (List.mem_cons_of_mem _ tb_848)) dqM_width_27 ?_
        refine tp_l (y := lI (-1)) (by decide +kernel) ?_
        exact hret H locs _ ls (-1) () hS (by omega) hP hD dqM_width_30
      · refine lv_iload_n hx hb dqM_width_19 rfl (lv_at hl 1 rfl) ?_
        refine lv_aload_n hx hb dqM_width_20 rfl (lv_at hl 0 rfl) ?_
        refine va_get (D := D) (ci := 8) (v := .int (iI la)) (C := RqM) (T := TqM) (N := 34) hx hb hts (in_c inqM) hown hK hP 0 rfl rfl 17 (by decide) (hts (.fieldLink RqM 143 "SpringSpacesModel" "last" "I") (List.mem_cons_of_mem _ tb_655)) (fun _ h9 => h9) rfl dqM_width_21 ?_
        refine q_icmp_lt (tgt := 31) hx hb dqM_width_24 (by decide) (by omega) (by omega) (by omega) (by omega) (fun c_24 => ?_) (fun c_24 => ?_)
        · refine lv_iload_n hx hb dqM_width_31 rfl (lv_at hl 2 rfl) ?_
          refine q_if_eq (tgt := 46) hx hb dqM_width_32 (by decide) (by omega) (by omega) (fun c_32 => ?_) (fun c_32 => ?_)
          · refine lv_aload_n hx hb dqM_width_46 rfl (lv_at hl 0 rfl) ?_
            refine lv_iload_n hx hb dqM_width_47 rfl (lv_at hl 1 rfl) ?_
            refine af_l (wr := []) (va_runV (As := [.int (iI x)]) (rest := []) ⟨hx, hb, hml, hown, hts⟩ (c_M_wide l D cI cJ cZ mx x b mo n ptm plw pbr pit ple pri nu nl prf prt prw pir hl1 fi la ov av bw pse psp hm1 lc cst pbg pwk pgv fa fb pbc pbl pbe zf pf (by omega) (by omega) H.size) (cwV 1 hts (gi_V tb_849 tb_851 tb_19 tb_33 tb_852) rfl rfl rfl (by decide +kernel) ⟨Nat.le_of_ble_eq_true rfl, Nat.le_of_ble_eq_true rfl⟩) (pre_V (ci := 8) (q0 := 0) hK hN hP hD [0, 1, 2] rfl rfl rfl rfl) rfl rfl hl.1 rfl (lv_room (Nat.le_of_ble_eq_true rfl)) dqM_width_48 ⟨by first | omega | decide, by first | omega | decide⟩) hA hP hD hS [0, 1, 2] [] rfl rfl (by decide +kernel) (by decide +kernel) (fun z1 u2 H locs hw_z1 hP hD hS => ?_)
            have hP : va_P D vwCl [(mx, .inr (8, [.int (iI b), .int (iI mo), .int (iI n), .ref ptm, .ref plw, .ref pbr, .ref pit, .ref ple, .ref pri, .int (iI nu), .int (iI nl), .ref prf, .ref prt, .ref prw, .ref pir, .int (iI hl1), .int (iI fi), .int (iI la), .int (iI ov), .long (lI av), .long (lI bw), .ref pse, .ref psp, .int (iI hm1), .int (iI lc), .long (lI cst), .ref pbg, .ref pwk, .ref pgv, .long (lI fa), .long (lI fb), .ref pbc, .ref pbl, .ref pbe])), (pse, .inl (cI, 24, .inl (ai zf))), (psp, .inl (cJ, 24, .inr (.inl (al pf))))] H := hP
            have hD : va_D A [(mx, .inr (8, [.int (iI b), .int (iI mo), .int (iI n), .ref ptm, .ref plw, .ref pbr, .ref pit, .ref ple, .ref pri, .int (iI nu), .int (iI nl), .ref prf, .ref prt, .ref prw, .ref pir, .int (iI hl1), .int (iI fi), .int (iI la), .int (iI ov), .long (lI av), .long (lI bw), .ref pse, .ref psp, .int (iI hm1), .int (iI lc), .long (lI cst), .ref pbg, .ref pwk, .ref pgv, .long (lI fa), .long (lI fb), .ref pbc, .ref pbl, .ref pbe])), (pse, .inl (cI, 24, .inl (ai zf))), (psp, .inl (cJ, 24, .inr (.inl (al pf))))] := hD
            have hw_z1 : -9223372036854775808 ≤ z1 ∧ z1 ≤ 9223372036854775807 := hw_z1
            refine lv_aload_n hx hb dqM_width_51 rfl (lv_at hl 0 rfl) ?_
            refine va_get (D := D) (ci := 8) (v := .long (lI bw)) (C := RqM) (T := TqM) (N := 34) hx hb hts (in_c inqM) hown hK hP 0 rfl rfl 20 (by decide) (hts (.fieldLink RqM 48 "SpringSpacesModel" "below" "J") (List.mem_cons_of_mem _ tb_658)) (fun _ h9 => h9) rfl dqM_width_52 ?_
            refine lv_iload_n hx hb dqM_width_55 rfl (lv_at hl 2 rfl) ?_
            refine af_l (wr := [(mx, .inr (8, [.int (iI b), .int (iI mo), .int (iI n), .ref ptm, .ref plw, .ref pbr, .ref pit, .ref ple, .ref pri, .int (iI nu), .int (iI nl), .ref prf, .ref prt, .ref prw, .ref pir, .int (iI hl1), .int (iI fi), .int (iI la), .int (iI ov), .long (lI av), .long (lI bw), .ref pse, .ref psp, .int (iI hm1), .int (iI lc), .long (lI cst), .ref pbg, .ref pwk, .ref pgv, .long (lI fa), .long (lI fb), .ref pbc, .ref pbl, .ref pbe])), (pse, .inl (cI, 24, .inl (ai zf))), (psp, .inl (cJ, 24, .inr (.inl (al pf))))]) (va_runS (As := [.long (lI z1), .long (lI bw), .int (iI y)]) (rest := []) ⟨hx, hb, hml, hown, hts⟩ (c_M_part l D cI cJ cZ z1 bw y (by omega) (by omega) (by omega) (by omega) (by omega) (by omega) (by omega) H.size) (va_cwS 3 hts (gi_S tb_837 tb_838 tb_33 tb_839) rfl rfl rfl (by decide +kernel) ⟨Nat.le_of_ble_eq_true rfl, Nat.le_of_ble_eq_true rfl⟩) (pre_S hK hN hP hD [] rfl rfl) rfl rfl hl.1 rfl (lv_room (Nat.le_of_ble_eq_true rfl)) dqM_width_56 ⟨by first | omega | decide, by first | omega | decide⟩) hA hP hD hS [] [0, 1, 2] rfl rfl (by decide +kernel) (by decide +kernel) (fun z3 u4 H locs hw_z3 hP hD hS => ?_)
            have hP : va_P D vwCl [(mx, .inr (8, [.int (iI b), .int (iI mo), .int (iI n), .ref ptm, .ref plw, .ref pbr, .ref pit, .ref ple, .ref pri, .int (iI nu), .int (iI nl), .ref prf, .ref prt, .ref prw, .ref pir, .int (iI hl1), .int (iI fi), .int (iI la), .int (iI ov), .long (lI av), .long (lI bw), .ref pse, .ref psp, .int (iI hm1), .int (iI lc), .long (lI cst), .ref pbg, .ref pwk, .ref pgv, .long (lI fa), .long (lI fb), .ref pbc, .ref pbl, .ref pbe])), (pse, .inl (cI, 24, .inl (ai zf))), (psp, .inl (cJ, 24, .inr (.inl (al pf))))] H := hP
            have hD : va_D A [(mx, .inr (8, [.int (iI b), .int (iI mo), .int (iI n), .ref ptm, .ref plw, .ref pbr, .ref pit, .ref ple, .ref pri, .int (iI nu), .int (iI nl), .ref prf, .ref prt, .ref prw, .ref pir, .int (iI hl1), .int (iI fi), .int (iI la), .int (iI ov), .long (lI av), .long (lI bw), .ref pse, .ref psp, .int (iI hm1), .int (iI lc), .long (lI cst), .ref pbg, .ref pwk, .ref pgv, .long (lI fa), .long (lI fb), .ref pbc, .ref pbl, .ref pbe])), (pse, .inl (cI, 24, .inl (ai zf))), (psp, .inl (cJ, 24, .inr (.inl (al pf))))] := hD
            have hw_z3 : True := hw_z3
            exact hret H locs _ ls z3 () hS (by omega) hP hD dqM_width_59
          · refine lv_iload_n hx hb dqM_width_35 rfl (lv_at hl 2 rfl) ?_
            refine lv_iconst (v := iI 1) hx hb dqM_width_36 rfl ?_
            refine q_icmp_eq (tgt := 46) hx hb dqM_width_37 (by decide) (by omega) (by omega) (by omega) (by omega) (fun c_37 => ?_) (fun c_37 => ?_)
            · refine lv_aload_n hx hb dqM_width_46 rfl (lv_at hl 0 rfl) ?_
              refine lv_iload_n hx hb dqM_width_47 rfl (lv_at hl 1 rfl) ?_
              refine af_l (wr := []) (va_runV (As := [.int (iI x)]) (rest := []) ⟨hx, hb, hml, hown, hts⟩ (c_M_wide l D cI cJ cZ mx x b mo n ptm plw pbr pit ple pri nu nl prf prt prw pir hl1 fi la ov av bw pse psp hm1 lc cst pbg pwk pgv fa fb pbc pbl pbe zf pf (by omega) (by omega) H.size) (cwV 1 hts (gi_V tb_849 tb_851 tb_19 tb_33 tb_852) rfl rfl rfl (by decide +kernel) ⟨Nat.le_of_ble_eq_true rfl, Nat.le_of_ble_eq_true rfl⟩) (pre_V (ci := 8) (q0 := 0) hK hN hP hD [0, 1, 2] rfl rfl rfl rfl) rfl rfl hl.1 rfl (lv_room (Nat.le_of_ble_eq_true rfl)) dqM_width_48 ⟨by first | omega | decide, by first | omega | decide⟩) hA hP hD hS [0, 1, 2] [] rfl rfl (by decide +kernel) (by decide +kernel) (fun z5 u6 H locs hw_z5 hP hD hS => ?_)
              have hP : va_P D vwCl [(mx, .inr (8, [.int (iI b), .int (iI mo), .int (iI n), .ref ptm, .ref plw, .ref pbr, .ref pit, .ref ple, .ref pri, .int (iI nu), .int (iI nl), .ref prf, .ref prt, .ref prw, .ref pir, .int (iI hl1), .int (iI fi), .int (iI la), .int (iI ov), .long (lI av), .long (lI bw), .ref pse, .ref psp, .int (iI hm1), .int (iI lc), .long (lI cst), .ref pbg, .ref pwk, .ref pgv, .long (lI fa), .long (lI fb), .ref pbc, .ref pbl, .ref pbe])), (pse, .inl (cI, 24, .inl (ai zf))), (psp, .inl (cJ, 24, .inr (.inl (al pf))))] H := hP
              have hD : va_D A [(mx, .inr (8, [.int (iI b), .int (iI mo), .int (iI n), .ref ptm, .ref plw, .ref pbr, .ref pit, .ref ple, .ref pri, .int (iI nu), .int (iI nl), .ref prf, .ref prt, .ref prw, .ref pir, .int (iI hl1), .int (iI fi), .int (iI la), .int (iI ov), .long (lI av), .long (lI bw), .ref pse, .ref psp, .int (iI hm1), .int (iI lc), .long (lI cst), .ref pbg, .ref pwk, .ref pgv, .long (lI fa), .long (lI fb), .ref pbc, .ref pbl, .ref pbe])), (pse, .inl (cI, 24, .inl (ai zf))), (psp, .inl (cJ, 24, .inr (.inl (al pf))))] := hD
              have hw_z5 : -9223372036854775808 ≤ z5 ∧ z5 ≤ 9223372036854775807 := hw_z5
              refine lv_aload_n hx hb dqM_width_51 rfl (lv_at hl 0 rfl) ?_
              refine va_get (D := D) (ci := 8) (v := .long (lI bw)) (C := RqM) (T := TqM) (N := 34) hx hb hts (in_c inqM) hown hK hP 0 rfl rfl 20 (by decide) (hts (.fieldLink RqM 48 "SpringSpacesModel" "below" "J") (List.mem_cons_of_mem _ tb_658)) (fun _ h9 => h9) rfl dqM_width_52 ?_
              refine lv_iload_n hx hb dqM_width_55 rfl (lv_at hl 2 rfl) ?_
              refine af_l (wr := [(mx, .inr (8, [.int (iI b), .int (iI mo), .int (iI n), .ref ptm, .ref plw, .ref pbr, .ref pit, .ref ple, .ref pri, .int (iI nu), .int (iI nl), .ref prf, .ref prt, .ref prw, .ref pir, .int (iI hl1), .int (iI fi), .int (iI la), .int (iI ov), .long (lI av), .long (lI bw), .ref pse, .ref psp, .int (iI hm1), .int (iI lc), .long (lI cst), .ref pbg, .ref pwk, .ref pgv, .long (lI fa), .long (lI fb), .ref pbc, .ref pbl, .ref pbe])), (pse, .inl (cI, 24, .inl (ai zf))), (psp, .inl (cJ, 24, .inr (.inl (al pf))))]) (va_runS (As := [.long (lI z5), .long (lI bw), .int (iI y)]) (rest := []) ⟨hx, hb, hml, hown, hts⟩ (c_M_part l D cI cJ cZ z5 bw y (by omega) (by omega) (by omega) (by omega) (by omega) (by omega) (by omega) H.size) (va_cwS 3 hts (gi_S tb_837 tb_838 tb_33 tb_839) rfl rfl rfl (by decide +kernel) ⟨Nat.le_of_ble_eq_true rfl, Nat.le_of_ble_eq_true rfl⟩) (pre_S hK hN hP hD [] rfl rfl) rfl rfl hl.1 rfl (lv_room (Nat.le_of_ble_eq_true rfl)) dqM_width_56 ⟨by first | omega | decide, by first | omega | decide⟩) hA hP hD hS [] [0, 1, 2] rfl rfl (by decide +kernel) (by decide +kernel) (fun z7 u8 H locs hw_z7 hP hD hS => ?_)
              have hP : va_P D vwCl [(mx, .inr (8, [.int (iI b), .int (iI mo), .int (iI n), .ref ptm, .ref plw, .ref pbr, .ref pit, .ref ple, .ref pri, .int (iI nu), .int (iI nl), .ref prf, .ref prt, .ref prw, .ref pir, .int (iI hl1), .int (iI fi), .int (iI la), .int (iI ov), .long (lI av), .long (lI bw), .ref pse, .ref psp, .int (iI hm1), .int (iI lc), .long (lI cst), .ref pbg, .ref pwk, .ref pgv, .long (lI fa), .long (lI fb), .ref pbc, .ref pbl, .ref pbe])), (pse, .inl (cI, 24, .inl (ai zf))), (psp, .inl (cJ, 24, .inr (.inl (al pf))))] H := hP
              have hD : va_D A [(mx, .inr (8, [.int (iI b), .int (iI mo), .int (iI n), .ref ptm, .ref plw, .ref pbr, .ref pit, .ref ple, .ref pri, .int (iI nu), .int (iI nl), .ref prf, .ref prt, .ref prw, .ref pir, .int (iI hl1), .int (iI fi), .int (iI la), .int (iI ov), .long (lI av), .long (lI bw), .ref pse, .ref psp, .int (iI hm1), .int (iI lc), .long (lI cst), .ref pbg, .ref pwk, .ref pgv, .long (lI fa), .long (lI fb), .ref pbc, .ref pbl, .ref pbe])), (pse, .inl (cI, 24, .inl (ai zf))), (psp, .inl (cJ, 24, .inr (.inl (al pf))))] := hD
              have hw_z7 : True := hw_z7
              exact hret H locs _ ls z7 () hS (by omega) hP hD dqM_width_59
            · refine lv_ldc2 (v := (-2)) hx hb hown (hts (.constantLong RqM 100 (-2)) (List.mem_cons_of_mem _ tb_762)) dqM_width_40 ?_
              refine tp_l (y := lI (-2)) (by decide +kernel) ?_
              refine lv_goto (tgt := 59) hx hb dqM_width_43 (by decide) ?_
              exact hret H locs _ ls (-2) () hS (by omega) hP hD dqM_width_59
        · refine lv_ldc2 (v := (-1)) hx hb hown (hts (.constantLong RqM 162 (-1)) (List.mem_cons_of_mem _ tb_848)) dqM_width_27 ?_
          refine tp_l (y := lI (-1)) (by decide +kernel) ?_
          exact hret H locs _ ls (-1) () hS (by omega) hP hD dqM_width_30
    · refine lv_ldc2 (v := (-3)) hx hb hown (hts (.constantLong RqM 160 (-3)) (List.mem_cons_of_mem _ tb_843)) dqM_width_7 ?_
      refine tp_l (y := lI (-3)) (by decide +kernel) ?_
      exact hret H locs _ ls (-3) () hS (by omega) hP hD dqM_width_10
  rw [hH0, hL0] at goal
  exact goal
def rm_M_settled : Room := { frames := 0, cells := 0, slots := 0, locals := 0 }
set_option maxHeartbeats 4000000 in
set_option maxRecDepth 100000 in
theorem c_M_settled (l : Launch) (D : va_G) (cI cJ cZ : ClassId) (mx : Nat) (x : Int) (b : Int) (mo : Int) (n : Int) (ptm : Nat) (plw : Nat) (pbr : Nat) (pit : Nat) (ple : Nat) (pri : Nat) (nu : Int) (nl : Int) (prf : Nat) (prt : Nat) (prw : Nat) (pir : Nat) (hl1 : Int) (fi : Int) (la : Int) (ov : Int) (av : Int) (bw : Int) (pse : Nat) (psp : Nat) (hm1 : Int) (lc : Int) (cst : Int) (pbg : Nat) (pwk : Nat) (pgv : Nat) (fa : Int) (fb : Int) (pbc : Nat) (pbl : Nat) (pbe : Nat) (zf : Int → Int) (h1 : -2147483648 ≤ x) (h2 : x ≤ 2147483647) (hH : hl1 = 1 → 0 ≤ fi ∧ fi < la ∧ la ≤ 23 ∧ 1 ≤ bw ∧ bw ≤ 3221225472) (h4 : hl1 = 0 ∨ hl1 = 1) : Mi l yqM_settled wsqM_settled rm_M_settled D cI cJ cZ [.ref mx, .int (iI x)] [(mx, .inr (8, [.int (iI b), .int (iI mo), .int (iI n), .ref ptm, .ref plw, .ref pbr, .ref pit, .ref ple, .ref pri, .int (iI nu), .int (iI nl), .ref prf, .ref prt, .ref prw, .ref pir, .int (iI hl1), .int (iI fi), .int (iI la), .int (iI ov), .long (lI av), .long (lI bw), .ref pse, .ref psp, .int (iI hm1), .int (iI lc), .long (lI cst), .ref pbg, .ref pwk, .ref pgv, .long (lI fa), .long (lI fb), .ref pbc, .ref pbl, .ref pbe])), (pse, .inl (cI, 24, .inl (ai zf)))] (S := Unit) (fun z _ => hl1 = 0 → z = -3) (fun _ => [(mx, .inr (8, [.int (iI b), .int (iI mo), .int (iI n), .ref ptm, .ref plw, .ref pbr, .ref pit, .ref ple, .ref pri, .int (iI nu), .int (iI nl), .ref prf, .ref prt, .ref prw, .ref pir, .int (iI hl1), .int (iI fi), .int (iI la), .int (iI ov), .long (lI av), .long (lI bw), .ref pse, .ref psp, .int (iI hm1), .int (iI lc), .long (lI cst), .ref pbg, .ref pwk, .ref pgv, .long (lI fa), .long (lI fb), .ref pbc, .ref pbl, .ref pbe])), (pse, .inl (cI, 24, .inl (ai zf)))]) 0 0 := by
  refine en_i (cc := cqM_settled) (maxL := 2) (ty := .int) (by decide +kernel) rfl (Nat.le_of_ble_eq_true rfl) ?_
  intro p e s m args below meth c A Q hx hb hml hin hts hown hA hP hK hD hN hS hret ls hl
  have hl : lv_has ls 2 [(0, .ref mx), (1, .int (iI x))] := hl
  obtain ⟨H, hH0⟩ : ∃ H, H = s.heap := ⟨_, rfl⟩
  obtain ⟨locs, hL0⟩ : ∃ locs : List Loc, locs = [] := ⟨_, rfl⟩
  rw [← hH0] at hP
  have hS : va_S A s.heap H locs := by rw [hH0, hL0]; exact hS
  have goal : W p l e rm_M_settled s m args below meth c H locs 0 0 Q (F0 m 0 ls []) := by
    refine lv_aload_n hx hb dqM_settled_0 rfl (lv_at hl 0 rfl) ?_
    refine va_get (D := D) (ci := 8) (v := .int (iI hl1)) (C := RqM) (T := TqM) (N := 34) hx hb hts (in_c inqM) hown hK hP 0 rfl rfl 15 (by decide) (hts (.fieldLink RqM 77 "SpringSpacesModel" "hasLine" "Z") (List.mem_cons_of_mem _ tb_653)) (fun _ h9 => h9) rfl dqM_settled_1 ?_
    refine q_if_ne (tgt := 12) hx hb dqM_settled_4 (by decide) (by omega) (by omega) (fun c_4 => ?_) (fun c_4 => ?_)
    · have hh := hH (by omega)
      refine lv_iload_n hx hb dqM_settled_12 rfl (lv_at hl 1 rfl) ?_
      refine lv_aload_n hx hb dqM_settled_13 rfl (lv_at hl 0 rfl) ?_
      refine va_get (D := D) (ci := 8) (v := .int (iI fi)) (C := RqM) (T := TqM) (N := 34) hx hb hts (in_c inqM) hown hK hP 0 rfl rfl 16 (by decide) (hts (.fieldLink RqM 140 "SpringSpacesModel" "first" "I") (List.mem_cons_of_mem _ tb_654)) (fun _ h9 => h9) rfl dqM_settled_14 ?_
      refine q_icmp_lt (tgt := 28) hx hb dqM_settled_17 (by decide) (by omega) (by omega) (by omega) (by omega) (fun c_17 => ?_) (fun c_17 => ?_)
      · refine lv_iconst (v := iI (-1)) hx hb dqM_settled_28 rfl ?_
        refine lv_goto (tgt := 38) hx hb dqM_settled_29 (by decide) ?_
        exact hret H locs _ ls (-1) () rfl hS (by omega) hP hD dqM_settled_38
      · refine lv_iload_n hx hb dqM_settled_20 rfl (lv_at hl 1 rfl) ?_
        refine lv_aload_n hx hb dqM_settled_21 rfl (lv_at hl 0 rfl) ?_
        refine va_get (D := D) (ci := 8) (v := .int (iI la)) (C := RqM) (T := TqM) (N := 34) hx hb hts (in_c inqM) hown hK hP 0 rfl rfl 17 (by decide) (hts (.fieldLink RqM 143 "SpringSpacesModel" "last" "I") (List.mem_cons_of_mem _ tb_655)) (fun _ h9 => h9) rfl dqM_settled_22 ?_
        refine q_icmp_lt (tgt := 32) hx hb dqM_settled_25 (by decide) (by omega) (by omega) (by omega) (by omega) (fun c_25 => ?_) (fun c_25 => ?_)
        · refine lv_aload_n hx hb dqM_settled_32 rfl (lv_at hl 0 rfl) ?_
          refine va_get (D := D) (ci := 8) (v := .ref pse) (C := RqM) (T := TqM) (N := 34) hx hb hts (in_c inqM) hown hK hP 0 rfl rfl 21 (by decide) (hts (.fieldLink RqM 52 "SpringSpacesModel" "settled" "[I") (List.mem_cons_of_mem _ tb_659)) (fun _ h9 => h9) rfl dqM_settled_33 ?_
          refine lv_iload_n hx hb dqM_settled_36 rfl (lv_at hl 1 rfl) ?_
          refine q_iald (i := x) hx hb hK hP 1 0 rfl rfl (by omega) (by omega) (by omega) dqM_settled_37 ?_
          exact hret H locs _ ls (zf x) () rfl hS (by omega) hP hD dqM_settled_38
        · refine lv_iconst (v := iI (-1)) hx hb dqM_settled_28 rfl ?_
          refine lv_goto (tgt := 38) hx hb dqM_settled_29 (by decide) ?_
          exact hret H locs _ ls (-1) () rfl hS (by omega) hP hD dqM_settled_38
    · refine lv_bipush (v := iI (-3)) hx hb dqM_settled_7 (by decide +kernel) ?_
      refine lv_goto (tgt := 38) hx hb dqM_settled_9 (by decide) ?_
      exact hret H locs _ ls (-3) () rfl hS (by omega) hP hD dqM_settled_38
  rw [hH0, hL0] at goal
  exact goal
def rm_M_before : Room := { frames := 1, cells := 0, slots := 0, locals := 25 }
set_option maxHeartbeats 4000000 in
set_option maxRecDepth 100000 in
theorem c_M_before (l : Launch) (D : va_G) (cI cJ cZ : ClassId) (mx : Nat) (x : Int) (b : Int) (mo : Int) (n : Int) (ptm : Nat) (plw : Nat) (pbr : Nat) (pit : Nat) (ple : Nat) (pri : Nat) (nu : Int) (nl : Int) (prf : Nat) (prt : Nat) (prw : Nat) (pir : Nat) (hl1 : Int) (fi : Int) (la : Int) (ov : Int) (av : Int) (bw : Int) (pse : Nat) (psp : Nat) (hm1 : Int) (lc : Int) (cst : Int) (pbg : Nat) (pwk : Nat) (pgv : Nat) (fa : Int) (fb : Int) (pbc : Nat) (pbl : Nat) (pbe : Nat) (zf : Int → Int) (pf : Int → Int) (h1 : 0 ≤ fi) (h2 : fi ≤ 23) (h3 : -2147483648 ≤ x) (h4 : x ≤ 24) : Ml l yqM_before wsqM_before rm_M_before D cI cJ cZ [.ref mx, .int (iI x)] [(mx, .inr (8, [.int (iI b), .int (iI mo), .int (iI n), .ref ptm, .ref plw, .ref pbr, .ref pit, .ref ple, .ref pri, .int (iI nu), .int (iI nl), .ref prf, .ref prt, .ref prw, .ref pir, .int (iI hl1), .int (iI fi), .int (iI la), .int (iI ov), .long (lI av), .long (lI bw), .ref pse, .ref psp, .int (iI hm1), .int (iI lc), .long (lI cst), .ref pbg, .ref pwk, .ref pgv, .long (lI fa), .long (lI fb), .ref pbc, .ref pbl, .ref pbe])), (pse, .inl (cI, 24, .inl (ai zf))), (psp, .inl (cJ, 24, .inr (.inl (al pf))))] (S := Unit) (fun z _ => -9223372036854775808 ≤ z ∧ z ≤ 9223372036854775807) (fun _ => [(mx, .inr (8, [.int (iI b), .int (iI mo), .int (iI n), .ref ptm, .ref plw, .ref pbr, .ref pit, .ref ple, .ref pri, .int (iI nu), .int (iI nl), .ref prf, .ref prt, .ref prw, .ref pir, .int (iI hl1), .int (iI fi), .int (iI la), .int (iI ov), .long (lI av), .long (lI bw), .ref pse, .ref psp, .int (iI hm1), .int (iI lc), .long (lI cst), .ref pbg, .ref pwk, .ref pgv, .long (lI fa), .long (lI fb), .ref pbc, .ref pbl, .ref pbe])), (pse, .inl (cI, 24, .inl (ai zf))), (psp, .inl (cJ, 24, .inr (.inl (al pf))))]) 0 0 := by
  refine en_l (cc := cqM_before) (maxL := 5) (by decide +kernel) rfl (Nat.le_of_ble_eq_true rfl) ?_
  intro p e s m args below meth c A Q hx hb hml hin hts hown hA hP hK hD hN hS hret ls hl
  have hl : lv_has ls 5 [(0, .ref mx), (1, .int (iI x))] := hl
  obtain ⟨H, hH0⟩ : ∃ H, H = s.heap := ⟨_, rfl⟩
  obtain ⟨locs, hL0⟩ : ∃ locs : List Loc, locs = [] := ⟨_, rfl⟩
  rw [← hH0] at hP
  have hS : va_S A s.heap H locs := by rw [hH0, hL0]; exact hS
  have goal : W p l e rm_M_before s m args below meth c H locs 0 0 Q (F0 m 0 ls []) := by
    refine lv_lconst (v := lI 0) hx hb dqM_before_0 (by decide +kernel) ?_
    refine lv_lstore_n (lv' := [(2, .long (lI 0)), (0, .ref mx), (1, .int (iI x))]) hx hb dqM_before_1 rfl hl (by decide) rfl (fun ls hl => ?_)
    refine lv_aload_n hx hb dqM_before_2 rfl (lv_at hl 1 rfl) ?_
    refine va_get (D := D) (ci := 8) (v := .int (iI fi)) (C := RqM) (T := TqM) (N := 34) hx hb hts (in_c inqM) hown hK hP 0 rfl rfl 16 (by decide) (hts (.fieldLink RqM 140 "SpringSpacesModel" "first" "I") (List.mem_cons_of_mem _ tb_654)) (fun _ h9 => h9) rfl dqM_before_3 ?_
    refine lv_istore (lv' := [(4, .int (iI fi)), (2, .long (lI 0)), (0, .ref mx), (1, .int (iI x))]) hx hb dqM_before_6 hl (by decide) rfl (fun ls hl => ?_)
    have loop_8 : ∀ (n9 : Nat), ∀ (sm : Int) (k : Int) (H : Heap) (locs : List Loc) (ls : Array Slot), (-9223372036854775808 ≤ sm) → (sm ≤ 9223372036854775807) → (0 ≤ k) → (k ≤ 24) → ((x - k).toNat < n9) → va_P D vwCl [(mx, .inr (8, [.int (iI b), .int (iI mo), .int (iI n), .ref ptm, .ref plw, .ref pbr, .ref pit, .ref ple, .ref pri, .int (iI nu), .int (iI nl), .ref prf, .ref prt, .ref prw, .ref pir, .int (iI hl1), .int (iI fi), .int (iI la), .int (iI ov), .long (lI av), .long (lI bw), .ref pse, .ref psp, .int (iI hm1), .int (iI lc), .long (lI cst), .ref pbg, .ref pwk, .ref pgv, .long (lI fa), .long (lI fb), .ref pbc, .ref pbl, .ref pbe])), (pse, .inl (cI, 24, .inl (ai zf))), (psp, .inl (cJ, 24, .inr (.inl (al pf))))] H → va_D A [(mx, .inr (8, [.int (iI b), .int (iI mo), .int (iI n), .ref ptm, .ref plw, .ref pbr, .ref pit, .ref ple, .ref pri, .int (iI nu), .int (iI nl), .ref prf, .ref prt, .ref prw, .ref pir, .int (iI hl1), .int (iI fi), .int (iI la), .int (iI ov), .long (lI av), .long (lI bw), .ref pse, .ref psp, .int (iI hm1), .int (iI lc), .long (lI cst), .ref pbg, .ref pwk, .ref pgv, .long (lI fa), .long (lI fb), .ref pbc, .ref pbl, .ref pbe])), (pse, .inl (cI, 24, .inl (ai zf))), (psp, .inl (cJ, 24, .inr (.inl (al pf))))] → va_S A s.heap H locs → lv_has ls 5 [(4, .int (iI k)), (2, .long (lI sm)), (0, .ref mx), (1, .int (iI x))] → W p l e rm_M_before s m args below meth c H locs 0 0 Q (F0 m 8 ls []) := by
      intro n9
      induction n9 with
      | zero =>
        intro sm k H locs ls s1 s2 k1 k2 hm9
        exact absurd hm9 (by omega)
      | succ n9 ih_8 =>
        intro sm k H locs ls s1 s2 k1 k2 hm9 hP hD hS hl
        refine lv_iload hx hb dqM_before_8 (lv_at hl 0 rfl) ?_
        refine lv_iload_n hx hb dqM_before_10 rfl (lv_at hl 3 rfl) ?_
        refine q_icmp_ge (tgt := 29) hx hb dqM_before_11 (by decide) (by omega) (by omega) (by omega) (by omega) (fun c_11 => ?_) (fun c_11 => ?_)
        · refine lv_lload_n hx hb dqM_before_29 rfl (lv_at hl 1 rfl) ?_
          exact hret H locs _ ls sm () hS (by first | rfl | trivial | omega | exact bl_y (by omega) | exact bl_n (by omega) | (apply Or.inl; (and_intros <;> first | rfl | omega)) | (apply Or.inr; apply Or.inl; (and_intros <;> first | rfl | omega)) | (apply Or.inr; (and_intros <;> first | rfl | omega)) | (apply Or.inr; apply Or.inr; apply Or.inl; (and_intros <;> first | rfl | omega)) | (apply Or.inr; apply Or.inr; (and_intros <;> first | rfl | omega)) | (apply Or.inr; apply Or.inr; apply Or.inr; apply Or.inl; (and_intros <;> first | rfl | omega)) | (apply Or.inr; apply Or.inr; apply Or.inr; (and_intros <;> first | rfl | omega)) | (apply Or.inr; apply Or.inr; apply Or.inr; apply Or.inr; apply Or.inl; (and_intros <;> first | rfl | omega)) | (apply Or.inr; apply Or.inr; apply Or.inr; apply Or.inr; (and_intros <;> first | rfl | omega))) hP hD dqM_before_30
        · refine lv_lload_n hx hb dqM_before_14 rfl (lv_at hl 1 rfl) ?_
          refine lv_aload_n hx hb dqM_before_15 rfl (lv_at hl 2 rfl) ?_
          refine lv_iload hx hb dqM_before_16 (lv_at hl 0 rfl) ?_
          refine af_l (wr := []) (va_runV (As := [.int (iI k)]) (rest := [.long (lI sm)]) ⟨hx, hb, hml, hown, hts⟩ (c_M_wide l D cI cJ cZ mx k b mo n ptm plw pbr pit ple pri nu nl prf prt prw pir hl1 fi la ov av bw pse psp hm1 lc cst pbg pwk pgv fa fb pbc pbl pbe zf pf (by omega) (by omega) H.size) (cwV 1 hts (gi_V tb_849 tb_851 tb_19 tb_33 tb_852) rfl rfl rfl (by decide +kernel) ⟨Nat.le_of_ble_eq_true rfl, Nat.le_of_ble_eq_true rfl⟩) (pre_V (ci := 8) (q0 := 0) hK hN hP hD [0, 1, 2] rfl rfl rfl rfl) rfl rfl hl.1 rfl (lv_room (Nat.le_of_ble_eq_true rfl)) dqM_before_18 ⟨by first | omega | decide, by first | omega | decide⟩) hA hP hD hS [0, 1, 2] [] rfl rfl (by decide +kernel) (by decide +kernel) (fun z1 u2 H locs hw_z1 hP hD hS => ?_)
          have hP : va_P D vwCl [(mx, .inr (8, [.int (iI b), .int (iI mo), .int (iI n), .ref ptm, .ref plw, .ref pbr, .ref pit, .ref ple, .ref pri, .int (iI nu), .int (iI nl), .ref prf, .ref prt, .ref prw, .ref pir, .int (iI hl1), .int (iI fi), .int (iI la), .int (iI ov), .long (lI av), .long (lI bw), .ref pse, .ref psp, .int (iI hm1), .int (iI lc), .long (lI cst), .ref pbg, .ref pwk, .ref pgv, .long (lI fa), .long (lI fb), .ref pbc, .ref pbl, .ref pbe])), (pse, .inl (cI, 24, .inl (ai zf))), (psp, .inl (cJ, 24, .inr (.inl (al pf))))] H := hP
          have hD : va_D A [(mx, .inr (8, [.int (iI b), .int (iI mo), .int (iI n), .ref ptm, .ref plw, .ref pbr, .ref pit, .ref ple, .ref pri, .int (iI nu), .int (iI nl), .ref prf, .ref prt, .ref prw, .ref pir, .int (iI hl1), .int (iI fi), .int (iI la), .int (iI ov), .long (lI av), .long (lI bw), .ref pse, .ref psp, .int (iI hm1), .int (iI lc), .long (lI cst), .ref pbg, .ref pwk, .ref pgv, .long (lI fa), .long (lI fb), .ref pbc, .ref pbl, .ref pbe])), (pse, .inl (cI, 24, .inl (ai zf))), (psp, .inl (cJ, 24, .inr (.inl (al pf))))] := hD
          have hw_z1 : -9223372036854775808 ≤ z1 ∧ z1 ≤ 9223372036854775807 := hw_z1
          refine q_ladd hx hb dqM_before_21 ?_
          refine hv_l (fun v3 v3a v3b => ?_)
          refine lv_lstore_n (lv' := [(2, .long (lI v3)), (4, .int (iI k)), (0, .ref mx), (1, .int (iI x))]) hx hb dqM_before_22 rfl hl (by decide) rfl (fun ls hl => ?_)
          refine lv_iinc (v := iI (k + 1)) (lv' := [(4, .int (iI (k + 1))), (2, .long (lI v3)), (0, .ref mx), (1, .int (iI x))]) hx hb dqM_before_23 hl (k := 1) rfl (iI_add _ _) (by decide) rfl (fun ls hl => ?_)
          refine lv_goto (tgt := 8) hx hb dqM_before_26 (by decide) ?_
          exact ih_8 v3 (k + 1) H locs ls (by omega) (by omega) (by omega) (by omega) (by omega) hP hD hS (lv_sub hl [0, 1, 2, 3] rfl)
    exact loop_8 (Int.toNat (x - fi) + 1) 0 fi H locs ls (by omega) (by omega) (by omega) (by omega) (by omega) hP hD hS (lv_sub hl [0, 1, 2, 3] rfl)
  rw [hH0, hL0] at goal
  exact goal
def rm_M_place : Room := { frames := 2, cells := 0, slots := 0, locals := 49 }
set_option maxHeartbeats 4000000 in
set_option maxRecDepth 100000 in
theorem c_M_place (l : Launch) (D : va_G) (cI cJ cZ : ClassId) (mx : Nat) (x : Int) (b : Int) (mo : Int) (n : Int) (ptm : Nat) (plw : Nat) (pbr : Nat) (pit : Nat) (ple : Nat) (pri : Nat) (nu : Int) (nl : Int) (prf : Nat) (prt : Nat) (prw : Nat) (pir : Nat) (hl1 : Int) (fi : Int) (la : Int) (ov : Int) (av : Int) (bw : Int) (pse : Nat) (psp : Nat) (hm1 : Int) (lc : Int) (cst : Int) (pbg : Nat) (pwk : Nat) (pgv : Nat) (fa : Int) (fb : Int) (pbc : Nat) (pbl : Nat) (pbe : Nat) (zf : Int → Int) (pf : Int → Int) (h1 : -2147483648 ≤ x) (h2 : x ≤ 2147483647) (hH : hl1 = 1 → 0 ≤ fi ∧ fi < la ∧ la ≤ 23 ∧ 1 ≤ bw ∧ bw ≤ 3221225472) (h4 : hl1 = 0 ∨ hl1 = 1) : Mi l yqM_place wsqM_place rm_M_place D cI cJ cZ [.ref mx, .int (iI x)] [(mx, .inr (8, [.int (iI b), .int (iI mo), .int (iI n), .ref ptm, .ref plw, .ref pbr, .ref pit, .ref ple, .ref pri, .int (iI nu), .int (iI nl), .ref prf, .ref prt, .ref prw, .ref pir, .int (iI hl1), .int (iI fi), .int (iI la), .int (iI ov), .long (lI av), .long (lI bw), .ref pse, .ref psp, .int (iI hm1), .int (iI lc), .long (lI cst), .ref pbg, .ref pwk, .ref pgv, .long (lI fa), .long (lI fb), .ref pbc, .ref pbl, .ref pbe])), (pse, .inl (cI, 24, .inl (ai zf))), (psp, .inl (cJ, 24, .inr (.inl (al pf))))] (S := Unit) (fun z _ => hl1 = 0 → z = -3) (fun _ => [(mx, .inr (8, [.int (iI b), .int (iI mo), .int (iI n), .ref ptm, .ref plw, .ref pbr, .ref pit, .ref ple, .ref pri, .int (iI nu), .int (iI nl), .ref prf, .ref prt, .ref prw, .ref pir, .int (iI hl1), .int (iI fi), .int (iI la), .int (iI ov), .long (lI av), .long (lI bw), .ref pse, .ref psp, .int (iI hm1), .int (iI lc), .long (lI cst), .ref pbg, .ref pwk, .ref pgv, .long (lI fa), .long (lI fb), .ref pbc, .ref pbl, .ref pbe])), (pse, .inl (cI, 24, .inl (ai zf))), (psp, .inl (cJ, 24, .inr (.inl (al pf))))]) 0 0 := by
  refine en_i (cc := cqM_place) (maxL := 2) (ty := .int) (by decide +kernel) rfl (Nat.le_of_ble_eq_true rfl) ?_
  intro p e s m args below meth c A Q hx hb hml hin hts hown hA hP hK hD hN hS hret ls hl
  have hl : lv_has ls 2 [(0, .ref mx), (1, .int (iI x))] := hl
  obtain ⟨H, hH0⟩ : ∃ H, H = s.heap := ⟨_, rfl⟩
  obtain ⟨locs, hL0⟩ : ∃ locs : List Loc, locs = [] := ⟨_, rfl⟩
  rw [← hH0] at hP
  have hS : va_S A s.heap H locs := by rw [hH0, hL0]; exact hS
  have goal : W p l e rm_M_place s m args below meth c H locs 0 0 Q (F0 m 0 ls []) := by
    refine lv_aload_n hx hb dqM_place_0 rfl (lv_at hl 0 rfl) ?_
    refine va_get (D := D) (ci := 8) (v := .int (iI hl1)) (C := RqM) (T := TqM) (N := 34) hx hb hts (in_c inqM) hown hK hP 0 rfl rfl 15 (by decide) (hts (.fieldLink RqM 77 "SpringSpacesModel" "hasLine" "Z") (List.mem_cons_of_mem _ tb_653)) (fun _ h9 => h9) rfl dqM_place_1 ?_
    refine q_if_ne (tgt := 12) hx hb dqM_place_4 (by decide) (by omega) (by omega) (fun c_4 => ?_) (fun c_4 => ?_)
    · have hh := hH (by omega)
      refine lv_iload_n hx hb dqM_place_12 rfl (lv_at hl 1 rfl) ?_
      refine lv_aload_n hx hb dqM_place_13 rfl (lv_at hl 0 rfl) ?_
      refine va_get (D := D) (ci := 8) (v := .int (iI fi)) (C := RqM) (T := TqM) (N := 34) hx hb hts (in_c inqM) hown hK hP 0 rfl rfl 16 (by decide) (hts (.fieldLink RqM 140 "SpringSpacesModel" "first" "I") (List.mem_cons_of_mem _ tb_654)) (fun _ h9 => h9) rfl dqM_place_14 ?_
      refine q_icmp_lt (tgt := 28) hx hb dqM_place_17 (by decide) (by omega) (by omega) (by omega) (by omega) (fun c_17 => ?_) (fun c_17 => ?_)
      · refine lv_iconst (v := iI (-1)) hx hb dqM_place_28 rfl ?_
        refine lv_goto (tgt := 43) hx hb dqM_place_29 (by decide) ?_
        exact hret H locs _ ls (-1) () rfl hS (by omega) hP hD dqM_place_43
      · refine lv_iload_n hx hb dqM_place_20 rfl (lv_at hl 1 rfl) ?_
        refine lv_aload_n hx hb dqM_place_21 rfl (lv_at hl 0 rfl) ?_
        refine va_get (D := D) (ci := 8) (v := .int (iI la)) (C := RqM) (T := TqM) (N := 34) hx hb hts (in_c inqM) hown hK hP 0 rfl rfl 17 (by decide) (hts (.fieldLink RqM 143 "SpringSpacesModel" "last" "I") (List.mem_cons_of_mem _ tb_655)) (fun _ h9 => h9) rfl dqM_place_22 ?_
        refine q_icmp_le (tgt := 32) hx hb dqM_place_25 (by decide) (by omega) (by omega) (by omega) (by omega) (fun c_25 => ?_) (fun c_25 => ?_)
        · refine lv_aload_n hx hb dqM_place_32 rfl (lv_at hl 0 rfl) ?_
          refine lv_iload_n hx hb dqM_place_33 rfl (lv_at hl 1 rfl) ?_
          refine af_l (wr := []) (va_runV (As := [.int (iI x)]) (rest := []) ⟨hx, hb, hml, hown, hts⟩ (c_M_before l D cI cJ cZ mx x b mo n ptm plw pbr pit ple pri nu nl prf prt prw pir hl1 fi la ov av bw pse psp hm1 lc cst pbg pwk pgv fa fb pbc pbl pbe zf pf (by omega) (by omega) (by omega) (by omega) H.size) (cwV 1 hts (gi_V tb_861 tb_863 tb_20 tb_33 tb_864) rfl rfl rfl (by decide +kernel) ⟨Nat.le_of_ble_eq_true rfl, Nat.le_of_ble_eq_true rfl⟩) (pre_V (ci := 8) (q0 := 0) hK hN hP hD [0, 1, 2] rfl rfl rfl rfl) rfl rfl hl.1 rfl (lv_room (Nat.le_of_ble_eq_true rfl)) dqM_place_34 ⟨by first | omega | decide, by first | omega | decide⟩) hA hP hD hS [0, 1, 2] [] rfl rfl (by decide +kernel) (by decide +kernel) (fun z1 u2 H locs hw_z1 hP hD hS => ?_)
          have hP : va_P D vwCl [(mx, .inr (8, [.int (iI b), .int (iI mo), .int (iI n), .ref ptm, .ref plw, .ref pbr, .ref pit, .ref ple, .ref pri, .int (iI nu), .int (iI nl), .ref prf, .ref prt, .ref prw, .ref pir, .int (iI hl1), .int (iI fi), .int (iI la), .int (iI ov), .long (lI av), .long (lI bw), .ref pse, .ref psp, .int (iI hm1), .int (iI lc), .long (lI cst), .ref pbg, .ref pwk, .ref pgv, .long (lI fa), .long (lI fb), .ref pbc, .ref pbl, .ref pbe])), (pse, .inl (cI, 24, .inl (ai zf))), (psp, .inl (cJ, 24, .inr (.inl (al pf))))] H := hP
          have hD : va_D A [(mx, .inr (8, [.int (iI b), .int (iI mo), .int (iI n), .ref ptm, .ref plw, .ref pbr, .ref pit, .ref ple, .ref pri, .int (iI nu), .int (iI nl), .ref prf, .ref prt, .ref prw, .ref pir, .int (iI hl1), .int (iI fi), .int (iI la), .int (iI ov), .long (lI av), .long (lI bw), .ref pse, .ref psp, .int (iI hm1), .int (iI lc), .long (lI cst), .ref pbg, .ref pwk, .ref pgv, .long (lI fa), .long (lI fb), .ref pbc, .ref pbl, .ref pbe])), (pse, .inl (cI, 24, .inl (ai zf))), (psp, .inl (cJ, 24, .inr (.inl (al pf))))] := hD
          have hw_z1 : -9223372036854775808 ≤ z1 ∧ z1 ≤ 9223372036854775807 := hw_z1
          refine lv_aload_n hx hb dqM_place_37 rfl (lv_at hl 0 rfl) ?_
          refine va_get (D := D) (ci := 8) (v := .long (lI bw)) (C := RqM) (T := TqM) (N := 34) hx hb hts (in_c inqM) hown hK hP 0 rfl rfl 20 (by decide) (hts (.fieldLink RqM 48 "SpringSpacesModel" "below" "J") (List.mem_cons_of_mem _ tb_658)) (fun _ h9 => h9) rfl dqM_place_38 ?_
          refine q_ldiv_w hx hb dqM_place_41 (by omega) (by omega) (by omega) (fun v3 v3a v3b => ?_)
          refine q_l2i hx hb dqM_place_42 ?_
          exact hret H locs _ ls v3 () rfl hS (by omega) hP hD dqM_place_43
        · refine lv_iconst (v := iI (-1)) hx hb dqM_place_28 rfl ?_
          refine lv_goto (tgt := 43) hx hb dqM_place_29 (by decide) ?_
          exact hret H locs _ ls (-1) () rfl hS (by omega) hP hD dqM_place_43
    · refine lv_bipush (v := iI (-3)) hx hb dqM_place_7 (by decide +kernel) ?_
      refine lv_goto (tgt := 43) hx hb dqM_place_9 (by decide) ?_
      exact hret H locs _ ls (-3) () rfl hS (by omega) hP hD dqM_place_43
  rw [hH0, hL0] at goal
  exact goal
