def rm_M_hasSpring : Room := { frames := 0, cells := 0, slots := 0, locals := 0 }
set_option maxHeartbeats 4000000 in
set_option maxRecDepth 100000 in
theorem c_M_hasSpring (l : Launch) (D : va_G) (cI cJ cZ : ClassId) (mx : Nat) (f : Int) (g : Int) (b : Int) (mo : Int) (n : Int) (ptm : Nat) (plw : Nat) (pbr : Nat) (pit : Nat) (ple : Nat) (pri : Nat) (nu : Int) (nl : Int) (prf : Nat) (prt : Nat) (prw : Nat) (pir : Nat) (hl1 : Int) (fi : Int) (la : Int) (ov : Int) (av : Int) (bw : Int) (pse : Nat) (psp : Nat) (hm1 : Int) (lc : Int) (cst : Int) (pbg : Nat) (pwk : Nat) (pgv : Nat) (fa : Int) (fb : Int) (pbc : Nat) (pbl : Nat) (pbe : Nat) (pf : Int → Int) (h1 : 0 ≤ f) (h2 : f ≤ 24) (h3 : -2147483648 ≤ g) (h4 : g ≤ 24) (hSP : SPB pf) : Mi l yqM_hasSpring wsqM_hasSpring rm_M_hasSpring D cI cJ cZ [.ref mx, .int (iI f), .int (iI g)] [(mx, .inr (8, [.int (iI b), .int (iI mo), .int (iI n), .ref ptm, .ref plw, .ref pbr, .ref pit, .ref ple, .ref pri, .int (iI nu), .int (iI nl), .ref prf, .ref prt, .ref prw, .ref pir, .int (iI hl1), .int (iI fi), .int (iI la), .int (iI ov), .long (lI av), .long (lI bw), .ref pse, .ref psp, .int (iI hm1), .int (iI lc), .long (lI cst), .ref pbg, .ref pwk, .ref pgv, .long (lI fa), .long (lI fb), .ref pbc, .ref pbl, .ref pbe])), (psp, .inl (cJ, 24, .inr (.inl (al pf))))] (S := Unit) (fun z _ => bl z (∃ j, f ≤ j ∧ j < g ∧ 0 < pf j)) (fun _ => [(mx, .inr (8, [.int (iI b), .int (iI mo), .int (iI n), .ref ptm, .ref plw, .ref pbr, .ref pit, .ref ple, .ref pri, .int (iI nu), .int (iI nl), .ref prf, .ref prt, .ref prw, .ref pir, .int (iI hl1), .int (iI fi), .int (iI la), .int (iI ov), .long (lI av), .long (lI bw), .ref pse, .ref psp, .int (iI hm1), .int (iI lc), .long (lI cst), .ref pbg, .ref pwk, .ref pgv, .long (lI fa), .long (lI fb), .ref pbc, .ref pbl, .ref pbe])), (psp, .inl (cJ, 24, .inr (.inl (al pf))))]) 0 0 := by
  refine en_i (cc := cqM_hasSpring) (maxL := 4) (ty := .boolean) (by decide +kernel) rfl (Nat.le_of_ble_eq_true rfl) ?_
  intro p e s m args below meth c A Q hx hb hml hin hts hown hA hP hK hD hN hS hret ls hl
  have hl : lv_has ls 4 [(0, .ref mx), (1, .int (iI f)), (2, .int (iI g))] := hl
  obtain ⟨H, hH0⟩ : ∃ H, H = s.heap := ⟨_, rfl⟩
  obtain ⟨locs, hL0⟩ : ∃ locs : List Loc, locs = [] := ⟨_, rfl⟩
  rw [← hH0] at hP
  have hS : va_S A s.heap H locs := by rw [hH0, hL0]; exact hS
  have goal : W p l e rm_M_hasSpring s m args below meth c H locs 0 0 Q (F0 m 0 ls []) := by
    refine lv_iload_n hx hb dqM_hasSpring_0 rfl (lv_at hl 1 rfl) ?_
    refine lv_istore_n (lv' := [(3, .int (iI f)), (0, .ref mx), (1, .int (iI f)), (2, .int (iI g))]) hx hb dqM_hasSpring_1 rfl hl (by decide) rfl (fun ls hl => ?_)
    have loop_2 : ∀ (n9 : Nat), ∀ (k : Int) (H : Heap) (locs : List Loc) (ls : Array Slot), (f ≤ k) → (k ≤ 24) → (∀ j, f ≤ j → j < k → ¬ 0 < pf j) → ((g - k).toNat < n9) → va_P D vwCl [(mx, .inr (8, [.int (iI b), .int (iI mo), .int (iI n), .ref ptm, .ref plw, .ref pbr, .ref pit, .ref ple, .ref pri, .int (iI nu), .int (iI nl), .ref prf, .ref prt, .ref prw, .ref pir, .int (iI hl1), .int (iI fi), .int (iI la), .int (iI ov), .long (lI av), .long (lI bw), .ref pse, .ref psp, .int (iI hm1), .int (iI lc), .long (lI cst), .ref pbg, .ref pwk, .ref pgv, .long (lI fa), .long (lI fb), .ref pbc, .ref pbl, .ref pbe])), (psp, .inl (cJ, 24, .inr (.inl (al pf))))] H → va_D A [(mx, .inr (8, [.int (iI b), .int (iI mo), .int (iI n), .ref ptm, .ref plw, .ref pbr, .ref pit, .ref ple, .ref pri, .int (iI nu), .int (iI nl), .ref prf, .ref prt, .ref prw, .ref pir, .int (iI hl1), .int (iI fi), .int (iI la), .int (iI ov), .long (lI av), .long (lI bw), .ref pse, .ref psp, .int (iI hm1), .int (iI lc), .long (lI cst), .ref pbg, .ref pwk, .ref pgv, .long (lI fa), .long (lI fb), .ref pbc, .ref pbl, .ref pbe])), (psp, .inl (cJ, 24, .inr (.inl (al pf))))] → va_S A s.heap H locs → lv_has ls 4 [(3, .int (iI k)), (0, .ref mx), (1, .int (iI f)), (2, .int (iI g))] → W p l e rm_M_hasSpring s m args below meth c H locs 0 0 Q (F0 m 2 ls []) := by
      intro n9
      induction n9 with
      | zero =>
        intro k H locs ls k1 k2 hq hm9
        exact absurd hm9 (by omega)
      | succ n9 ih_2 =>
        intro k H locs ls k1 k2 hq hm9 hP hD hS hl
        refine lv_iload_n hx hb dqM_hasSpring_2 rfl (lv_at hl 0 rfl) ?_
        refine lv_iload_n hx hb dqM_hasSpring_3 rfl (lv_at hl 3 rfl) ?_
        refine q_icmp_ge (tgt := 26) hx hb dqM_hasSpring_4 (by decide) (by omega) (by omega) (by omega) (by omega) (fun c_4 => ?_) (fun c_4 => ?_)
        · refine lv_iconst (v := iI 0) hx hb dqM_hasSpring_26 rfl ?_
          exact hret H locs _ ls 0 () (narrow_z (by omega)) hS (bl_n (fun ⟨j, a, b, q⟩ => hq j a (by omega) q)) hP hD dqM_hasSpring_27
        · have s9 := hSP k (by omega) (by omega)
          refine lv_aload_n hx hb dqM_hasSpring_7 rfl (lv_at hl 1 rfl) ?_
          refine va_get (D := D) (ci := 8) (v := .ref psp) (C := RqM) (T := TqM) (N := 34) hx hb hts (in_c inqM) hown hK hP 0 rfl rfl 22 (by decide) (hts (.fieldLink RqM 55 "SpringSpacesModel" "springs" "[J") (List.mem_cons_of_mem _ tb_660)) (fun _ h9 => h9) rfl dqM_hasSpring_8 ?_
          refine lv_iload_n hx hb dqM_hasSpring_11 rfl (lv_at hl 0 rfl) ?_
          refine q_lald (i := k) hx hb hK hP 1 1 rfl rfl (by omega) (by omega) (by omega) dqM_hasSpring_12 ?_
          refine lv_lconst (v := lI 0) hx hb dqM_hasSpring_13 (by decide +kernel) ?_
          refine q_lcmp_le (tgt := 20) hx hb dqM_hasSpring_14 dqM_hasSpring_15 (by decide) (by omega) (by omega) (by omega) (by omega) (fun c_14 => ?_) (fun c_14 => ?_)
          · refine lv_iinc (v := iI (k + 1)) (lv' := [(3, .int (iI (k + 1))), (0, .ref mx), (1, .int (iI f)), (2, .int (iI g))]) hx hb dqM_hasSpring_20 hl (k := 0) rfl (iI_add _ _) (by decide) rfl (fun ls hl => ?_)
            refine lv_goto (tgt := 2) hx hb dqM_hasSpring_23 (by decide) ?_
            exact ih_2 (k + 1) H locs ls (by omega) (by omega) (fun j a b => by
            by_cases e : j = k
            · rw [e]; omega
            · exact hq j a (by omega)) (by omega) hP hD hS (lv_sub hl [0, 1, 2, 3] rfl)
          · refine lv_iconst (v := iI 1) hx hb dqM_hasSpring_18 rfl ?_
            exact hret H locs _ ls 1 () (narrow_z (by omega)) hS (bl_y ⟨k, by omega, by omega, by omega⟩) hP hD dqM_hasSpring_19
    exact loop_2 (Int.toNat (g - f) + 1) f H locs ls (by omega) (by omega) (fun j a b => by omega) (by omega) hP hD hS (lv_sub hl [0, 1, 2, 3] rfl)
  rw [hH0, hL0] at goal
  exact goal
def rm_M_findForce : Room := { frames := 1, cells := 0, slots := 0, locals := 24 }
set_option maxHeartbeats 4000000 in
set_option maxRecDepth 100000 in
theorem c_M_findForce (l : Launch) (D : va_G) (cI cJ cZ : ClassId) (mx : Nat) (f : Int) (g : Int) (x : Int) (b : Int) (mo : Int) (n : Int) (ptm : Nat) (plw : Nat) (pbr : Nat) (pit : Nat) (ple : Nat) (pri : Nat) (nu : Int) (nl : Int) (prf : Nat) (prt : Nat) (prw : Nat) (pir : Nat) (hl1 : Int) (fi : Int) (la : Int) (ov : Int) (av : Int) (bw : Int) (pse : Nat) (psp : Nat) (hm1 : Int) (lc : Int) (cst : Int) (pbg : Nat) (pwk : Nat) (pgv : Nat) (fa : Int) (fb : Int) (pbc : Nat) (pbl : Nat) (pbe : Nat) (wf : Int → Int) (pf : Int → Int) (gv : Int → Int) (h1 : 0 ≤ f) (h2 : f ≤ g) (h3 : g ≤ 24) (hSP : SPB pf) (hG : B01 24 gv) (h6 : -2147483648 ≤ x) (h7 : x ≤ 2147483647) : Mv l yqM_findForce wsqM_findForce rm_M_findForce D cI cJ cZ [.ref mx, .int (iI f), .int (iI g), .int (iI x)] [(mx, .inr (8, [.int (iI b), .int (iI mo), .int (iI n), .ref ptm, .ref plw, .ref pbr, .ref pit, .ref ple, .ref pri, .int (iI nu), .int (iI nl), .ref prf, .ref prt, .ref prw, .ref pir, .int (iI hl1), .int (iI fi), .int (iI la), .int (iI ov), .long (lI av), .long (lI bw), .ref pse, .ref psp, .int (iI hm1), .int (iI lc), .long (lI cst), .ref pbg, .ref pwk, .ref pgv, .long (lI fa), .long (lI fb), .ref pbc, .ref pbl, .ref pbe])), (pwk, .inl (cI, 24, .inl (ai wf))), (psp, .inl (cJ, 24, .inr (.inl (al pf)))), (pgv, .inl (cZ, 24, .inl (ai gv)))] (S := Int × Int × (Int → Int)) (fun u => 1 ≤ u.2.1 ∧ u.2.1 ≤ 3221225472 ∧ B01 24 u.2.2) (fun u => [(mx, .inr (8, [.int (iI b), .int (iI mo), .int (iI n), .ref ptm, .ref plw, .ref pbr, .ref pit, .ref ple, .ref pri, .int (iI nu), .int (iI nl), .ref prf, .ref prt, .ref prw, .ref pir, .int (iI hl1), .int (iI fi), .int (iI la), .int (iI ov), .long (lI av), .long (lI bw), .ref pse, .ref psp, .int (iI hm1), .int (iI lc), .long (lI cst), .ref pbg, .ref pwk, .ref pgv, .long (lI u.1), .long (lI u.2.1), .ref pbc, .ref pbl, .ref pbe])), (pwk, .inl (cI, 24, .inl (ai wf))), (psp, .inl (cJ, 24, .inr (.inl (al pf)))), (pgv, .inl (cZ, 24, .inl (ai u.2.2)))]) 0 0 := by
  refine en_v (cc := cqM_findForce) (maxL := 11) (by decide +kernel) rfl (Nat.le_of_ble_eq_true rfl) ?_
  intro p e s m args below meth c A Q hx hb hml hin hts hown hA hP hK hD hN hS hret ls hl
  have hl : lv_has ls 11 [(0, .ref mx), (1, .int (iI f)), (2, .int (iI g)), (3, .int (iI x))] := hl
  obtain ⟨H, hH0⟩ : ∃ H, H = s.heap := ⟨_, rfl⟩
  obtain ⟨locs, hL0⟩ : ∃ locs : List Loc, locs = [] := ⟨_, rfl⟩
  rw [← hH0] at hP
  have hS : va_S A s.heap H locs := by rw [hH0, hL0]; exact hS
  have goal : W p l e rm_M_findForce s m args below meth c H locs 0 0 Q (F0 m 0 ls []) := by
    refine lv_aload_n hx hb dqM_findForce_0 rfl (lv_at hl 0 rfl) ?_
    refine lv_lconst (v := lI 0) hx hb dqM_findForce_1 (by decide +kernel) ?_
    refine va_put (D := D) (ci := 8) (v := .long (lI 0)) (ty := .long) (C := RqM) (T := TqM) (N := 34) hx hb hts (in_c inqM) tyqM tyqM_ok nmqM hown hK hP hD hS 0 rfl rfl 29 (by decide) (hts (.fieldLink RqM 110 "SpringSpacesModel" "forceAbove" "J") (List.mem_cons_of_mem _ tb_667)) (fun _ h9 => h9) rfl (by decide +kernel) rfl rfl (Nat.le_of_ble_eq_true rfl) dqM_findForce_2 (fun H locs hP hD hS => ?_)
    have hP : va_P D vwCl [(mx, .inr (8, [.int (iI b), .int (iI mo), .int (iI n), .ref ptm, .ref plw, .ref pbr, .ref pit, .ref ple, .ref pri, .int (iI nu), .int (iI nl), .ref prf, .ref prt, .ref prw, .ref pir, .int (iI hl1), .int (iI fi), .int (iI la), .int (iI ov), .long (lI av), .long (lI bw), .ref pse, .ref psp, .int (iI hm1), .int (iI lc), .long (lI cst), .ref pbg, .ref pwk, .ref pgv, .long (lI 0), .long (lI fb), .ref pbc, .ref pbl, .ref pbe])), (pwk, .inl (cI, 24, .inl (ai wf))), (psp, .inl (cJ, 24, .inr (.inl (al pf)))), (pgv, .inl (cZ, 24, .inl (ai gv)))] H := hP
    have hD : va_D A [(mx, .inr (8, [.int (iI b), .int (iI mo), .int (iI n), .ref ptm, .ref plw, .ref pbr, .ref pit, .ref ple, .ref pri, .int (iI nu), .int (iI nl), .ref prf, .ref prt, .ref prw, .ref pir, .int (iI hl1), .int (iI fi), .int (iI la), .int (iI ov), .long (lI av), .long (lI bw), .ref pse, .ref psp, .int (iI hm1), .int (iI lc), .long (lI cst), .ref pbg, .ref pwk, .ref pgv, .long (lI 0), .long (lI fb), .ref pbc, .ref pbl, .ref pbe])), (pwk, .inl (cI, 24, .inl (ai wf))), (psp, .inl (cJ, 24, .inr (.inl (al pf)))), (pgv, .inl (cZ, 24, .inl (ai gv)))] := hD
    refine lv_aload_n hx hb dqM_findForce_5 rfl (lv_at hl 0 rfl) ?_
    refine lv_lconst (v := lI 1) hx hb dqM_findForce_6 (by decide +kernel) ?_
    refine va_put (D := D) (ci := 8) (v := .long (lI 1)) (ty := .long) (C := RqM) (T := TqM) (N := 34) hx hb hts (in_c inqM) tyqM tyqM_ok nmqM hown hK hP hD hS 0 rfl rfl 30 (by decide) (hts (.fieldLink RqM 113 "SpringSpacesModel" "forceBelow" "J") (List.mem_cons_of_mem _ tb_668)) (fun _ h9 => h9) rfl (by decide +kernel) rfl rfl (Nat.le_of_ble_eq_true rfl) dqM_findForce_7 (fun H locs hP hD hS => ?_)
    have hP : va_P D vwCl [(mx, .inr (8, [.int (iI b), .int (iI mo), .int (iI n), .ref ptm, .ref plw, .ref pbr, .ref pit, .ref ple, .ref pri, .int (iI nu), .int (iI nl), .ref prf, .ref prt, .ref prw, .ref pir, .int (iI hl1), .int (iI fi), .int (iI la), .int (iI ov), .long (lI av), .long (lI bw), .ref pse, .ref psp, .int (iI hm1), .int (iI lc), .long (lI cst), .ref pbg, .ref pwk, .ref pgv, .long (lI 0), .long (lI 1), .ref pbc, .ref pbl, .ref pbe])), (pwk, .inl (cI, 24, .inl (ai wf))), (psp, .inl (cJ, 24, .inr (.inl (al pf)))), (pgv, .inl (cZ, 24, .inl (ai gv)))] H := hP
    have hD : va_D A [(mx, .inr (8, [.int (iI b), .int (iI mo), .int (iI n), .ref ptm, .ref plw, .ref pbr, .ref pit, .ref ple, .ref pri, .int (iI nu), .int (iI nl), .ref prf, .ref prt, .ref prw, .ref pir, .int (iI hl1), .int (iI fi), .int (iI la), .int (iI ov), .long (lI av), .long (lI bw), .ref pse, .ref psp, .int (iI hm1), .int (iI lc), .long (lI cst), .ref pbg, .ref pwk, .ref pgv, .long (lI 0), .long (lI 1), .ref pbc, .ref pbl, .ref pbe])), (pwk, .inl (cI, 24, .inl (ai wf))), (psp, .inl (cJ, 24, .inr (.inl (al pf)))), (pgv, .inl (cZ, 24, .inl (ai gv)))] := hD
    refine lv_aload_n hx hb dqM_findForce_10 rfl (lv_at hl 0 rfl) ?_
    refine lv_iload_n hx hb dqM_findForce_11 rfl (lv_at hl 1 rfl) ?_
    refine lv_iload_n hx hb dqM_findForce_12 rfl (lv_at hl 2 rfl) ?_
    refine af_i (wr := [(psp, .inl (cJ, 24, .inr (.inl (al pf)))), (pgv, .inl (cZ, 24, .inl (ai gv)))]) (va_runV (As := [.int (iI f), .int (iI g)]) (rest := []) ⟨hx, hb, hml, hown, hts⟩ (c_M_sum l D cI cJ cZ mx f g b mo n ptm plw pbr pit ple pri nu nl prf prt prw pir hl1 fi la ov av bw pse psp hm1 lc cst pbg pwk pgv 0 1 pbc pbl pbe wf (by omega) (by omega) (by omega) (by omega) H.size) (cwV 2 hts (gi_V tb_813 tb_815 tb_16 tb_33 tb_816) rfl rfl rfl (by decide +kernel) ⟨Nat.le_of_ble_eq_true rfl, Nat.le_of_ble_eq_true rfl⟩) (pre_V (ci := 8) (q0 := 0) hK hN hP hD [0, 1] rfl rfl rfl rfl) rfl rfl hl.1 rfl (lv_room (Nat.le_of_ble_eq_true rfl)) dqM_findForce_13 ⟨by first | omega | decide, by first | omega | decide⟩) hA hP hD hS [0, 1] [2, 3] rfl rfl (by decide +kernel) (by decide +kernel) (fun z1 u2 H locs hw_z1 hP hD hS => ?_)
    have hP : va_P D vwCl [(mx, .inr (8, [.int (iI b), .int (iI mo), .int (iI n), .ref ptm, .ref plw, .ref pbr, .ref pit, .ref ple, .ref pri, .int (iI nu), .int (iI nl), .ref prf, .ref prt, .ref prw, .ref pir, .int (iI hl1), .int (iI fi), .int (iI la), .int (iI ov), .long (lI av), .long (lI bw), .ref pse, .ref psp, .int (iI hm1), .int (iI lc), .long (lI cst), .ref pbg, .ref pwk, .ref pgv, .long (lI 0), .long (lI 1), .ref pbc, .ref pbl, .ref pbe])), (pwk, .inl (cI, 24, .inl (ai wf))), (psp, .inl (cJ, 24, .inr (.inl (al pf)))), (pgv, .inl (cZ, 24, .inl (ai gv)))] H := hP.sub [2, 3, 0, 1] rfl
    have hD : va_D A [(mx, .inr (8, [.int (iI b), .int (iI mo), .int (iI n), .ref ptm, .ref plw, .ref pbr, .ref pit, .ref ple, .ref pri, .int (iI nu), .int (iI nl), .ref prf, .ref prt, .ref prw, .ref pir, .int (iI hl1), .int (iI fi), .int (iI la), .int (iI ov), .long (lI av), .long (lI bw), .ref pse, .ref psp, .int (iI hm1), .int (iI lc), .long (lI cst), .ref pbg, .ref pwk, .ref pgv, .long (lI 0), .long (lI 1), .ref pbc, .ref pbl, .ref pbe])), (pwk, .inl (cI, 24, .inl (ai wf))), (psp, .inl (cJ, 24, .inr (.inl (al pf)))), (pgv, .inl (cZ, 24, .inl (ai gv)))] := hD.sub [2, 3, 0, 1] (by decide +kernel) rfl
    have hw_z1 : -2147483648 ≤ z1 ∧ z1 ≤ 2147483647 := hw_z1
    refine q_i2l_w hx hb dqM_findForce_16 (fun v3 v3a v3b => ?_)
    refine lv_lstore (lv' := [(4, .long (lI v3)), (0, .ref mx), (1, .int (iI f)), (2, .int (iI g)), (3, .int (iI x))]) hx hb dqM_findForce_17 hl (by decide) rfl (fun ls hl => ?_)
    refine lv_lload hx hb dqM_findForce_19 (lv_at hl 0 rfl) ?_
    refine lv_iload_n hx hb dqM_findForce_21 rfl (lv_at hl 4 rfl) ?_
    refine q_i2l_w hx hb dqM_findForce_22 (fun v4 v4a v4b => ?_)
    refine q_lw_ge (tgt := 36) hx hb dqM_findForce_23 dqM_findForce_24 (by decide) ?_ ?_
    · exact hret H locs _ ls (0, 1, gv) hS (⟨by (try dsimp only); omega, by (try dsimp only); omega, hG⟩) hP hD dqM_findForce_36
    · refine lv_aload_n hx hb dqM_findForce_27 rfl (lv_at hl 1 rfl) ?_
      refine lv_iload_n hx hb dqM_findForce_28 rfl (lv_at hl 2 rfl) ?_
      refine lv_iload_n hx hb dqM_findForce_29 rfl (lv_at hl 3 rfl) ?_
      refine af_i (wr := [(pwk, .inl (cI, 24, .inl (ai wf))), (pgv, .inl (cZ, 24, .inl (ai gv)))]) (va_runV (As := [.int (iI f), .int (iI g)]) (rest := []) ⟨hx, hb, hml, hown, hts⟩ (c_M_hasSpring l D cI cJ cZ mx f g b mo n ptm plw pbr pit ple pri nu nl prf prt prw pir hl1 fi la ov av bw pse psp hm1 lc cst pbg pwk pgv 0 1 pbc pbl pbe pf (by omega) (by omega) (by omega) (by omega) hSP H.size) (cwV 2 hts (gi_V tb_817 tb_819 tb_17 tb_33 tb_820) rfl rfl rfl (by decide +kernel) ⟨Nat.le_of_ble_eq_true rfl, Nat.le_of_ble_eq_true rfl⟩) (pre_V (ci := 8) (q0 := 0) hK hN hP hD [0, 2] rfl rfl rfl rfl) rfl rfl hl.1 rfl (lv_room (Nat.le_of_ble_eq_true rfl)) dqM_findForce_30 ⟨by first | omega | decide, by first | omega | decide⟩) hA hP hD hS [0, 2] [1, 3] rfl rfl (by decide +kernel) (by decide +kernel) (fun z5 u6 H locs hw_z5 hP hD hS => ?_)
      have hP : va_P D vwCl [(mx, .inr (8, [.int (iI b), .int (iI mo), .int (iI n), .ref ptm, .ref plw, .ref pbr, .ref pit, .ref ple, .ref pri, .int (iI nu), .int (iI nl), .ref prf, .ref prt, .ref prw, .ref pir, .int (iI hl1), .int (iI fi), .int (iI la), .int (iI ov), .long (lI av), .long (lI bw), .ref pse, .ref psp, .int (iI hm1), .int (iI lc), .long (lI cst), .ref pbg, .ref pwk, .ref pgv, .long (lI 0), .long (lI 1), .ref pbc, .ref pbl, .ref pbe])), (pwk, .inl (cI, 24, .inl (ai wf))), (psp, .inl (cJ, 24, .inr (.inl (al pf)))), (pgv, .inl (cZ, 24, .inl (ai gv)))] H := hP.sub [2, 0, 3, 1] rfl
      have hD : va_D A [(mx, .inr (8, [.int (iI b), .int (iI mo), .int (iI n), .ref ptm, .ref plw, .ref pbr, .ref pit, .ref ple, .ref pri, .int (iI nu), .int (iI nl), .ref prf, .ref prt, .ref prw, .ref pir, .int (iI hl1), .int (iI fi), .int (iI la), .int (iI ov), .long (lI av), .long (lI bw), .ref pse, .ref psp, .int (iI hm1), .int (iI lc), .long (lI cst), .ref pbg, .ref pwk, .ref pgv, .long (lI 0), .long (lI 1), .ref pbc, .ref pbl, .ref pbe])), (pwk, .inl (cI, 24, .inl (ai wf))), (psp, .inl (cJ, 24, .inr (.inl (al pf)))), (pgv, .inl (cZ, 24, .inl (ai gv)))] := hD.sub [2, 0, 3, 1] (by decide +kernel) rfl
      have hw_z5 : bl z5 (∃ j, f ≤ j ∧ j < g ∧ 0 < pf j) := hw_z5
      refine q_if_ne (tgt := 37) hx hb dqM_findForce_33 (by decide) (bl_1 hw_z5) (bl_2 hw_z5) (fun c_33 => ?_) (fun c_33 => ?_)
      · have c_33 := bl_t hw_z5 c_33
        refine lv_iload_n hx hb dqM_findForce_37 rfl (lv_at hl 2 rfl) ?_
        refine lv_istore (lv' := [(6, .int (iI f)), (4, .long (lI v3)), (0, .ref mx), (1, .int (iI f)), (2, .int (iI g)), (3, .int (iI x))]) hx hb dqM_findForce_38 hl (by decide) rfl (fun ls hl => ?_)
        have loop_40 : ∀ (n9 : Nat), ∀ (k : Int) (gv3 : Int → Int) (H : Heap) (locs : List Loc) (ls : Array Slot), (f ≤ k) → (k ≤ g) → (ZB f k gv3) → (B01 24 gv3) → ((g - k).toNat < n9) → va_P D vwCl [(mx, .inr (8, [.int (iI b), .int (iI mo), .int (iI n), .ref ptm, .ref plw, .ref pbr, .ref pit, .ref ple, .ref pri, .int (iI nu), .int (iI nl), .ref prf, .ref prt, .ref prw, .ref pir, .int (iI hl1), .int (iI fi), .int (iI la), .int (iI ov), .long (lI av), .long (lI bw), .ref pse, .ref psp, .int (iI hm1), .int (iI lc), .long (lI cst), .ref pbg, .ref pwk, .ref pgv, .long (lI 0), .long (lI 1), .ref pbc, .ref pbl, .ref pbe])), (pwk, .inl (cI, 24, .inl (ai wf))), (psp, .inl (cJ, 24, .inr (.inl (al pf)))), (pgv, .inl (cZ, 24, .inl (ai gv3)))] H → va_D A [(mx, .inr (8, [.int (iI b), .int (iI mo), .int (iI n), .ref ptm, .ref plw, .ref pbr, .ref pit, .ref ple, .ref pri, .int (iI nu), .int (iI nl), .ref prf, .ref prt, .ref prw, .ref pir, .int (iI hl1), .int (iI fi), .int (iI la), .int (iI ov), .long (lI av), .long (lI bw), .ref pse, .ref psp, .int (iI hm1), .int (iI lc), .long (lI cst), .ref pbg, .ref pwk, .ref pgv, .long (lI 0), .long (lI 1), .ref pbc, .ref pbl, .ref pbe])), (pwk, .inl (cI, 24, .inl (ai wf))), (psp, .inl (cJ, 24, .inr (.inl (al pf)))), (pgv, .inl (cZ, 24, .inl (ai gv3)))] → va_S A s.heap H locs → lv_has ls 11 [(6, .int (iI k)), (4, .long (lI v3)), (0, .ref mx), (1, .int (iI f)), (2, .int (iI g)), (3, .int (iI x))] → W p l e rm_M_findForce s m args below meth c H locs 0 0 Q (F0 m 40 ls []) := by
          intro n9
          induction n9 with
          | zero =>
            intro k gv3 H locs ls k1 k2 hz hb3 hm9
            exact absurd hm9 (by omega)
          | succ n9 ih_40 =>
            intro k gv3 H locs ls k1 k2 hz hb3 hm9 hP hD hS hl
            refine lv_iload hx hb dqM_findForce_40 (lv_at hl 0 rfl) ?_
            refine lv_iload_n hx hb dqM_findForce_42 rfl (lv_at hl 4 rfl) ?_
            refine q_icmp_ge (tgt := 60) hx hb dqM_findForce_43 (by decide) (by omega) (by omega) (by omega) (by omega) (fun c_43 => ?_) (fun c_43 => ?_)
            · refine lv_lconst (v := lI 0) hx hb dqM_findForce_60 (by decide +kernel) ?_
              refine lv_lstore (lv' := [(6, .long (lI 0)), (4, .long (lI v3)), (0, .ref mx), (1, .int (iI f)), (2, .int (iI g)), (3, .int (iI x))]) hx hb dqM_findForce_61 hl (by decide) rfl (fun ls hl => ?_)
              refine lv_iconst (v := iI 0) hx hb dqM_findForce_63 rfl ?_
              refine lv_istore (lv' := [(8, .int (iI 0)), (6, .long (lI 0)), (4, .long (lI v3)), (0, .ref mx), (1, .int (iI f)), (2, .int (iI g)), (3, .int (iI x))]) hx hb dqM_findForce_64 hl (by decide) rfl (fun ls hl => ?_)
              have loop_66 : ∀ (n9 : Nat), ∀ (fd : Int) (rs : Int) (sp : Int) (gv4 : Int → Int) (H : Heap) (locs : List Loc) (ls : Array Slot), (fd = 0 ∨ fd = 1) → (fd = 1 → 0 < sp) → (0 ≤ sp) → (sp + 134217728 * ug gv4 f g ≤ 3221225472) → (B01 24 gv4) → (∀ j, f ≤ j → j < g → gv4 j ≠ 0 → 0 < sp) → ((ug gv4 f g + (1 - fd)).toNat < n9) → va_P D vwCl [(mx, .inr (8, [.int (iI b), .int (iI mo), .int (iI n), .ref ptm, .ref plw, .ref pbr, .ref pit, .ref ple, .ref pri, .int (iI nu), .int (iI nl), .ref prf, .ref prt, .ref prw, .ref pir, .int (iI hl1), .int (iI fi), .int (iI la), .int (iI ov), .long (lI av), .long (lI bw), .ref pse, .ref psp, .int (iI hm1), .int (iI lc), .long (lI cst), .ref pbg, .ref pwk, .ref pgv, .long (lI 0), .long (lI 1), .ref pbc, .ref pbl, .ref pbe])), (pwk, .inl (cI, 24, .inl (ai wf))), (psp, .inl (cJ, 24, .inr (.inl (al pf)))), (pgv, .inl (cZ, 24, .inl (ai gv4)))] H → va_D A [(mx, .inr (8, [.int (iI b), .int (iI mo), .int (iI n), .ref ptm, .ref plw, .ref pbr, .ref pit, .ref ple, .ref pri, .int (iI nu), .int (iI nl), .ref prf, .ref prt, .ref prw, .ref pir, .int (iI hl1), .int (iI fi), .int (iI la), .int (iI ov), .long (lI av), .long (lI bw), .ref pse, .ref psp, .int (iI hm1), .int (iI lc), .long (lI cst), .ref pbg, .ref pwk, .ref pgv, .long (lI 0), .long (lI 1), .ref pbc, .ref pbl, .ref pbe])), (pwk, .inl (cI, 24, .inl (ai wf))), (psp, .inl (cJ, 24, .inr (.inl (al pf)))), (pgv, .inl (cZ, 24, .inl (ai gv4)))] → va_S A s.heap H locs → lv_has ls 11 [(8, .int (iI fd)), (4, .long (lI rs)), (0, .ref mx), (1, .int (iI f)), (2, .int (iI g)), (3, .int (iI x)), (6, .long (lI sp))] → W p l e rm_M_findForce s m args below meth c H locs 0 0 Q (F0 m 66 ls []) := by
                intro n9
                induction n9 with
                | zero =>
                  intro fd rs sp gv4 H locs ls fd1 fd2 sp0 sp1 hb4 hg4 hm9
                  exact absurd hm9 (by omega)
                | succ n9 ih_66 =>
                  intro fd rs sp gv4 H locs ls fd1 fd2 sp0 sp1 hb4 hg4 hm9 hP hD hS hl
                  refine lv_iload hx hb dqM_findForce_66 (lv_at hl 0 rfl) ?_
                  refine q_if_ne (tgt := 244) hx hb dqM_findForce_68 (by decide) (by omega) (by omega) (fun c_68 => ?_) (fun c_68 => ?_)
                  · refine lv_aload_n hx hb dqM_findForce_244 rfl (lv_at hl 2 rfl) ?_
                    refine lv_iload_n hx hb dqM_findForce_245 rfl (lv_at hl 5 rfl) ?_
                    refine q_i2l_w hx hb dqM_findForce_246 (fun v7 v7a v7b => ?_)
                    refine lv_lload hx hb dqM_findForce_247 (lv_at hl 1 rfl) ?_
                    refine q_lsub hx hb dqM_findForce_249 ?_
                    refine hv_l (fun v8 v8a v8b => ?_)
                    refine va_put (D := D) (ci := 8) (v := .long (lI v8)) (ty := .long) (C := RqM) (T := TqM) (N := 34) hx hb hts (in_c inqM) tyqM tyqM_ok nmqM hown hK hP hD hS 0 rfl rfl 29 (by decide) (hts (.fieldLink RqM 110 "SpringSpacesModel" "forceAbove" "J") (List.mem_cons_of_mem _ tb_667)) (fun _ h9 => h9) rfl (by decide +kernel) rfl rfl (Nat.le_of_ble_eq_true rfl) dqM_findForce_250 (fun H locs hP hD hS => ?_)
                    have hP : va_P D vwCl [(mx, .inr (8, [.int (iI b), .int (iI mo), .int (iI n), .ref ptm, .ref plw, .ref pbr, .ref pit, .ref ple, .ref pri, .int (iI nu), .int (iI nl), .ref prf, .ref prt, .ref prw, .ref pir, .int (iI hl1), .int (iI fi), .int (iI la), .int (iI ov), .long (lI av), .long (lI bw), .ref pse, .ref psp, .int (iI hm1), .int (iI lc), .long (lI cst), .ref pbg, .ref pwk, .ref pgv, .long (lI v8), .long (lI 1), .ref pbc, .ref pbl, .ref pbe])), (pwk, .inl (cI, 24, .inl (ai wf))), (psp, .inl (cJ, 24, .inr (.inl (al pf)))), (pgv, .inl (cZ, 24, .inl (ai gv4)))] H := hP
                    have hD : va_D A [(mx, .inr (8, [.int (iI b), .int (iI mo), .int (iI n), .ref ptm, .ref plw, .ref pbr, .ref pit, .ref ple, .ref pri, .int (iI nu), .int (iI nl), .ref prf, .ref prt, .ref prw, .ref pir, .int (iI hl1), .int (iI fi), .int (iI la), .int (iI ov), .long (lI av), .long (lI bw), .ref pse, .ref psp, .int (iI hm1), .int (iI lc), .long (lI cst), .ref pbg, .ref pwk, .ref pgv, .long (lI v8), .long (lI 1), .ref pbc, .ref pbl, .ref pbe])), (pwk, .inl (cI, 24, .inl (ai wf))), (psp, .inl (cJ, 24, .inr (.inl (al pf)))), (pgv, .inl (cZ, 24, .inl (ai gv4)))] := hD
                    refine lv_aload_n hx hb dqM_findForce_253 rfl (lv_at hl 2 rfl) ?_
                    refine lv_lload hx hb dqM_findForce_254 (lv_at hl 6 rfl) ?_
                    refine va_put (D := D) (ci := 8) (v := .long (lI sp)) (ty := .long) (C := RqM) (T := TqM) (N := 34) hx hb hts (in_c inqM) tyqM tyqM_ok nmqM hown hK hP hD hS 0 rfl rfl 30 (by decide) (hts (.fieldLink RqM 113 "SpringSpacesModel" "forceBelow" "J") (List.mem_cons_of_mem _ tb_668)) (fun _ h9 => h9) rfl (by decide +kernel) rfl rfl (Nat.le_of_ble_eq_true rfl) dqM_findForce_256 (fun H locs hP hD hS => ?_)
                    have hP : va_P D vwCl [(mx, .inr (8, [.int (iI b), .int (iI mo), .int (iI n), .ref ptm, .ref plw, .ref pbr, .ref pit, .ref ple, .ref pri, .int (iI nu), .int (iI nl), .ref prf, .ref prt, .ref prw, .ref pir, .int (iI hl1), .int (iI fi), .int (iI la), .int (iI ov), .long (lI av), .long (lI bw), .ref pse, .ref psp, .int (iI hm1), .int (iI lc), .long (lI cst), .ref pbg, .ref pwk, .ref pgv, .long (lI v8), .long (lI sp), .ref pbc, .ref pbl, .ref pbe])), (pwk, .inl (cI, 24, .inl (ai wf))), (psp, .inl (cJ, 24, .inr (.inl (al pf)))), (pgv, .inl (cZ, 24, .inl (ai gv4)))] H := hP
                    have hD : va_D A [(mx, .inr (8, [.int (iI b), .int (iI mo), .int (iI n), .ref ptm, .ref plw, .ref pbr, .ref pit, .ref ple, .ref pri, .int (iI nu), .int (iI nl), .ref prf, .ref prt, .ref prw, .ref pir, .int (iI hl1), .int (iI fi), .int (iI la), .int (iI ov), .long (lI av), .long (lI bw), .ref pse, .ref psp, .int (iI hm1), .int (iI lc), .long (lI cst), .ref pbg, .ref pwk, .ref pgv, .long (lI v8), .long (lI sp), .ref pbc, .ref pbl, .ref pbe])), (pwk, .inl (cI, 24, .inl (ai wf))), (psp, .inl (cJ, 24, .inr (.inl (al pf)))), (pgv, .inl (cZ, 24, .inl (ai gv4)))] := hD
                    exact hret H locs _ ls (v8, sp, gv4) hS (⟨by (try dsimp only); omega, by have u9 := ug_b gv4 (show f ≤ g by (try dsimp only); omega); (try dsimp only); omega, hb4⟩) hP hD dqM_findForce_259
                  · refine lv_iconst (v := iI (-1)) hx hb dqM_findForce_71 rfl ?_
                    refine lv_istore (lv' := [(9, .int (iI (-1))), (8, .int (iI fd)), (4, .long (lI rs)), (0, .ref mx), (1, .int (iI f)), (2, .int (iI g)), (3, .int (iI x)), (6, .long (lI sp))]) hx hb dqM_findForce_72 hl (by decide) rfl (fun ls hl => ?_)
                    refine lv_iload_n hx hb dqM_findForce_74 rfl (lv_at hl 4 rfl) ?_
                    refine lv_istore (lv' := [(10, .int (iI f)), (9, .int (iI (-1))), (8, .int (iI fd)), (4, .long (lI rs)), (0, .ref mx), (1, .int (iI f)), (2, .int (iI g)), (3, .int (iI x)), (6, .long (lI sp))]) hx hb dqM_findForce_75 hl (by decide) rfl (fun ls hl => ?_)
                    have loop_77 : ∀ (n9 : Nat), ∀ (nx : Int) (k : Int) (H : Heap) (locs : List Loc) (ls : Array Slot), (f ≤ k) → (k ≤ g) → (-1 ≤ nx) → (nx ≤ 23) → (NXT f k gv4 pf nx) → ((g - k).toNat < n9) → va_P D vwCl [(mx, .inr (8, [.int (iI b), .int (iI mo), .int (iI n), .ref ptm, .ref plw, .ref pbr, .ref pit, .ref ple, .ref pri, .int (iI nu), .int (iI nl), .ref prf, .ref prt, .ref prw, .ref pir, .int (iI hl1), .int (iI fi), .int (iI la), .int (iI ov), .long (lI av), .long (lI bw), .ref pse, .ref psp, .int (iI hm1), .int (iI lc), .long (lI cst), .ref pbg, .ref pwk, .ref pgv, .long (lI 0), .long (lI 1), .ref pbc, .ref pbl, .ref pbe])), (pwk, .inl (cI, 24, .inl (ai wf))), (psp, .inl (cJ, 24, .inr (.inl (al pf)))), (pgv, .inl (cZ, 24, .inl (ai gv4)))] H → va_D A [(mx, .inr (8, [.int (iI b), .int (iI mo), .int (iI n), .ref ptm, .ref plw, .ref pbr, .ref pit, .ref ple, .ref pri, .int (iI nu), .int (iI nl), .ref prf, .ref prt, .ref prw, .ref pir, .int (iI hl1), .int (iI fi), .int (iI la), .int (iI ov), .long (lI av), .long (lI bw), .ref pse, .ref psp, .int (iI hm1), .int (iI lc), .long (lI cst), .ref pbg, .ref pwk, .ref pgv, .long (lI 0), .long (lI 1), .ref pbc, .ref pbl, .ref pbe])), (pwk, .inl (cI, 24, .inl (ai wf))), (psp, .inl (cJ, 24, .inr (.inl (al pf)))), (pgv, .inl (cZ, 24, .inl (ai gv4)))] → va_S A s.heap H locs → lv_has ls 11 [(10, .int (iI k)), (9, .int (iI nx)), (8, .int (iI fd)), (4, .long (lI rs)), (0, .ref mx), (1, .int (iI f)), (2, .int (iI g)), (3, .int (iI x)), (6, .long (lI sp))] → W p l e rm_M_findForce s m args below meth c H locs 0 0 Q (F0 m 77 ls []) := by
                      intro n9
                      induction n9 with
                      | zero =>
                        intro nx k H locs ls k1 k2 nx1 nx2 hx9 hm9
                        exact absurd hm9 (by omega)
                      | succ n9 ih_77 =>
                        intro nx k H locs ls k1 k2 nx1 nx2 hx9 hm9 hP hD hS hl
                        refine lv_iload hx hb dqM_findForce_77 (lv_at hl 0 rfl) ?_
                        refine lv_iload_n hx hb dqM_findForce_79 rfl (lv_at hl 6 rfl) ?_
                        refine q_icmp_ge (tgt := 156) hx hb dqM_findForce_80 (by decide) (by omega) (by omega) (by omega) (by omega) (fun c_80 => ?_) (fun c_80 => ?_)
                        · have cut_201 : ∀ (bt : Int) (H : Heap) (locs : List Loc) (ls : Array Slot), (bt = 0 ∨ bt = 1) → (bt = 1 → 0 < sp) → (bt = 0 → 0 ≤ nx) → va_P D vwCl [(mx, .inr (8, [.int (iI b), .int (iI mo), .int (iI n), .ref ptm, .ref plw, .ref pbr, .ref pit, .ref ple, .ref pri, .int (iI nu), .int (iI nl), .ref prf, .ref prt, .ref prw, .ref pir, .int (iI hl1), .int (iI fi), .int (iI la), .int (iI ov), .long (lI av), .long (lI bw), .ref pse, .ref psp, .int (iI hm1), .int (iI lc), .long (lI cst), .ref pbg, .ref pwk, .ref pgv, .long (lI 0), .long (lI 1), .ref pbc, .ref pbl, .ref pbe])), (pwk, .inl (cI, 24, .inl (ai wf))), (psp, .inl (cJ, 24, .inr (.inl (al pf)))), (pgv, .inl (cZ, 24, .inl (ai gv4)))] H → va_D A [(mx, .inr (8, [.int (iI b), .int (iI mo), .int (iI n), .ref ptm, .ref plw, .ref pbr, .ref pit, .ref ple, .ref pri, .int (iI nu), .int (iI nl), .ref prf, .ref prt, .ref prw, .ref pir, .int (iI hl1), .int (iI fi), .int (iI la), .int (iI ov), .long (lI av), .long (lI bw), .ref pse, .ref psp, .int (iI hm1), .int (iI lc), .long (lI cst), .ref pbg, .ref pwk, .ref pgv, .long (lI 0), .long (lI 1), .ref pbc, .ref pbl, .ref pbe])), (pwk, .inl (cI, 24, .inl (ai wf))), (psp, .inl (cJ, 24, .inr (.inl (al pf)))), (pgv, .inl (cZ, 24, .inl (ai gv4)))] → va_S A s.heap H locs → lv_has ls 11 [(10, .int (iI k)), (9, .int (iI nx)), (8, .int (iI fd)), (4, .long (lI rs)), (0, .ref mx), (1, .int (iI f)), (2, .int (iI g)), (3, .int (iI x)), (6, .long (lI sp))] → W p l e rm_M_findForce s m args below meth c H locs 0 0 Q (F0 m 201 ls [.int (iI bt)]) := by
                            intro bt H locs ls bt1 bt2 bt3 hP hD hS hl
                            refine lv_istore (lv' := [(8, .int (iI bt)), (10, .int (iI k)), (9, .int (iI nx)), (4, .long (lI rs)), (0, .ref mx), (1, .int (iI f)), (2, .int (iI g)), (3, .int (iI x)), (6, .long (lI sp))]) hx hb dqM_findForce_201 hl (by decide) rfl (fun ls hl => ?_)
                            refine lv_iload hx hb dqM_findForce_203 (lv_at hl 0 rfl) ?_
                            refine q_if_ne (tgt := 241) hx hb dqM_findForce_205 (by decide) (by omega) (by omega) (fun c_205 => ?_) (fun c_205 => ?_)
                            · refine lv_goto (tgt := 66) hx hb dqM_findForce_241 (by decide) ?_
                              exact ih_66 bt rs sp gv4 H locs ls (by omega) (by omega) (by omega) (by first | omega | (rw [ug_up g9.2.2.1 g9.1 (by omega)]; omega)) (by first | exact hb4 | exact hb4.up (by omega)) (by first | exact hg4 | exact (fun _ _ _ _ => by omega)) (by first | omega | (have u9 := ug_b gv4 (show f ≤ g by omega); omega) | (rw [ug_up g9.2.2.1 g9.1 (by omega)]; have u9 := ug_b gv4 (show f ≤ g by omega); omega)) hP hD hS (lv_sub hl [0, 3, 4, 5, 6, 7, 8] rfl)
                            · have g9 := hx9.got (by omega)
                              have s8 := hSP nx (by omega) (by omega)
                              refine lv_aload_n hx hb dqM_findForce_208 rfl (lv_at hl 4 rfl) ?_
                              refine va_get (D := D) (ci := 8) (v := .ref pgv) (C := RqM) (T := TqM) (N := 34) hx hb hts (in_c inqM) hown hK hP 0 rfl rfl 28 (by decide) (hts (.fieldLink RqM 65 "SpringSpacesModel" "gives" "[Z") (List.mem_cons_of_mem _ tb_666)) (fun _ h9 => h9) rfl dqM_findForce_209 ?_
                              refine lv_iload hx hb dqM_findForce_212 (lv_at hl 2 rfl) ?_
                              refine lv_iconst (v := iI 1) hx hb dqM_findForce_214 rfl ?_
                              refine q_zast (i := nx) (x := 1) hx hb hK hP hD hS 3 2 rfl rfl (by omega) (by omega) (by omega) (by omega) dqM_findForce_215 (fun H locs hP hD hS => ?_)
                              have hP : va_P D vwCl [(mx, .inr (8, [.int (iI b), .int (iI mo), .int (iI n), .ref ptm, .ref plw, .ref pbr, .ref pit, .ref ple, .ref pri, .int (iI nu), .int (iI nl), .ref prf, .ref prt, .ref prw, .ref pir, .int (iI hl1), .int (iI fi), .int (iI la), .int (iI ov), .long (lI av), .long (lI bw), .ref pse, .ref psp, .int (iI hm1), .int (iI lc), .long (lI cst), .ref pbg, .ref pwk, .ref pgv, .long (lI 0), .long (lI 1), .ref pbc, .ref pbl, .ref pbe])), (pwk, .inl (cI, 24, .inl (ai wf))), (psp, .inl (cJ, 24, .inr (.inl (al pf)))), (pgv, .inl (cZ, 24, .inl (ai (up gv4 nx 1))))] H := hP
                              have hD : va_D A [(mx, .inr (8, [.int (iI b), .int (iI mo), .int (iI n), .ref ptm, .ref plw, .ref pbr, .ref pit, .ref ple, .ref pri, .int (iI nu), .int (iI nl), .ref prf, .ref prt, .ref prw, .ref pir, .int (iI hl1), .int (iI fi), .int (iI la), .int (iI ov), .long (lI av), .long (lI bw), .ref pse, .ref psp, .int (iI hm1), .int (iI lc), .long (lI cst), .ref pbg, .ref pwk, .ref pgv, .long (lI 0), .long (lI 1), .ref pbc, .ref pbl, .ref pbe])), (pwk, .inl (cI, 24, .inl (ai wf))), (psp, .inl (cJ, 24, .inr (.inl (al pf)))), (pgv, .inl (cZ, 24, .inl (ai (up gv4 nx 1))))] := hD
                              refine lv_lload hx hb dqM_findForce_216 (lv_at hl 8 rfl) ?_
                              refine lv_aload_n hx hb dqM_findForce_218 rfl (lv_at hl 4 rfl) ?_
                              refine va_get (D := D) (ci := 8) (v := .ref psp) (C := RqM) (T := TqM) (N := 34) hx hb hts (in_c inqM) hown hK hP 0 rfl rfl 22 (by decide) (hts (.fieldLink RqM 55 "SpringSpacesModel" "springs" "[J") (List.mem_cons_of_mem _ tb_660)) (fun _ h9 => h9) rfl dqM_findForce_219 ?_
                              refine lv_iload hx hb dqM_findForce_222 (lv_at hl 2 rfl) ?_
                              refine q_lald (i := nx) hx hb hK hP 2 1 rfl rfl (by omega) (by omega) (by omega) dqM_findForce_224 ?_
                              refine q_ladd hx hb dqM_findForce_225 ?_
                              refine lv_lstore (lv' := [(6, .long (lI (sp + (pf nx)))), (8, .int (iI bt)), (10, .int (iI k)), (9, .int (iI nx)), (4, .long (lI rs)), (0, .ref mx), (1, .int (iI f)), (2, .int (iI g)), (3, .int (iI x))]) hx hb dqM_findForce_226 hl (by decide) rfl (fun ls hl => ?_)
                              refine lv_lload hx hb dqM_findForce_228 (lv_at hl 4 rfl) ?_
                              refine lv_aload_n hx hb dqM_findForce_230 rfl (lv_at hl 5 rfl) ?_
                              refine va_get (D := D) (ci := 8) (v := .ref pwk) (C := RqM) (T := TqM) (N := 34) hx hb hts (in_c inqM) hown hK hP 0 rfl rfl 27 (by decide) (hts (.fieldLink RqM 62 "SpringSpacesModel" "work" "[I") (List.mem_cons_of_mem _ tb_665)) (fun _ h9 => h9) rfl dqM_findForce_231 ?_
                              refine lv_iload hx hb dqM_findForce_234 (lv_at hl 3 rfl) ?_
                              refine q_iald (i := nx) hx hb hK hP 1 0 rfl rfl (by omega) (by omega) (by omega) dqM_findForce_236 ?_
                              refine q_i2l_w hx hb dqM_findForce_237 (fun v9 v9a v9b => ?_)
                              refine q_lsub hx hb dqM_findForce_238 ?_
                              refine hv_l (fun v10 v10a v10b => ?_)
                              refine lv_lstore (lv' := [(4, .long (lI v10)), (6, .long (lI (sp + (pf nx)))), (8, .int (iI bt)), (10, .int (iI k)), (9, .int (iI nx)), (0, .ref mx), (1, .int (iI f)), (2, .int (iI g)), (3, .int (iI x))]) hx hb dqM_findForce_239 hl (by decide) rfl (fun ls hl => ?_)
                              refine lv_goto (tgt := 66) hx hb dqM_findForce_241 (by decide) ?_
                              exact ih_66 bt v10 (sp + (pf nx)) (up gv4 nx 1) H locs ls (by omega) (by omega) (by omega) (by first | omega | (rw [ug_up g9.2.2.1 g9.1 (by omega)]; omega)) (by first | exact hb4 | exact hb4.up (by omega)) (by first | exact hg4 | exact (fun _ _ _ _ => by omega)) (by first | omega | (have u9 := ug_b gv4 (show f ≤ g by omega); omega) | (rw [ug_up g9.2.2.1 g9.1 (by omega)]; have u9 := ug_b gv4 (show f ≤ g by omega); omega)) hP hD hS (lv_sub hl [2, 0, 5, 6, 7, 8, 1] rfl)
                          refine lv_iload hx hb dqM_findForce_156 (lv_at hl 1 rfl) ?_
                          refine q_if_lt (tgt := 196) hx hb dqM_findForce_158 (by decide) (by omega) (by omega) (fun c_158 => ?_) (fun c_158 => ?_)
                          · refine lv_iconst (v := iI 1) hx hb dqM_findForce_196 rfl ?_
                            refine lv_goto (tgt := 201) hx hb dqM_findForce_197 (by decide) ?_
                            exact cut_201 1 H locs ls (by omega) (by first | omega | exact (fun _ => hx9.pos (by omega) (by omega) (by rw [show k = g by omega]; exact c_33) (by rw [show k = g by omega]; exact hg4))) (by omega) hP hD hS (lv_sub hl [0, 1, 2, 3, 4, 5, 6, 7, 8] rfl)
                          · have u8 := ug_b gv4 (show f ≤ g by omega)
                            have g7 := hx9.got (by omega)
                            refine lv_lload hx hb dqM_findForce_161 (lv_at hl 8 rfl) ?_
                            refine lv_lconst (v := lI 0) hx hb dqM_findForce_163 (by decide +kernel) ?_
                            refine q_lcmp_le (tgt := 200) hx hb dqM_findForce_164 dqM_findForce_165 (by decide) (by omega) (by omega) (by omega) (by omega) (fun c_164 => ?_) (fun c_164 => ?_)
                            · refine lv_iconst (v := iI 0) hx hb dqM_findForce_200 rfl ?_
                              exact cut_201 0 H locs ls (by omega) (by first | omega | exact (fun _ => hx9.pos (by omega) (by omega) (by rw [show k = g by omega]; exact c_33) (by rw [show k = g by omega]; exact hg4))) (by omega) hP hD hS (lv_sub hl [0, 1, 2, 3, 4, 5, 6, 7, 8] rfl)
                            · refine lv_iload_n hx hb dqM_findForce_168 rfl (lv_at hl 7 rfl) ?_
                              refine q_i2l_w hx hb dqM_findForce_169 (fun v11 v11a v11b => ?_)
                              refine lv_lload hx hb dqM_findForce_170 (lv_at hl 3 rfl) ?_
                              refine q_lsub hx hb dqM_findForce_172 ?_
                              refine hv_l (fun v12 v12a v12b => ?_)
                              refine lv_aload_n hx hb dqM_findForce_173 rfl (lv_at hl 4 rfl) ?_
                              refine va_get (D := D) (ci := 8) (v := .ref psp) (C := RqM) (T := TqM) (N := 34) hx hb hts (in_c inqM) hown hK hP 0 rfl rfl 22 (by decide) (hts (.fieldLink RqM 55 "SpringSpacesModel" "springs" "[J") (List.mem_cons_of_mem _ tb_660)) (fun _ h9 => h9) rfl dqM_findForce_174 ?_
                              refine lv_iload hx hb dqM_findForce_177 (lv_at hl 1 rfl) ?_
                              refine q_lald (i := nx) hx hb hK hP 2 1 rfl rfl (by omega) (by omega) (by omega) dqM_findForce_179 ?_
                              refine hv_l (fun v13 v13a v13b => ?_)
                              refine q_lmul hx hb dqM_findForce_180 ?_
                              refine hv_l (fun v14 v14a v14b => ?_)
                              refine lv_aload_n hx hb dqM_findForce_181 rfl (lv_at hl 4 rfl) ?_
                              refine va_get (D := D) (ci := 8) (v := .ref pwk) (C := RqM) (T := TqM) (N := 34) hx hb hts (in_c inqM) hown hK hP 0 rfl rfl 27 (by decide) (hts (.fieldLink RqM 62 "SpringSpacesModel" "work" "[I") (List.mem_cons_of_mem _ tb_665)) (fun _ h9 => h9) rfl dqM_findForce_182 ?_
                              refine lv_iload hx hb dqM_findForce_185 (lv_at hl 1 rfl) ?_
                              refine q_iald (i := nx) hx hb hK hP 1 0 rfl rfl (by omega) (by omega) (by omega) dqM_findForce_187 ?_
                              refine q_i2l_w hx hb dqM_findForce_188 (fun v15 v15a v15b => ?_)
                              refine lv_lload hx hb dqM_findForce_189 (lv_at hl 8 rfl) ?_
                              refine q_lmul hx hb dqM_findForce_191 ?_
                              refine hv_l (fun v16 v16a v16b => ?_)
                              refine q_lw_gt (tgt := 200) hx hb dqM_findForce_192 dqM_findForce_193 (by decide) ?_ ?_
                              · refine lv_iconst (v := iI 0) hx hb dqM_findForce_200 rfl ?_
                                exact cut_201 0 H locs ls (by omega) (by first | omega | exact (fun _ => hx9.pos (by omega) (by omega) (by rw [show k = g by omega]; exact c_33) (by rw [show k = g by omega]; exact hg4))) (by omega) hP hD hS (lv_sub hl [0, 1, 2, 3, 4, 5, 6, 7, 8] rfl)
                              · refine lv_iconst (v := iI 1) hx hb dqM_findForce_196 rfl ?_
                                refine lv_goto (tgt := 201) hx hb dqM_findForce_197 (by decide) ?_
                                exact cut_201 1 H locs ls (by omega) (by first | omega | exact (fun _ => hx9.pos (by omega) (by omega) (by rw [show k = g by omega]; exact c_33) (by rw [show k = g by omega]; exact hg4))) (by omega) hP hD hS (lv_sub hl [0, 1, 2, 3, 4, 5, 6, 7, 8] rfl)
                        · have b9 := hb4 k (by omega) (by omega)
                          refine lv_aload_n hx hb dqM_findForce_83 rfl (lv_at hl 4 rfl) ?_
                          refine va_get (D := D) (ci := 8) (v := .ref pgv) (C := RqM) (T := TqM) (N := 34) hx hb hts (in_c inqM) hown hK hP 0 rfl rfl 28 (by decide) (hts (.fieldLink RqM 65 "SpringSpacesModel" "gives" "[Z") (List.mem_cons_of_mem _ tb_666)) (fun _ h9 => h9) rfl dqM_findForce_84 ?_
                          refine lv_iload hx hb dqM_findForce_87 (lv_at hl 0 rfl) ?_
                          refine q_zald (i := k) hx hb hK hP 3 2 rfl rfl (by omega) (by omega) (by omega) dqM_findForce_89 ?_
                          refine q_if_ne (tgt := 150) hx hb dqM_findForce_90 (by decide) (by omega) (by omega) (fun c_90 => ?_) (fun c_90 => ?_)
                          · refine lv_iinc (v := iI (k + 1)) (lv' := [(10, .int (iI (k + 1))), (9, .int (iI nx)), (8, .int (iI fd)), (4, .long (lI rs)), (0, .ref mx), (1, .int (iI f)), (2, .int (iI g)), (3, .int (iI x)), (6, .long (lI sp))]) hx hb dqM_findForce_150 hl (k := 0) rfl (iI_add _ _) (by decide) rfl (fun ls hl => ?_)
                            refine lv_goto (tgt := 77) hx hb dqM_findForce_153 (by decide) ?_
                            exact ih_77 nx (k + 1) H locs ls (by omega) (by omega) (by omega) (by omega) (by first | exact hx9.skip (fun q => by omega) | exact hx9.keep (by omega) | exact NXT.put (by omega) (by omega) (by omega)) (by omega) hP hD hS (lv_sub hl [0, 1, 2, 3, 4, 5, 6, 7, 8] rfl)
                          · have s9 := hSP k (by omega) (by omega)
                            refine lv_aload_n hx hb dqM_findForce_93 rfl (lv_at hl 4 rfl) ?_
                            refine va_get (D := D) (ci := 8) (v := .ref psp) (C := RqM) (T := TqM) (N := 34) hx hb hts (in_c inqM) hown hK hP 0 rfl rfl 22 (by decide) (hts (.fieldLink RqM 55 "SpringSpacesModel" "springs" "[J") (List.mem_cons_of_mem _ tb_660)) (fun _ h9 => h9) rfl dqM_findForce_94 ?_
                            refine lv_iload hx hb dqM_findForce_97 (lv_at hl 0 rfl) ?_
                            refine q_lald (i := k) hx hb hK hP 2 1 rfl rfl (by omega) (by omega) (by omega) dqM_findForce_99 ?_
                            refine lv_lconst (v := lI 0) hx hb dqM_findForce_100 (by decide +kernel) ?_
                            refine q_lcmp_le (tgt := 150) hx hb dqM_findForce_101 dqM_findForce_102 (by decide) (by omega) (by omega) (by omega) (by omega) (fun c_101 => ?_) (fun c_101 => ?_)
                            · refine lv_iinc (v := iI (k + 1)) (lv' := [(10, .int (iI (k + 1))), (9, .int (iI nx)), (8, .int (iI fd)), (4, .long (lI rs)), (0, .ref mx), (1, .int (iI f)), (2, .int (iI g)), (3, .int (iI x)), (6, .long (lI sp))]) hx hb dqM_findForce_150 hl (k := 0) rfl (iI_add _ _) (by decide) rfl (fun ls hl => ?_)
                              refine lv_goto (tgt := 77) hx hb dqM_findForce_153 (by decide) ?_
                              exact ih_77 nx (k + 1) H locs ls (by omega) (by omega) (by omega) (by omega) (by first | exact hx9.skip (fun q => by omega) | exact hx9.keep (by omega) | exact NXT.put (by omega) (by omega) (by omega)) (by omega) hP hD hS (lv_sub hl [0, 1, 2, 3, 4, 5, 6, 7, 8] rfl)
                            · refine lv_iload hx hb dqM_findForce_105 (lv_at hl 1 rfl) ?_
                              refine q_if_lt (tgt := 146) hx hb dqM_findForce_107 (by decide) (by omega) (by omega) (fun c_107 => ?_) (fun c_107 => ?_)
                              · refine lv_iload hx hb dqM_findForce_146 (lv_at hl 0 rfl) ?_
                                refine lv_istore (lv' := [(9, .int (iI k)), (10, .int (iI k)), (8, .int (iI fd)), (4, .long (lI rs)), (0, .ref mx), (1, .int (iI f)), (2, .int (iI g)), (3, .int (iI x)), (6, .long (lI sp))]) hx hb dqM_findForce_148 hl (by decide) rfl (fun ls hl => ?_)
                                refine lv_iinc (v := iI (k + 1)) (lv' := [(10, .int (iI (k + 1))), (9, .int (iI k)), (8, .int (iI fd)), (4, .long (lI rs)), (0, .ref mx), (1, .int (iI f)), (2, .int (iI g)), (3, .int (iI x)), (6, .long (lI sp))]) hx hb dqM_findForce_150 hl (k := 1) rfl (iI_add _ _) (by decide) rfl (fun ls hl => ?_)
                                refine lv_goto (tgt := 77) hx hb dqM_findForce_153 (by decide) ?_
                                exact ih_77 k (k + 1) H locs ls (by omega) (by omega) (by omega) (by omega) (by first | exact hx9.skip (fun q => by omega) | exact hx9.keep (by omega) | exact NXT.put (by omega) (by omega) (by omega)) (by omega) hP hD hS (lv_sub hl [0, 1, 2, 3, 4, 5, 6, 7, 8] rfl)
                              · have g8 := hx9.got (by omega)
                                refine lv_aload_n hx hb dqM_findForce_110 rfl (lv_at hl 4 rfl) ?_
                                refine va_get (D := D) (ci := 8) (v := .ref pwk) (C := RqM) (T := TqM) (N := 34) hx hb hts (in_c inqM) hown hK hP 0 rfl rfl 27 (by decide) (hts (.fieldLink RqM 62 "SpringSpacesModel" "work" "[I") (List.mem_cons_of_mem _ tb_665)) (fun _ h9 => h9) rfl dqM_findForce_111 ?_
                                refine lv_iload hx hb dqM_findForce_114 (lv_at hl 0 rfl) ?_
                                refine q_iald (i := k) hx hb hK hP 1 0 rfl rfl (by omega) (by omega) (by omega) dqM_findForce_116 ?_
                                refine q_i2l_w hx hb dqM_findForce_117 (fun v17 v17a v17b => ?_)
                                refine lv_aload_n hx hb dqM_findForce_118 rfl (lv_at hl 4 rfl) ?_
                                refine va_get (D := D) (ci := 8) (v := .ref psp) (C := RqM) (T := TqM) (N := 34) hx hb hts (in_c inqM) hown hK hP 0 rfl rfl 22 (by decide) (hts (.fieldLink RqM 55 "SpringSpacesModel" "springs" "[J") (List.mem_cons_of_mem _ tb_660)) (fun _ h9 => h9) rfl dqM_findForce_119 ?_
                                refine lv_iload hx hb dqM_findForce_122 (lv_at hl 1 rfl) ?_
                                refine q_lald (i := nx) hx hb hK hP 2 1 rfl rfl (by omega) (by omega) (by omega) dqM_findForce_124 ?_
                                refine hv_l (fun v18 v18a v18b => ?_)
                                refine q_lmul hx hb dqM_findForce_125 ?_
                                refine hv_l (fun v19 v19a v19b => ?_)
                                refine lv_aload_n hx hb dqM_findForce_126 rfl (lv_at hl 4 rfl) ?_
                                refine va_get (D := D) (ci := 8) (v := .ref pwk) (C := RqM) (T := TqM) (N := 34) hx hb hts (in_c inqM) hown hK hP 0 rfl rfl 27 (by decide) (hts (.fieldLink RqM 62 "SpringSpacesModel" "work" "[I") (List.mem_cons_of_mem _ tb_665)) (fun _ h9 => h9) rfl dqM_findForce_127 ?_
                                refine lv_iload hx hb dqM_findForce_130 (lv_at hl 1 rfl) ?_
                                refine q_iald (i := nx) hx hb hK hP 1 0 rfl rfl (by omega) (by omega) (by omega) dqM_findForce_132 ?_
                                refine q_i2l_w hx hb dqM_findForce_133 (fun v20 v20a v20b => ?_)
                                refine lv_aload_n hx hb dqM_findForce_134 rfl (lv_at hl 4 rfl) ?_
                                refine va_get (D := D) (ci := 8) (v := .ref psp) (C := RqM) (T := TqM) (N := 34) hx hb hts (in_c inqM) hown hK hP 0 rfl rfl 22 (by decide) (hts (.fieldLink RqM 55 "SpringSpacesModel" "springs" "[J") (List.mem_cons_of_mem _ tb_660)) (fun _ h9 => h9) rfl dqM_findForce_135 ?_
                                refine lv_iload hx hb dqM_findForce_138 (lv_at hl 0 rfl) ?_
                                refine q_lald (i := k) hx hb hK hP 2 1 rfl rfl (by omega) (by omega) (by omega) dqM_findForce_140 ?_
                                refine hv_l (fun v21 v21a v21b => ?_)
                                refine q_lmul hx hb dqM_findForce_141 ?_
                                refine hv_l (fun v22 v22a v22b => ?_)
                                refine q_lw_ge (tgt := 150) hx hb dqM_findForce_142 dqM_findForce_143 (by decide) ?_ ?_
                                · refine lv_iinc (v := iI (k + 1)) (lv' := [(10, .int (iI (k + 1))), (9, .int (iI nx)), (8, .int (iI fd)), (4, .long (lI rs)), (0, .ref mx), (1, .int (iI f)), (2, .int (iI g)), (3, .int (iI x)), (6, .long (lI sp))]) hx hb dqM_findForce_150 hl (k := 0) rfl (iI_add _ _) (by decide) rfl (fun ls hl => ?_)
                                  refine lv_goto (tgt := 77) hx hb dqM_findForce_153 (by decide) ?_
                                  exact ih_77 nx (k + 1) H locs ls (by omega) (by omega) (by omega) (by omega) (by first | exact hx9.skip (fun q => by omega) | exact hx9.keep (by omega) | exact NXT.put (by omega) (by omega) (by omega)) (by omega) hP hD hS (lv_sub hl [0, 1, 2, 3, 4, 5, 6, 7, 8] rfl)
                                · refine lv_iload hx hb dqM_findForce_146 (lv_at hl 0 rfl) ?_
                                  refine lv_istore (lv' := [(9, .int (iI k)), (10, .int (iI k)), (8, .int (iI fd)), (4, .long (lI rs)), (0, .ref mx), (1, .int (iI f)), (2, .int (iI g)), (3, .int (iI x)), (6, .long (lI sp))]) hx hb dqM_findForce_148 hl (by decide) rfl (fun ls hl => ?_)
                                  refine lv_iinc (v := iI (k + 1)) (lv' := [(10, .int (iI (k + 1))), (9, .int (iI k)), (8, .int (iI fd)), (4, .long (lI rs)), (0, .ref mx), (1, .int (iI f)), (2, .int (iI g)), (3, .int (iI x)), (6, .long (lI sp))]) hx hb dqM_findForce_150 hl (k := 1) rfl (iI_add _ _) (by decide) rfl (fun ls hl => ?_)
                                  refine lv_goto (tgt := 77) hx hb dqM_findForce_153 (by decide) ?_
                                  exact ih_77 k (k + 1) H locs ls (by omega) (by omega) (by omega) (by omega) (by first | exact hx9.skip (fun q => by omega) | exact hx9.keep (by omega) | exact NXT.put (by omega) (by omega) (by omega)) (by omega) hP hD hS (lv_sub hl [0, 1, 2, 3, 4, 5, 6, 7, 8] rfl)
                    exact loop_77 (Int.toNat (g - f) + 1) (-1) f H locs ls (by omega) (by omega) (by omega) (by omega) NXT.nil (by omega) hP hD hS (lv_sub hl [0, 1, 2, 3, 4, 5, 6, 7, 8] rfl)
              exact loop_66 (Int.toNat (ug gv3 f g + (1 - 0)) + 1) 0 v3 0 gv3 H locs ls (by omega) (by omega) (by omega) (by have u9 := ug_b gv3 (show f ≤ g by omega); omega) hb3 (fun j a b q => absurd (hz j a (by omega)) q) (by first | omega | (have u9 := ug_b gv4 (show f ≤ g by omega); omega) | (rw [ug_up g9.2.2.1 g9.1 (by omega)]; have u9 := ug_b gv4 (show f ≤ g by omega); omega)) hP hD hS (lv_sub hl [0, 2, 3, 4, 5, 6, 1] rfl)
            · refine lv_aload_n hx hb dqM_findForce_46 rfl (lv_at hl 2 rfl) ?_
              refine va_get (D := D) (ci := 8) (v := .ref pgv) (C := RqM) (T := TqM) (N := 34) hx hb hts (in_c inqM) hown hK hP 0 rfl rfl 28 (by decide) (hts (.fieldLink RqM 65 "SpringSpacesModel" "gives" "[Z") (List.mem_cons_of_mem _ tb_666)) (fun _ h9 => h9) rfl dqM_findForce_47 ?_
              refine lv_iload hx hb dqM_findForce_50 (lv_at hl 0 rfl) ?_
              refine lv_iconst (v := iI 0) hx hb dqM_findForce_52 rfl ?_
              refine q_zast (i := k) (x := 0) hx hb hK hP hD hS 3 2 rfl rfl (by omega) (by omega) (by omega) (by omega) dqM_findForce_53 (fun H locs hP hD hS => ?_)
              have hP : va_P D vwCl [(mx, .inr (8, [.int (iI b), .int (iI mo), .int (iI n), .ref ptm, .ref plw, .ref pbr, .ref pit, .ref ple, .ref pri, .int (iI nu), .int (iI nl), .ref prf, .ref prt, .ref prw, .ref pir, .int (iI hl1), .int (iI fi), .int (iI la), .int (iI ov), .long (lI av), .long (lI bw), .ref pse, .ref psp, .int (iI hm1), .int (iI lc), .long (lI cst), .ref pbg, .ref pwk, .ref pgv, .long (lI 0), .long (lI 1), .ref pbc, .ref pbl, .ref pbe])), (pwk, .inl (cI, 24, .inl (ai wf))), (psp, .inl (cJ, 24, .inr (.inl (al pf)))), (pgv, .inl (cZ, 24, .inl (ai (up gv3 k 0))))] H := hP
              have hD : va_D A [(mx, .inr (8, [.int (iI b), .int (iI mo), .int (iI n), .ref ptm, .ref plw, .ref pbr, .ref pit, .ref ple, .ref pri, .int (iI nu), .int (iI nl), .ref prf, .ref prt, .ref prw, .ref pir, .int (iI hl1), .int (iI fi), .int (iI la), .int (iI ov), .long (lI av), .long (lI bw), .ref pse, .ref psp, .int (iI hm1), .int (iI lc), .long (lI cst), .ref pbg, .ref pwk, .ref pgv, .long (lI 0), .long (lI 1), .ref pbc, .ref pbl, .ref pbe])), (pwk, .inl (cI, 24, .inl (ai wf))), (psp, .inl (cJ, 24, .inr (.inl (al pf)))), (pgv, .inl (cZ, 24, .inl (ai (up gv3 k 0))))] := hD
              refine lv_iinc (v := iI (k + 1)) (lv' := [(6, .int (iI (k + 1))), (4, .long (lI v3)), (0, .ref mx), (1, .int (iI f)), (2, .int (iI g)), (3, .int (iI x))]) hx hb dqM_findForce_54 hl (k := 0) rfl (iI_add _ _) (by decide) rfl (fun ls hl => ?_)
              refine lv_goto (tgt := 40) hx hb dqM_findForce_57 (by decide) ?_
              exact ih_40 (k + 1) (up gv3 k 0) H locs ls (by omega) (by omega) hz.up (hb3.up (by omega)) (by omega) hP hD hS (lv_sub hl [0, 1, 2, 3, 4, 5] rfl)
        exact loop_40 (Int.toNat (g - f) + 1) f gv H locs ls (by omega) (by omega) ZB.nil hG (by omega) hP hD hS (lv_sub hl [0, 1, 2, 3, 4, 5] rfl)
      · have c_33 := bl_f hw_z5 c_33
        exact hret H locs _ ls (0, 1, gv) hS (⟨by (try dsimp only); omega, by (try dsimp only); omega, hG⟩) hP hD dqM_findForce_36
  rw [hH0, hL0] at goal
  exact goal
def rm_M_need : Room := { frames := 2, cells := 0, slots := 0, locals := 54 }
set_option maxHeartbeats 4000000 in
set_option maxRecDepth 100000 in
theorem c_M_need (l : Launch) (D : va_G) (cI cJ cZ : ClassId) (mx : Nat) (f : Int) (g : Int) (x : Int) (p1 : Int) (p2 : Int) (b : Int) (mo : Int) (n : Int) (ptm : Nat) (plw : Nat) (pbr : Nat) (pit : Nat) (ple : Nat) (pri : Nat) (nu : Int) (nl : Int) (prf : Nat) (prt : Nat) (prw : Nat) (pir : Nat) (hl1 : Int) (fi : Int) (la : Int) (ov : Int) (av : Int) (bw : Int) (pse : Nat) (psp : Nat) (hm1 : Int) (lc : Int) (cst : Int) (pbg : Nat) (pwk : Nat) (pgv : Nat) (fa : Int) (fb : Int) (pbc : Nat) (pbl : Nat) (pbe : Nat) (wf : Int → Int) (pf : Int → Int) (gv : Int → Int) (h1 : 0 ≤ f) (h2 : f < g) (h3 : g ≤ 23) (hSP : SPB pf) (hG : B01 24 gv) (h6 : -2147483648 ≤ x) (h7 : x ≤ 2147483647) (h8 : -2147483648 ≤ p1) (h9 : p1 ≤ 2147483647) (h10 : -2147483648 ≤ p2) (h11 : p2 ≤ 2147483647) : Mv l yqM_need wsqM_need rm_M_need D cI cJ cZ [.ref mx, .int (iI f), .int (iI g), .int (iI x), .int (iI p1), .int (iI p2)] [(mx, .inr (8, [.int (iI b), .int (iI mo), .int (iI n), .ref ptm, .ref plw, .ref pbr, .ref pit, .ref ple, .ref pri, .int (iI nu), .int (iI nl), .ref prf, .ref prt, .ref prw, .ref pir, .int (iI hl1), .int (iI fi), .int (iI la), .int (iI ov), .long (lI av), .long (lI bw), .ref pse, .ref psp, .int (iI hm1), .int (iI lc), .long (lI cst), .ref pbg, .ref pwk, .ref pgv, .long (lI fa), .long (lI fb), .ref pbc, .ref pbl, .ref pbe])), (pwk, .inl (cI, 24, .inl (ai wf))), (psp, .inl (cJ, 24, .inr (.inl (al pf)))), (pgv, .inl (cZ, 24, .inl (ai gv)))] (S := Int × Int × (Int → Int) × (Int → Int)) (fun u => B01 24 u.2.2.1) (fun u => [(mx, .inr (8, [.int (iI b), .int (iI mo), .int (iI n), .ref ptm, .ref plw, .ref pbr, .ref pit, .ref ple, .ref pri, .int (iI nu), .int (iI nl), .ref prf, .ref prt, .ref prw, .ref pir, .int (iI hl1), .int (iI fi), .int (iI la), .int (iI ov), .long (lI av), .long (lI bw), .ref pse, .ref psp, .int (iI hm1), .int (iI lc), .long (lI cst), .ref pbg, .ref pwk, .ref pgv, .long (lI u.1), .long (lI u.2.1), .ref pbc, .ref pbl, .ref pbe])), (pwk, .inl (cI, 24, .inl (ai u.2.2.2))), (psp, .inl (cJ, 24, .inr (.inl (al pf)))), (pgv, .inl (cZ, 24, .inl (ai u.2.2.1)))]) 0 0 := by
  refine en_v (cc := cqM_need) (maxL := 9) (by decide +kernel) rfl (Nat.le_of_ble_eq_true rfl) ?_
  intro p e s m args below meth c A Q hx hb hml hin hts hown hA hP hK hD hN hS hret ls hl
  have hl : lv_has ls 9 [(0, .ref mx), (1, .int (iI f)), (2, .int (iI g)), (3, .int (iI x)), (4, .int (iI p1)), (5, .int (iI p2))] := hl
  obtain ⟨H, hH0⟩ : ∃ H, H = s.heap := ⟨_, rfl⟩
  obtain ⟨locs, hL0⟩ : ∃ locs : List Loc, locs = [] := ⟨_, rfl⟩
  rw [← hH0] at hP
  have hS : va_S A s.heap H locs := by rw [hH0, hL0]; exact hS
  have goal : W p l e rm_M_need s m args below meth c H locs 0 0 Q (F0 m 0 ls []) := by
    refine lv_iload_n hx hb dqM_need_0 rfl (lv_at hl 1 rfl) ?_
    refine lv_iload hx hb dqM_need_1 (lv_at hl 4 rfl) ?_
    refine q_icmp_lt (tgt := 22) hx hb dqM_need_3 (by decide) (by omega) (by omega) (by omega) (by omega) (fun c_3 => ?_) (fun c_3 => ?_)
    · exact hret H locs _ ls (fa, fb, gv, wf) hS (by first | exact hG | exact o3) hP hD dqM_need_22
    · refine lv_iload_n hx hb dqM_need_6 rfl (lv_at hl 2 rfl) ?_
      refine lv_iload hx hb dqM_need_7 (lv_at hl 5 rfl) ?_
      refine q_icmp_gt (tgt := 22) hx hb dqM_need_9 (by decide) (by omega) (by omega) (by omega) (by omega) (fun c_9 => ?_) (fun c_9 => ?_)
      · exact hret H locs _ ls (fa, fb, gv, wf) hS (by first | exact hG | exact o3) hP hD dqM_need_22
      · refine lv_aload_n hx hb dqM_need_12 rfl (lv_at hl 0 rfl) ?_
        refine lv_iload_n hx hb dqM_need_13 rfl (lv_at hl 1 rfl) ?_
        refine lv_iload_n hx hb dqM_need_14 rfl (lv_at hl 2 rfl) ?_
        refine af_i (wr := [(psp, .inl (cJ, 24, .inr (.inl (al pf)))), (pgv, .inl (cZ, 24, .inl (ai gv)))]) (va_runV (As := [.int (iI f), .int (iI g)]) (rest := []) ⟨hx, hb, hml, hown, hts⟩ (c_M_sum l D cI cJ cZ mx f g b mo n ptm plw pbr pit ple pri nu nl prf prt prw pir hl1 fi la ov av bw pse psp hm1 lc cst pbg pwk pgv fa fb pbc pbl pbe wf (by omega) (by omega) (by omega) (by omega) H.size) (cwV 2 hts (gi_V tb_813 tb_815 tb_16 tb_33 tb_816) rfl rfl rfl (by decide +kernel) ⟨Nat.le_of_ble_eq_true rfl, Nat.le_of_ble_eq_true rfl⟩) (pre_V (ci := 8) (q0 := 0) hK hN hP hD [0, 1] rfl rfl rfl rfl) rfl rfl hl.1 rfl (lv_room (Nat.le_of_ble_eq_true rfl)) dqM_need_15 ⟨by first | omega | decide, by first | omega | decide⟩) hA hP hD hS [0, 1] [2, 3] rfl rfl (by decide +kernel) (by decide +kernel) (fun z1 u2 H locs hw_z1 hP hD hS => ?_)
        have hP : va_P D vwCl [(mx, .inr (8, [.int (iI b), .int (iI mo), .int (iI n), .ref ptm, .ref plw, .ref pbr, .ref pit, .ref ple, .ref pri, .int (iI nu), .int (iI nl), .ref prf, .ref prt, .ref prw, .ref pir, .int (iI hl1), .int (iI fi), .int (iI la), .int (iI ov), .long (lI av), .long (lI bw), .ref pse, .ref psp, .int (iI hm1), .int (iI lc), .long (lI cst), .ref pbg, .ref pwk, .ref pgv, .long (lI fa), .long (lI fb), .ref pbc, .ref pbl, .ref pbe])), (pwk, .inl (cI, 24, .inl (ai wf))), (psp, .inl (cJ, 24, .inr (.inl (al pf)))), (pgv, .inl (cZ, 24, .inl (ai gv)))] H := hP.sub [2, 3, 0, 1] rfl
        have hD : va_D A [(mx, .inr (8, [.int (iI b), .int (iI mo), .int (iI n), .ref ptm, .ref plw, .ref pbr, .ref pit, .ref ple, .ref pri, .int (iI nu), .int (iI nl), .ref prf, .ref prt, .ref prw, .ref pir, .int (iI hl1), .int (iI fi), .int (iI la), .int (iI ov), .long (lI av), .long (lI bw), .ref pse, .ref psp, .int (iI hm1), .int (iI lc), .long (lI cst), .ref pbg, .ref pwk, .ref pgv, .long (lI fa), .long (lI fb), .ref pbc, .ref pbl, .ref pbe])), (pwk, .inl (cI, 24, .inl (ai wf))), (psp, .inl (cJ, 24, .inr (.inl (al pf)))), (pgv, .inl (cZ, 24, .inl (ai gv)))] := hD.sub [2, 3, 0, 1] (by decide +kernel) rfl
        have hw_z1 : -2147483648 ≤ z1 ∧ z1 ≤ 2147483647 := hw_z1
        refine lv_iload_n hx hb dqM_need_18 rfl (lv_at hl 3 rfl) ?_
        refine q_icmp_lt (tgt := 23) hx hb dqM_need_19 (by decide) (by omega) (by omega) (by omega) (by omega) (fun c_19 => ?_) (fun c_19 => ?_)
        · refine lv_aload_n hx hb dqM_need_23 rfl (lv_at hl 0 rfl) ?_
          refine lv_iload_n hx hb dqM_need_24 rfl (lv_at hl 1 rfl) ?_
          refine lv_iload_n hx hb dqM_need_25 rfl (lv_at hl 2 rfl) ?_
          refine af_i (wr := [(pwk, .inl (cI, 24, .inl (ai wf))), (pgv, .inl (cZ, 24, .inl (ai gv)))]) (va_runV (As := [.int (iI f), .int (iI g)]) (rest := []) ⟨hx, hb, hml, hown, hts⟩ (c_M_hasSpring l D cI cJ cZ mx f g b mo n ptm plw pbr pit ple pri nu nl prf prt prw pir hl1 fi la ov av bw pse psp hm1 lc cst pbg pwk pgv fa fb pbc pbl pbe pf (by omega) (by omega) (by omega) (by omega) hSP H.size) (cwV 2 hts (gi_V tb_817 tb_819 tb_17 tb_33 tb_820) rfl rfl rfl (by decide +kernel) ⟨Nat.le_of_ble_eq_true rfl, Nat.le_of_ble_eq_true rfl⟩) (pre_V (ci := 8) (q0 := 0) hK hN hP hD [0, 2] rfl rfl rfl rfl) rfl rfl hl.1 rfl (lv_room (Nat.le_of_ble_eq_true rfl)) dqM_need_26 ⟨by first | omega | decide, by first | omega | decide⟩) hA hP hD hS [0, 2] [1, 3] rfl rfl (by decide +kernel) (by decide +kernel) (fun z3 u4 H locs hw_z3 hP hD hS => ?_)
          have hP : va_P D vwCl [(mx, .inr (8, [.int (iI b), .int (iI mo), .int (iI n), .ref ptm, .ref plw, .ref pbr, .ref pit, .ref ple, .ref pri, .int (iI nu), .int (iI nl), .ref prf, .ref prt, .ref prw, .ref pir, .int (iI hl1), .int (iI fi), .int (iI la), .int (iI ov), .long (lI av), .long (lI bw), .ref pse, .ref psp, .int (iI hm1), .int (iI lc), .long (lI cst), .ref pbg, .ref pwk, .ref pgv, .long (lI fa), .long (lI fb), .ref pbc, .ref pbl, .ref pbe])), (pwk, .inl (cI, 24, .inl (ai wf))), (psp, .inl (cJ, 24, .inr (.inl (al pf)))), (pgv, .inl (cZ, 24, .inl (ai gv)))] H := hP.sub [2, 0, 3, 1] rfl
          have hD : va_D A [(mx, .inr (8, [.int (iI b), .int (iI mo), .int (iI n), .ref ptm, .ref plw, .ref pbr, .ref pit, .ref ple, .ref pri, .int (iI nu), .int (iI nl), .ref prf, .ref prt, .ref prw, .ref pir, .int (iI hl1), .int (iI fi), .int (iI la), .int (iI ov), .long (lI av), .long (lI bw), .ref pse, .ref psp, .int (iI hm1), .int (iI lc), .long (lI cst), .ref pbg, .ref pwk, .ref pgv, .long (lI fa), .long (lI fb), .ref pbc, .ref pbl, .ref pbe])), (pwk, .inl (cI, 24, .inl (ai wf))), (psp, .inl (cJ, 24, .inr (.inl (al pf)))), (pgv, .inl (cZ, 24, .inl (ai gv)))] := hD.sub [2, 0, 3, 1] (by decide +kernel) rfl
          have hw_z3 : bl z3 (∃ j, f ≤ j ∧ j < g ∧ 0 < pf j) := hw_z3
          refine q_if_ne (tgt := 52) hx hb dqM_need_29 (by decide) (bl_1 hw_z3) (bl_2 hw_z3) (fun c_29 => ?_) (fun c_29 => ?_)
          · have c_29 := bl_t hw_z3 c_29
            refine lv_aload_n hx hb dqM_need_52 rfl (lv_at hl 0 rfl) ?_
            refine lv_iload_n hx hb dqM_need_53 rfl (lv_at hl 1 rfl) ?_
            refine lv_iload_n hx hb dqM_need_54 rfl (lv_at hl 2 rfl) ?_
            refine lv_iload_n hx hb dqM_need_55 rfl (lv_at hl 3 rfl) ?_
            refine af_v (wr := []) (va_runV (As := [.int (iI f), .int (iI g), .int (iI x)]) (rest := []) ⟨hx, hb, hml, hown, hts⟩ (c_M_findForce l D cI cJ cZ mx f g x b mo n ptm plw pbr pit ple pri nu nl prf prt prw pir hl1 fi la ov av bw pse psp hm1 lc cst pbg pwk pgv fa fb pbc pbl pbe wf pf gv (by omega) (by omega) (by omega) hSP hG (by omega) (by omega) H.size) (cwV 3 hts (gi_V tb_821 tb_823 tb_18 tb_33 tb_824) rfl rfl rfl (by decide +kernel) ⟨Nat.le_of_ble_eq_true rfl, Nat.le_of_ble_eq_true rfl⟩) (pre_V (ci := 8) (q0 := 0) hK hN hP hD [0, 1, 2, 3] rfl rfl rfl rfl) rfl rfl hl.1 rfl (lv_room (Nat.le_of_ble_eq_true rfl)) dqM_need_56 ⟨by first | omega | decide, by first | omega | decide⟩) hA hP hD hS [0, 1, 2, 3] [] rfl rfl (by decide +kernel) (by decide +kernel) (fun u6 H locs hw_z5 hP hD hS => ?_)
            obtain ⟨fa2_7, fb2_8, gv2_9⟩ := u6
            have hP : va_P D vwCl [(mx, .inr (8, [.int (iI b), .int (iI mo), .int (iI n), .ref ptm, .ref plw, .ref pbr, .ref pit, .ref ple, .ref pri, .int (iI nu), .int (iI nl), .ref prf, .ref prt, .ref prw, .ref pir, .int (iI hl1), .int (iI fi), .int (iI la), .int (iI ov), .long (lI av), .long (lI bw), .ref pse, .ref psp, .int (iI hm1), .int (iI lc), .long (lI cst), .ref pbg, .ref pwk, .ref pgv, .long (lI fa2_7), .long (lI fb2_8), .ref pbc, .ref pbl, .ref pbe])), (pwk, .inl (cI, 24, .inl (ai wf))), (psp, .inl (cJ, 24, .inr (.inl (al pf)))), (pgv, .inl (cZ, 24, .inl (ai gv2_9)))] H := hP
            have hD : va_D A [(mx, .inr (8, [.int (iI b), .int (iI mo), .int (iI n), .ref ptm, .ref plw, .ref pbr, .ref pit, .ref ple, .ref pri, .int (iI nu), .int (iI nl), .ref prf, .ref prt, .ref prw, .ref pir, .int (iI hl1), .int (iI fi), .int (iI la), .int (iI ov), .long (lI av), .long (lI bw), .ref pse, .ref psp, .int (iI hm1), .int (iI lc), .long (lI cst), .ref pbg, .ref pwk, .ref pgv, .long (lI fa2_7), .long (lI fb2_8), .ref pbc, .ref pbl, .ref pbe])), (pwk, .inl (cI, 24, .inl (ai wf))), (psp, .inl (cJ, 24, .inr (.inl (al pf)))), (pgv, .inl (cZ, 24, .inl (ai gv2_9)))] := hD
            have hw_z5 : 1 ≤ fb2_8 ∧ fb2_8 ≤ 3221225472 ∧ B01 24 gv2_9 := hw_z5
            obtain ⟨o1, o2, o3⟩ := hw_z5
            refine lv_iload_n hx hb dqM_need_59 rfl (lv_at hl 1 rfl) ?_
            refine lv_istore (lv' := [(6, .int (iI f)), (0, .ref mx), (1, .int (iI f)), (2, .int (iI g)), (3, .int (iI x)), (4, .int (iI p1)), (5, .int (iI p2))]) hx hb dqM_need_60 hl (by decide) rfl (fun ls hl => ?_)
            have loop_62 : ∀ (n9 : Nat), ∀ (k : Int) (wf3 : Int → Int) (H : Heap) (locs : List Loc) (ls : Array Slot), (f ≤ k) → (k ≤ g) → ((g - k).toNat < n9) → va_P D vwCl [(mx, .inr (8, [.int (iI b), .int (iI mo), .int (iI n), .ref ptm, .ref plw, .ref pbr, .ref pit, .ref ple, .ref pri, .int (iI nu), .int (iI nl), .ref prf, .ref prt, .ref prw, .ref pir, .int (iI hl1), .int (iI fi), .int (iI la), .int (iI ov), .long (lI av), .long (lI bw), .ref pse, .ref psp, .int (iI hm1), .int (iI lc), .long (lI cst), .ref pbg, .ref pwk, .ref pgv, .long (lI fa2_7), .long (lI fb2_8), .ref pbc, .ref pbl, .ref pbe])), (pwk, .inl (cI, 24, .inl (ai wf3))), (psp, .inl (cJ, 24, .inr (.inl (al pf)))), (pgv, .inl (cZ, 24, .inl (ai gv2_9)))] H → va_D A [(mx, .inr (8, [.int (iI b), .int (iI mo), .int (iI n), .ref ptm, .ref plw, .ref pbr, .ref pit, .ref ple, .ref pri, .int (iI nu), .int (iI nl), .ref prf, .ref prt, .ref prw, .ref pir, .int (iI hl1), .int (iI fi), .int (iI la), .int (iI ov), .long (lI av), .long (lI bw), .ref pse, .ref psp, .int (iI hm1), .int (iI lc), .long (lI cst), .ref pbg, .ref pwk, .ref pgv, .long (lI fa2_7), .long (lI fb2_8), .ref pbc, .ref pbl, .ref pbe])), (pwk, .inl (cI, 24, .inl (ai wf3))), (psp, .inl (cJ, 24, .inr (.inl (al pf)))), (pgv, .inl (cZ, 24, .inl (ai gv2_9)))] → va_S A s.heap H locs → lv_has ls 9 [(6, .int (iI k)), (0, .ref mx), (1, .int (iI f)), (2, .int (iI g)), (3, .int (iI x)), (4, .int (iI p1)), (5, .int (iI p2))] → W p l e rm_M_need s m args below meth c H locs 0 0 Q (F0 m 62 ls []) := by
              intro n9
              induction n9 with
              | zero =>
                intro k wf3 H locs ls k1 k2 hm9
                exact absurd hm9 (by omega)
              | succ n9 ih_62 =>
                intro k wf3 H locs ls k1 k2 hm9 hP hD hS hl
                refine lv_iload hx hb dqM_need_62 (lv_at hl 0 rfl) ?_
                refine lv_iload_n hx hb dqM_need_64 rfl (lv_at hl 3 rfl) ?_
                refine q_icmp_ge (tgt := 134) hx hb dqM_need_65 (by decide) (by omega) (by omega) (by omega) (by omega) (fun c_65 => ?_) (fun c_65 => ?_)
                · exact hret H locs _ ls (fa2_7, fb2_8, gv2_9, wf3) hS (by first | exact hG | exact o3) hP hD dqM_need_134
                · refine lv_aload_n hx hb dqM_need_68 rfl (lv_at hl 1 rfl) ?_
                  refine va_get (D := D) (ci := 8) (v := .long (lI fa2_7)) (C := RqM) (T := TqM) (N := 34) hx hb hts (in_c inqM) hown hK hP 0 rfl rfl 29 (by decide) (hts (.fieldLink RqM 110 "SpringSpacesModel" "forceAbove" "J") (List.mem_cons_of_mem _ tb_667)) (fun _ h9 => h9) rfl dqM_need_69 ?_
                  refine lv_aload_n hx hb dqM_need_72 rfl (lv_at hl 1 rfl) ?_
                  refine va_get (D := D) (ci := 8) (v := .ref psp) (C := RqM) (T := TqM) (N := 34) hx hb hts (in_c inqM) hown hK hP 0 rfl rfl 22 (by decide) (hts (.fieldLink RqM 55 "SpringSpacesModel" "springs" "[J") (List.mem_cons_of_mem _ tb_660)) (fun _ h9 => h9) rfl dqM_need_73 ?_
                  refine lv_iload hx hb dqM_need_76 (lv_at hl 0 rfl) ?_
                  refine q_lald (i := k) hx hb hK hP 2 1 rfl rfl (by omega) (by omega) (by omega) dqM_need_78 ?_
                  refine hv_l (fun v10 v10a v10b => ?_)
                  refine q_lmul hx hb dqM_need_79 ?_
                  refine hv_l (fun v11 v11a v11b => ?_)
                  refine lv_aload_n hx hb dqM_need_80 rfl (lv_at hl 1 rfl) ?_
                  refine va_get (D := D) (ci := 8) (v := .long (lI fb2_8)) (C := RqM) (T := TqM) (N := 34) hx hb hts (in_c inqM) hown hK hP 0 rfl rfl 30 (by decide) (hts (.fieldLink RqM 113 "SpringSpacesModel" "forceBelow" "J") (List.mem_cons_of_mem _ tb_668)) (fun _ h9 => h9) rfl dqM_need_81 ?_
                  refine q_ladd hx hb dqM_need_84 ?_
                  refine hv_l (fun v12 v12a v12b => ?_)
                  refine lv_lconst (v := lI 1) hx hb dqM_need_85 (by decide +kernel) ?_
                  refine q_lsub hx hb dqM_need_86 ?_
                  refine hv_l (fun v13 v13a v13b => ?_)
                  refine lv_aload_n hx hb dqM_need_87 rfl (lv_at hl 1 rfl) ?_
                  refine va_get (D := D) (ci := 8) (v := .long (lI fb2_8)) (C := RqM) (T := TqM) (N := 34) hx hb hts (in_c inqM) hown hK hP 0 rfl rfl 30 (by decide) (hts (.fieldLink RqM 113 "SpringSpacesModel" "forceBelow" "J") (List.mem_cons_of_mem _ tb_668)) (fun _ h9 => h9) rfl dqM_need_88 ?_
                  refine q_ldiv_w hx hb dqM_need_91 (by omega) (by omega) (by omega) (fun v14 v14a v14b => ?_)
                  refine lv_lstore (lv' := [(7, .long (lI v14)), (6, .int (iI k)), (0, .ref mx), (1, .int (iI f)), (2, .int (iI g)), (3, .int (iI x)), (4, .int (iI p1)), (5, .int (iI p2))]) hx hb dqM_need_92 hl (by decide) rfl (fun ls hl => ?_)
                  refine lv_aload_n hx hb dqM_need_94 rfl (lv_at hl 2 rfl) ?_
                  refine va_get (D := D) (ci := 8) (v := .ref pwk) (C := RqM) (T := TqM) (N := 34) hx hb hts (in_c inqM) hown hK hP 0 rfl rfl 27 (by decide) (hts (.fieldLink RqM 62 "SpringSpacesModel" "work" "[I") (List.mem_cons_of_mem _ tb_665)) (fun _ h9 => h9) rfl dqM_need_95 ?_
                  refine lv_iload hx hb dqM_need_98 (lv_at hl 1 rfl) ?_
                  refine lv_lload hx hb dqM_need_100 (lv_at hl 0 rfl) ?_
                  refine lv_aload_n hx hb dqM_need_102 rfl (lv_at hl 2 rfl) ?_
                  refine va_get (D := D) (ci := 8) (v := .ref pwk) (C := RqM) (T := TqM) (N := 34) hx hb hts (in_c inqM) hown hK hP 0 rfl rfl 27 (by decide) (hts (.fieldLink RqM 62 "SpringSpacesModel" "work" "[I") (List.mem_cons_of_mem _ tb_665)) (fun _ h9 => h9) rfl dqM_need_103 ?_
                  refine lv_iload hx hb dqM_need_106 (lv_at hl 1 rfl) ?_
                  refine q_iald (i := k) hx hb hK hP 1 0 rfl rfl (by omega) (by omega) (by omega) dqM_need_108 ?_
                  refine q_i2l_w hx hb dqM_need_109 (fun v15 v15a v15b => ?_)
                  refine q_lw_le (tgt := 120) hx hb dqM_need_110 dqM_need_111 (by decide) ?_ ?_
                  · refine lv_aload_n hx hb dqM_need_120 rfl (lv_at hl 2 rfl) ?_
                    refine va_get (D := D) (ci := 8) (v := .ref pwk) (C := RqM) (T := TqM) (N := 34) hx hb hts (in_c inqM) hown hK hP 0 rfl rfl 27 (by decide) (hts (.fieldLink RqM 62 "SpringSpacesModel" "work" "[I") (List.mem_cons_of_mem _ tb_665)) (fun _ h9 => h9) rfl dqM_need_121 ?_
                    refine lv_iload hx hb dqM_need_124 (lv_at hl 1 rfl) ?_
                    refine q_iald (i := k) hx hb hK hP 1 0 rfl rfl (by omega) (by omega) (by omega) dqM_need_126 ?_
                    refine q_iast (i := k) (x := wf3 k) hx hb hK hP hD hS 1 0 rfl rfl (by omega) (by omega) (by omega) dqM_need_127 (fun H locs hP hD hS => ?_)
                    have hP : va_P D vwCl [(mx, .inr (8, [.int (iI b), .int (iI mo), .int (iI n), .ref ptm, .ref plw, .ref pbr, .ref pit, .ref ple, .ref pri, .int (iI nu), .int (iI nl), .ref prf, .ref prt, .ref prw, .ref pir, .int (iI hl1), .int (iI fi), .int (iI la), .int (iI ov), .long (lI av), .long (lI bw), .ref pse, .ref psp, .int (iI hm1), .int (iI lc), .long (lI cst), .ref pbg, .ref pwk, .ref pgv, .long (lI fa2_7), .long (lI fb2_8), .ref pbc, .ref pbl, .ref pbe])), (pwk, .inl (cI, 24, .inl (ai (up wf3 k (wf3 k))))), (psp, .inl (cJ, 24, .inr (.inl (al pf)))), (pgv, .inl (cZ, 24, .inl (ai gv2_9)))] H := hP
                    have hD : va_D A [(mx, .inr (8, [.int (iI b), .int (iI mo), .int (iI n), .ref ptm, .ref plw, .ref pbr, .ref pit, .ref ple, .ref pri, .int (iI nu), .int (iI nl), .ref prf, .ref prt, .ref prw, .ref pir, .int (iI hl1), .int (iI fi), .int (iI la), .int (iI ov), .long (lI av), .long (lI bw), .ref pse, .ref psp, .int (iI hm1), .int (iI lc), .long (lI cst), .ref pbg, .ref pwk, .ref pgv, .long (lI fa2_7), .long (lI fb2_8), .ref pbc, .ref pbl, .ref pbe])), (pwk, .inl (cI, 24, .inl (ai (up wf3 k (wf3 k))))), (psp, .inl (cJ, 24, .inr (.inl (al pf)))), (pgv, .inl (cZ, 24, .inl (ai gv2_9)))] := hD
                    refine lv_iinc (v := iI (k + 1)) (lv' := [(6, .int (iI (k + 1))), (7, .long (lI v14)), (0, .ref mx), (1, .int (iI f)), (2, .int (iI g)), (3, .int (iI x)), (4, .int (iI p1)), (5, .int (iI p2))]) hx hb dqM_need_128 hl (k := 1) rfl (iI_add _ _) (by decide) rfl (fun ls hl => ?_)
                    refine lv_goto (tgt := 62) hx hb dqM_need_131 (by decide) ?_
                    exact ih_62 (k + 1) (up wf3 k (wf3 k)) H locs ls (by omega) (by omega) (by omega) hP hD hS (lv_sub hl [0, 2, 3, 4, 5, 6, 7] rfl)
                  · refine lv_lload hx hb dqM_need_114 (lv_at hl 0 rfl) ?_
                    refine q_l2i hx hb dqM_need_116 ?_
                    refine lv_goto (tgt := 127) hx hb dqM_need_117 (by decide) ?_
                    refine q_iast (i := k) (x := v14) hx hb hK hP hD hS 1 0 rfl rfl (by omega) (by omega) (by omega) dqM_need_127 (fun H locs hP hD hS => ?_)
                    have hP : va_P D vwCl [(mx, .inr (8, [.int (iI b), .int (iI mo), .int (iI n), .ref ptm, .ref plw, .ref pbr, .ref pit, .ref ple, .ref pri, .int (iI nu), .int (iI nl), .ref prf, .ref prt, .ref prw, .ref pir, .int (iI hl1), .int (iI fi), .int (iI la), .int (iI ov), .long (lI av), .long (lI bw), .ref pse, .ref psp, .int (iI hm1), .int (iI lc), .long (lI cst), .ref pbg, .ref pwk, .ref pgv, .long (lI fa2_7), .long (lI fb2_8), .ref pbc, .ref pbl, .ref pbe])), (pwk, .inl (cI, 24, .inl (ai (up wf3 k v14)))), (psp, .inl (cJ, 24, .inr (.inl (al pf)))), (pgv, .inl (cZ, 24, .inl (ai gv2_9)))] H := hP
                    have hD : va_D A [(mx, .inr (8, [.int (iI b), .int (iI mo), .int (iI n), .ref ptm, .ref plw, .ref pbr, .ref pit, .ref ple, .ref pri, .int (iI nu), .int (iI nl), .ref prf, .ref prt, .ref prw, .ref pir, .int (iI hl1), .int (iI fi), .int (iI la), .int (iI ov), .long (lI av), .long (lI bw), .ref pse, .ref psp, .int (iI hm1), .int (iI lc), .long (lI cst), .ref pbg, .ref pwk, .ref pgv, .long (lI fa2_7), .long (lI fb2_8), .ref pbc, .ref pbl, .ref pbe])), (pwk, .inl (cI, 24, .inl (ai (up wf3 k v14)))), (psp, .inl (cJ, 24, .inr (.inl (al pf)))), (pgv, .inl (cZ, 24, .inl (ai gv2_9)))] := hD
                    refine lv_iinc (v := iI (k + 1)) (lv' := [(6, .int (iI (k + 1))), (7, .long (lI v14)), (0, .ref mx), (1, .int (iI f)), (2, .int (iI g)), (3, .int (iI x)), (4, .int (iI p1)), (5, .int (iI p2))]) hx hb dqM_need_128 hl (k := 1) rfl (iI_add _ _) (by decide) rfl (fun ls hl => ?_)
                    refine lv_goto (tgt := 62) hx hb dqM_need_131 (by decide) ?_
                    exact ih_62 (k + 1) (up wf3 k v14) H locs ls (by omega) (by omega) (by omega) hP hD hS (lv_sub hl [0, 2, 3, 4, 5, 6, 7] rfl)
            exact loop_62 (Int.toNat (g - f) + 1) f wf H locs ls (by omega) (by omega) (by omega) hP hD hS (lv_sub hl [0, 1, 2, 3, 4, 5, 6] rfl)
          · have c_29 := bl_f hw_z3 c_29
            refine lv_aload_n hx hb dqM_need_32 rfl (lv_at hl 0 rfl) ?_
            refine va_get (D := D) (ci := 8) (v := .ref pwk) (C := RqM) (T := TqM) (N := 34) hx hb hts (in_c inqM) hown hK hP 0 rfl rfl 27 (by decide) (hts (.fieldLink RqM 62 "SpringSpacesModel" "work" "[I") (List.mem_cons_of_mem _ tb_665)) (fun _ h9 => h9) rfl dqM_need_33 ?_
            refine lv_iload_n hx hb dqM_need_36 rfl (lv_at hl 2 rfl) ?_
            refine lv_iconst (v := iI 1) hx hb dqM_need_37 rfl ?_
            refine q_isub hx hb dqM_need_38 ?_
            refine lv_dup2_11 hx hb dqM_need_39 rfl rfl ?_
            refine q_iald (i := g - 1) hx hb hK hP 1 0 rfl rfl (by omega) (by omega) (by omega) dqM_need_40 ?_
            refine lv_iload_n hx hb dqM_need_41 rfl (lv_at hl 3 rfl) ?_
            refine lv_aload_n hx hb dqM_need_42 rfl (lv_at hl 0 rfl) ?_
            refine lv_iload_n hx hb dqM_need_43 rfl (lv_at hl 1 rfl) ?_
            refine lv_iload_n hx hb dqM_need_44 rfl (lv_at hl 2 rfl) ?_
            refine af_i (wr := [(psp, .inl (cJ, 24, .inr (.inl (al pf)))), (pgv, .inl (cZ, 24, .inl (ai gv)))]) (va_runV (As := [.int (iI f), .int (iI g)]) (rest := [.int (iI x), .int (iI (wf (g - 1))), .int (iI (g - 1)), .ref pwk]) ⟨hx, hb, hml, hown, hts⟩ (c_M_sum l D cI cJ cZ mx f g b mo n ptm plw pbr pit ple pri nu nl prf prt prw pir hl1 fi la ov av bw pse psp hm1 lc cst pbg pwk pgv fa fb pbc pbl pbe wf (by omega) (by omega) (by omega) (by omega) H.size) (cwV 2 hts (gi_V tb_813 tb_815 tb_16 tb_33 tb_816) rfl rfl rfl (by decide +kernel) ⟨Nat.le_of_ble_eq_true rfl, Nat.le_of_ble_eq_true rfl⟩) (pre_V (ci := 8) (q0 := 0) hK hN hP hD [0, 1] rfl rfl rfl rfl) rfl rfl hl.1 rfl (lv_room (Nat.le_of_ble_eq_true rfl)) dqM_need_45 ⟨by first | omega | decide, by first | omega | decide⟩) hA hP hD hS [0, 1] [2, 3] rfl rfl (by decide +kernel) (by decide +kernel) (fun z16 u17 H locs hw_z16 hP hD hS => ?_)
            have hP : va_P D vwCl [(mx, .inr (8, [.int (iI b), .int (iI mo), .int (iI n), .ref ptm, .ref plw, .ref pbr, .ref pit, .ref ple, .ref pri, .int (iI nu), .int (iI nl), .ref prf, .ref prt, .ref prw, .ref pir, .int (iI hl1), .int (iI fi), .int (iI la), .int (iI ov), .long (lI av), .long (lI bw), .ref pse, .ref psp, .int (iI hm1), .int (iI lc), .long (lI cst), .ref pbg, .ref pwk, .ref pgv, .long (lI fa), .long (lI fb), .ref pbc, .ref pbl, .ref pbe])), (pwk, .inl (cI, 24, .inl (ai wf))), (psp, .inl (cJ, 24, .inr (.inl (al pf)))), (pgv, .inl (cZ, 24, .inl (ai gv)))] H := hP.sub [2, 3, 0, 1] rfl
            have hD : va_D A [(mx, .inr (8, [.int (iI b), .int (iI mo), .int (iI n), .ref ptm, .ref plw, .ref pbr, .ref pit, .ref ple, .ref pri, .int (iI nu), .int (iI nl), .ref prf, .ref prt, .ref prw, .ref pir, .int (iI hl1), .int (iI fi), .int (iI la), .int (iI ov), .long (lI av), .long (lI bw), .ref pse, .ref psp, .int (iI hm1), .int (iI lc), .long (lI cst), .ref pbg, .ref pwk, .ref pgv, .long (lI fa), .long (lI fb), .ref pbc, .ref pbl, .ref pbe])), (pwk, .inl (cI, 24, .inl (ai wf))), (psp, .inl (cJ, 24, .inr (.inl (al pf)))), (pgv, .inl (cZ, 24, .inl (ai gv)))] := hD.sub [2, 3, 0, 1] (by decide +kernel) rfl
            have hw_z16 : -2147483648 ≤ z16 ∧ z16 ≤ 2147483647 := hw_z16
            refine q_isub hx hb dqM_need_48 ?_
            refine q_iadd hx hb dqM_need_49 ?_
            refine q_iast (i := g - 1) (x := (wf (g - 1)) + (x - z16)) hx hb hK hP hD hS 1 0 rfl rfl (by omega) (by omega) (by omega) dqM_need_50 (fun H locs hP hD hS => ?_)
            have hP : va_P D vwCl [(mx, .inr (8, [.int (iI b), .int (iI mo), .int (iI n), .ref ptm, .ref plw, .ref pbr, .ref pit, .ref ple, .ref pri, .int (iI nu), .int (iI nl), .ref prf, .ref prt, .ref prw, .ref pir, .int (iI hl1), .int (iI fi), .int (iI la), .int (iI ov), .long (lI av), .long (lI bw), .ref pse, .ref psp, .int (iI hm1), .int (iI lc), .long (lI cst), .ref pbg, .ref pwk, .ref pgv, .long (lI fa), .long (lI fb), .ref pbc, .ref pbl, .ref pbe])), (pwk, .inl (cI, 24, .inl (ai (up wf (g - 1) ((wf (g - 1)) + (x - z16)))))), (psp, .inl (cJ, 24, .inr (.inl (al pf)))), (pgv, .inl (cZ, 24, .inl (ai gv)))] H := hP
            have hD : va_D A [(mx, .inr (8, [.int (iI b), .int (iI mo), .int (iI n), .ref ptm, .ref plw, .ref pbr, .ref pit, .ref ple, .ref pri, .int (iI nu), .int (iI nl), .ref prf, .ref prt, .ref prw, .ref pir, .int (iI hl1), .int (iI fi), .int (iI la), .int (iI ov), .long (lI av), .long (lI bw), .ref pse, .ref psp, .int (iI hm1), .int (iI lc), .long (lI cst), .ref pbg, .ref pwk, .ref pgv, .long (lI fa), .long (lI fb), .ref pbc, .ref pbl, .ref pbe])), (pwk, .inl (cI, 24, .inl (ai (up wf (g - 1) ((wf (g - 1)) + (x - z16)))))), (psp, .inl (cJ, 24, .inr (.inl (al pf)))), (pgv, .inl (cZ, 24, .inl (ai gv)))] := hD
            exact hret H locs _ ls (fa, fb, gv, up wf (g - 1) ((wf (g - 1)) + (x - z16))) hS (by first | exact hG | exact o3) hP hD dqM_need_51
        · exact hret H locs _ ls (fa, fb, gv, wf) hS (by first | exact hG | exact o3) hP hD dqM_need_22
  rw [hH0, hL0] at goal
  exact goal
