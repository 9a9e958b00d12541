def rm_M_level : Room := { frames := 2, cells := 0, slots := 0, locals := 49 }
set_option maxHeartbeats 4000000 in
set_option maxRecDepth 100000 in
theorem c_M_level (l : Launch) (D : va_G) (cI cJ cZ : ClassId) (mx : Nat) (x : Int) (b : Int) (mo : Int) (n : Int) (ptm : Nat) (plw : Nat) (pbr : Nat) (pit : Nat) (ple : Nat) (pri : Nat) (nu : Int) (nl : Int) (prf : Nat) (prt : Nat) (prw : Nat) (pir : Nat) (hl1 : Int) (fi : Int) (la : Int) (ov : Int) (av : Int) (bw : Int) (pse : Nat) (psp : Nat) (hm1 : Int) (lc : Int) (cst : Int) (pbg : Nat) (pwk : Nat) (pgv : Nat) (fa : Int) (fb : Int) (pbc : Nat) (pbl : Nat) (pbe : Nat) (tf : Int → Int) (zf : Int → Int) (pf : Int → Int) (h1 : -2147483648 ≤ x) (h2 : x ≤ 2147483647) (hH : hl1 = 1 → 0 ≤ fi ∧ fi < la ∧ la ≤ n - 1 ∧ 1 ≤ bw ∧ bw ≤ 3221225472) (h4 : hl1 = 0 ∨ hl1 = 1) (h5 : n ≤ 24) (hT : TS n tf) : Mi l yqM_level wsqM_level rm_M_level D cI cJ cZ [.ref mx, .int (iI x)] [(mx, .inr (8, [.int (iI b), .int (iI mo), .int (iI n), .ref ptm, .ref plw, .ref pbr, .ref pit, .ref ple, .ref pri, .int (iI nu), .int (iI nl), .ref prf, .ref prt, .ref prw, .ref pir, .int (iI hl1), .int (iI fi), .int (iI la), .int (iI ov), .long (lI av), .long (lI bw), .ref pse, .ref psp, .int (iI hm1), .int (iI lc), .long (lI cst), .ref pbg, .ref pwk, .ref pgv, .long (lI fa), .long (lI fb), .ref pbc, .ref pbl, .ref pbe])), (ptm, .inl (cI, 24, .inl (ai tf))), (pse, .inl (cI, 24, .inl (ai zf))), (psp, .inl (cJ, 24, .inr (.inl (al pf))))] (S := Unit) (fun z _ => hl1 = 0 → z = -3) (fun _ => [(mx, .inr (8, [.int (iI b), .int (iI mo), .int (iI n), .ref ptm, .ref plw, .ref pbr, .ref pit, .ref ple, .ref pri, .int (iI nu), .int (iI nl), .ref prf, .ref prt, .ref prw, .ref pir, .int (iI hl1), .int (iI fi), .int (iI la), .int (iI ov), .long (lI av), .long (lI bw), .ref pse, .ref psp, .int (iI hm1), .int (iI lc), .long (lI cst), .ref pbg, .ref pwk, .ref pgv, .long (lI fa), .long (lI fb), .ref pbc, .ref pbl, .ref pbe])), (ptm, .inl (cI, 24, .inl (ai tf))), (pse, .inl (cI, 24, .inl (ai zf))), (psp, .inl (cJ, 24, .inr (.inl (al pf))))]) 0 0 := by
  refine en_i (cc := cqM_level) (maxL := 15) (ty := .int) (by decide +kernel) rfl (Nat.le_of_ble_eq_true rfl) ?_
  intro p e s m args below meth c A Q hx hb hml hin hts hown hA hP hK hD hN hS hret ls hl
  have hl : lv_has ls 15 [(0, .ref mx), (1, .int (iI x))] := hl
  obtain ⟨H, hH0⟩ : ∃ H, H = s.heap := ⟨_, rfl⟩
  obtain ⟨locs, hL0⟩ : ∃ locs : List Loc, locs = [] := ⟨_, rfl⟩
  rw [← hH0] at hP
  have hS : va_S A s.heap H locs := by rw [hH0, hL0]; exact hS
  have goal : W p l e rm_M_level s m args below meth c H locs 0 0 Q (F0 m 0 ls []) := by
    refine lv_aload_n hx hb dqM_level_0 rfl (lv_at hl 0 rfl) ?_
    refine va_get (D := D) (ci := 8) (v := .int (iI hl1)) (C := RqM) (T := TqM) (N := 34) hx hb hts (in_c inqM) hown hK hP 0 rfl rfl 15 (by decide) (hts (.fieldLink RqM 77 "SpringSpacesModel" "hasLine" "Z") (List.mem_cons_of_mem _ tb_653)) (fun _ h9 => h9) rfl dqM_level_1 ?_
    refine q_if_ne (tgt := 10) hx hb dqM_level_4 (by decide) (by omega) (by omega) (fun c_4 => ?_) (fun c_4 => ?_)
    · have hh := hH (by omega)
      have t8 := hT.1 fi (by omega) (by omega)
      have t7 := hT.1 la (by omega) (by omega)
      refine lv_iload_n hx hb dqM_level_10 rfl (lv_at hl 1 rfl) ?_
      refine lv_aload_n hx hb dqM_level_11 rfl (lv_at hl 0 rfl) ?_
      refine va_get (D := D) (ci := 8) (v := .ref ptm) (C := RqM) (T := TqM) (N := 34) hx hb hts (in_c inqM) hown hK hP 0 rfl rfl 3 (by decide) (hts (.fieldLink RqM 16 "SpringSpacesModel" "times" "[I") (List.mem_cons_of_mem _ tb_641)) (fun _ h9 => h9) rfl dqM_level_12 ?_
      refine lv_aload_n hx hb dqM_level_15 rfl (lv_at hl 0 rfl) ?_
      refine va_get (D := D) (ci := 8) (v := .int (iI fi)) (C := RqM) (T := TqM) (N := 34) hx hb hts (in_c inqM) hown hK hP 0 rfl rfl 16 (by decide) (hts (.fieldLink RqM 140 "SpringSpacesModel" "first" "I") (List.mem_cons_of_mem _ tb_654)) (fun _ h9 => h9) rfl dqM_level_16 ?_
      refine q_iald (i := fi) hx hb hK hP 1 0 rfl rfl (by omega) (by omega) (by omega) dqM_level_19 ?_
      refine q_icmp_lt (tgt := 36) hx hb dqM_level_20 (by decide) (by omega) (by omega) (by omega) (by omega) (fun c_20 => ?_) (fun c_20 => ?_)
      · refine lv_bipush (v := iI (-2)) hx hb dqM_level_36 (by decide +kernel) ?_
        exact hret H locs _ ls (-2) () rfl hS (by omega) hP hD dqM_level_38
      · refine lv_iload_n hx hb dqM_level_23 rfl (lv_at hl 1 rfl) ?_
        refine lv_aload_n hx hb dqM_level_24 rfl (lv_at hl 0 rfl) ?_
        refine va_get (D := D) (ci := 8) (v := .ref ptm) (C := RqM) (T := TqM) (N := 34) hx hb hts (in_c inqM) hown hK hP 0 rfl rfl 3 (by decide) (hts (.fieldLink RqM 16 "SpringSpacesModel" "times" "[I") (List.mem_cons_of_mem _ tb_641)) (fun _ h9 => h9) rfl dqM_level_25 ?_
        refine lv_aload_n hx hb dqM_level_28 rfl (lv_at hl 0 rfl) ?_
        refine va_get (D := D) (ci := 8) (v := .int (iI la)) (C := RqM) (T := TqM) (N := 34) hx hb hts (in_c inqM) hown hK hP 0 rfl rfl 17 (by decide) (hts (.fieldLink RqM 143 "SpringSpacesModel" "last" "I") (List.mem_cons_of_mem _ tb_655)) (fun _ h9 => h9) rfl dqM_level_29 ?_
        refine q_iald (i := la) hx hb hK hP 1 0 rfl rfl (by omega) (by omega) (by omega) dqM_level_32 ?_
        refine q_icmp_le (tgt := 39) hx hb dqM_level_33 (by decide) (by omega) (by omega) (by omega) (by omega) (fun c_33 => ?_) (fun c_33 => ?_)
        · refine lv_aload_n hx hb dqM_level_39 rfl (lv_at hl 0 rfl) ?_
          refine va_get (D := D) (ci := 8) (v := .int (iI la)) (C := RqM) (T := TqM) (N := 34) hx hb hts (in_c inqM) hown hK hP 0 rfl rfl 17 (by decide) (hts (.fieldLink RqM 143 "SpringSpacesModel" "last" "I") (List.mem_cons_of_mem _ tb_655)) (fun _ h9 => h9) rfl dqM_level_40 ?_
          refine lv_istore_n (lv' := [(2, .int (iI la)), (0, .ref mx), (1, .int (iI x))]) hx hb dqM_level_43 rfl hl (by decide) rfl (fun ls hl => ?_)
          have loop_44 : ∀ (n9 : Nat), ∀ (k : Int) (H : Heap) (locs : List Loc) (ls : Array Slot), (fi ≤ k) → (k ≤ la) → ((k - fi).toNat < n9) → va_P D vwCl [(mx, .inr (8, [.int (iI b), .int (iI mo), .int (iI n), .ref ptm, .ref plw, .ref pbr, .ref pit, .ref ple, .ref pri, .int (iI nu), .int (iI nl), .ref prf, .ref prt, .ref prw, .ref pir, .int (iI hl1), .int (iI fi), .int (iI la), .int (iI ov), .long (lI av), .long (lI bw), .ref pse, .ref psp, .int (iI hm1), .int (iI lc), .long (lI cst), .ref pbg, .ref pwk, .ref pgv, .long (lI fa), .long (lI fb), .ref pbc, .ref pbl, .ref pbe])), (ptm, .inl (cI, 24, .inl (ai tf))), (pse, .inl (cI, 24, .inl (ai zf))), (psp, .inl (cJ, 24, .inr (.inl (al pf))))] H → va_D A [(mx, .inr (8, [.int (iI b), .int (iI mo), .int (iI n), .ref ptm, .ref plw, .ref pbr, .ref pit, .ref ple, .ref pri, .int (iI nu), .int (iI nl), .ref prf, .ref prt, .ref prw, .ref pir, .int (iI hl1), .int (iI fi), .int (iI la), .int (iI ov), .long (lI av), .long (lI bw), .ref pse, .ref psp, .int (iI hm1), .int (iI lc), .long (lI cst), .ref pbg, .ref pwk, .ref pgv, .long (lI fa), .long (lI fb), .ref pbc, .ref pbl, .ref pbe])), (ptm, .inl (cI, 24, .inl (ai tf))), (pse, .inl (cI, 24, .inl (ai zf))), (psp, .inl (cJ, 24, .inr (.inl (al pf))))] → va_S A s.heap H locs → lv_has ls 15 [(2, .int (iI k)), (0, .ref mx), (1, .int (iI x))] → W p l e rm_M_level s m args below meth c H locs 0 0 Q (F0 m 44 ls []) := by
            intro n9
            induction n9 with
            | zero =>
              intro k H locs ls k1 k2 hm9
              exact absurd hm9 (by omega)
            | succ n9 ih_44 =>
              intro k H locs ls k1 k2 hm9 hP hD hS hl
              refine lv_aload_n hx hb dqM_level_44 rfl (lv_at hl 1 rfl) ?_
              have t6 := hT.1 k (by omega) (by omega)
              refine va_get (D := D) (ci := 8) (v := .ref ptm) (C := RqM) (T := TqM) (N := 34) hx hb hts (in_c inqM) hown hK hP 0 rfl rfl 3 (by decide) (hts (.fieldLink RqM 16 "SpringSpacesModel" "times" "[I") (List.mem_cons_of_mem _ tb_641)) (fun _ h9 => h9) rfl dqM_level_45 ?_
              refine lv_iload_n hx hb dqM_level_48 rfl (lv_at hl 0 rfl) ?_
              refine q_iald (i := k) hx hb hK hP 1 0 rfl rfl (by omega) (by omega) (by omega) dqM_level_49 ?_
              refine lv_iload_n hx hb dqM_level_50 rfl (lv_at hl 2 rfl) ?_
              refine q_icmp_le (tgt := 60) hx hb dqM_level_51 (by decide) (by omega) (by omega) (by omega) (by omega) (fun c_51 => ?_) (fun c_51 => ?_)
              · refine lv_aload_n hx hb dqM_level_60 rfl (lv_at hl 1 rfl) ?_
                refine lv_iload_n hx hb dqM_level_61 rfl (lv_at hl 0 rfl) ?_
                refine af_l (wr := [(ptm, .inl (cI, 24, .inl (ai tf)))]) (va_runV (As := [.int (iI k)]) (rest := []) ⟨hx, hb, hml, hown, hts⟩ (c_M_before l D cI cJ cZ mx k b mo n ptm plw pbr pit ple pri nu nl prf prt prw pir hl1 fi la ov av bw pse psp hm1 lc cst pbg pwk pgv fa fb pbc pbl pbe zf pf (by omega) (by omega) (by omega) (by omega) H.size) (cwV 1 hts (gi_V tb_861 tb_863 tb_20 tb_33 tb_864) rfl rfl rfl (by decide +kernel) ⟨Nat.le_of_ble_eq_true rfl, Nat.le_of_ble_eq_true rfl⟩) (pre_V (ci := 8) (q0 := 0) hK hN hP hD [0, 2, 3] rfl rfl rfl rfl) rfl rfl hl.1 rfl (lv_room (Nat.le_of_ble_eq_true rfl)) dqM_level_62 ⟨by first | omega | decide, by first | omega | decide⟩) hA hP hD hS [0, 2, 3] [1] rfl rfl (by decide +kernel) (by decide +kernel) (fun z1 u2 H locs hw_z1 hP hD hS => ?_)
                have hP : va_P D vwCl [(mx, .inr (8, [.int (iI b), .int (iI mo), .int (iI n), .ref ptm, .ref plw, .ref pbr, .ref pit, .ref ple, .ref pri, .int (iI nu), .int (iI nl), .ref prf, .ref prt, .ref prw, .ref pir, .int (iI hl1), .int (iI fi), .int (iI la), .int (iI ov), .long (lI av), .long (lI bw), .ref pse, .ref psp, .int (iI hm1), .int (iI lc), .long (lI cst), .ref pbg, .ref pwk, .ref pgv, .long (lI fa), .long (lI fb), .ref pbc, .ref pbl, .ref pbe])), (ptm, .inl (cI, 24, .inl (ai tf))), (pse, .inl (cI, 24, .inl (ai zf))), (psp, .inl (cJ, 24, .inr (.inl (al pf))))] H := hP.sub [1, 0, 2, 3] rfl
                have hD : va_D A [(mx, .inr (8, [.int (iI b), .int (iI mo), .int (iI n), .ref ptm, .ref plw, .ref pbr, .ref pit, .ref ple, .ref pri, .int (iI nu), .int (iI nl), .ref prf, .ref prt, .ref prw, .ref pir, .int (iI hl1), .int (iI fi), .int (iI la), .int (iI ov), .long (lI av), .long (lI bw), .ref pse, .ref psp, .int (iI hm1), .int (iI lc), .long (lI cst), .ref pbg, .ref pwk, .ref pgv, .long (lI fa), .long (lI fb), .ref pbc, .ref pbl, .ref pbe])), (ptm, .inl (cI, 24, .inl (ai tf))), (pse, .inl (cI, 24, .inl (ai zf))), (psp, .inl (cJ, 24, .inr (.inl (al pf))))] := hD.sub [1, 0, 2, 3] (by decide +kernel) rfl
                have hw_z1 : -9223372036854775808 ≤ z1 ∧ z1 ≤ 9223372036854775807 := hw_z1
                refine lv_lstore_n (lv' := [(3, .long (lI z1)), (2, .int (iI k)), (0, .ref mx), (1, .int (iI x))]) hx hb dqM_level_65 rfl hl (by decide) rfl (fun ls hl => ?_)
                refine lv_iload_n hx hb dqM_level_66 rfl (lv_at hl 1 rfl) ?_
                refine lv_aload_n hx hb dqM_level_67 rfl (lv_at hl 2 rfl) ?_
                refine va_get (D := D) (ci := 8) (v := .int (iI la)) (C := RqM) (T := TqM) (N := 34) hx hb hts (in_c inqM) hown hK hP 0 rfl rfl 17 (by decide) (hts (.fieldLink RqM 143 "SpringSpacesModel" "last" "I") (List.mem_cons_of_mem _ tb_655)) (fun _ h9 => h9) rfl dqM_level_68 ?_
                refine q_icmp_ne (tgt := 82) hx hb dqM_level_71 (by decide) (by omega) (by omega) (by omega) (by omega) (fun c_71 => ?_) (fun c_71 => ?_)
                · have d9 := hT.dur (j := k) (by omega) (by omega)
                  have m9 := mul_b1 (a := bw) (b := tf (k + 1) - tf k) (A := 3221225472) (B := 100000) (by omega) (by omega) (by omega) (by omega)
                  refine lv_aload_n hx hb dqM_level_82 rfl (lv_at hl 2 rfl) ?_
                  refine va_get (D := D) (ci := 8) (v := .ref ptm) (C := RqM) (T := TqM) (N := 34) hx hb hts (in_c inqM) hown hK hP 0 rfl rfl 3 (by decide) (hts (.fieldLink RqM 16 "SpringSpacesModel" "times" "[I") (List.mem_cons_of_mem _ tb_641)) (fun _ h9 => h9) rfl dqM_level_83 ?_
                  refine lv_iload_n hx hb dqM_level_86 rfl (lv_at hl 1 rfl) ?_
                  refine lv_iconst (v := iI 1) hx hb dqM_level_87 rfl ?_
                  refine q_iadd hx hb dqM_level_88 ?_
                  refine q_iald (i := k + 1) hx hb hK hP 1 0 rfl rfl (by omega) (by omega) (by omega) dqM_level_89 ?_
                  refine lv_aload_n hx hb dqM_level_90 rfl (lv_at hl 2 rfl) ?_
                  refine va_get (D := D) (ci := 8) (v := .ref ptm) (C := RqM) (T := TqM) (N := 34) hx hb hts (in_c inqM) hown hK hP 0 rfl rfl 3 (by decide) (hts (.fieldLink RqM 16 "SpringSpacesModel" "times" "[I") (List.mem_cons_of_mem _ tb_641)) (fun _ h9 => h9) rfl dqM_level_91 ?_
                  refine lv_iload_n hx hb dqM_level_94 rfl (lv_at hl 1 rfl) ?_
                  refine q_iald (i := k) hx hb hK hP 1 0 rfl rfl (by omega) (by omega) (by omega) dqM_level_95 ?_
                  refine q_isub hx hb dqM_level_96 ?_
                  refine q_i2l hx hb dqM_level_97 (by omega) (by omega) ?_
                  refine lv_lstore (lv' := [(5, .long (lI ((tf (k + 1)) - (tf k)))), (3, .long (lI z1)), (2, .int (iI k)), (0, .ref mx), (1, .int (iI x))]) hx hb dqM_level_98 hl (by decide) rfl (fun ls hl => ?_)
                  refine lv_iload_n hx hb dqM_level_100 rfl (lv_at hl 4 rfl) ?_
                  refine lv_aload_n hx hb dqM_level_101 rfl (lv_at hl 3 rfl) ?_
                  refine va_get (D := D) (ci := 8) (v := .ref ptm) (C := RqM) (T := TqM) (N := 34) hx hb hts (in_c inqM) hown hK hP 0 rfl rfl 3 (by decide) (hts (.fieldLink RqM 16 "SpringSpacesModel" "times" "[I") (List.mem_cons_of_mem _ tb_641)) (fun _ h9 => h9) rfl dqM_level_102 ?_
                  refine lv_iload_n hx hb dqM_level_105 rfl (lv_at hl 2 rfl) ?_
                  refine q_iald (i := k) hx hb hK hP 1 0 rfl rfl (by omega) (by omega) (by omega) dqM_level_106 ?_
                  refine q_isub hx hb dqM_level_107 ?_
                  refine q_i2l_w hx hb dqM_level_108 (fun v3 v3a v3b => ?_)
                  refine lv_lstore (lv' := [(7, .long (lI v3)), (5, .long (lI ((tf (k + 1)) - (tf k)))), (3, .long (lI z1)), (2, .int (iI k)), (0, .ref mx), (1, .int (iI x))]) hx hb dqM_level_109 hl (by decide) rfl (fun ls hl => ?_)
                  refine lv_aload_n hx hb dqM_level_111 rfl (lv_at hl 4 rfl) ?_
                  refine lv_iload_n hx hb dqM_level_112 rfl (lv_at hl 3 rfl) ?_
                  refine af_l (wr := [(ptm, .inl (cI, 24, .inl (ai tf)))]) (va_runV (As := [.int (iI k)]) (rest := []) ⟨hx, hb, hml, hown, hts⟩ (c_M_wide l D cI cJ cZ mx k b mo n ptm plw pbr pit ple pri nu nl prf prt prw pir hl1 fi la ov av bw pse psp hm1 lc cst pbg pwk pgv fa fb pbc pbl pbe zf pf (by omega) (by omega) H.size) (cwV 1 hts (gi_V tb_849 tb_851 tb_19 tb_33 tb_852) rfl rfl rfl (by decide +kernel) ⟨Nat.le_of_ble_eq_true rfl, Nat.le_of_ble_eq_true rfl⟩) (pre_V (ci := 8) (q0 := 0) hK hN hP hD [0, 2, 3] rfl rfl rfl rfl) rfl rfl hl.1 rfl (lv_room (Nat.le_of_ble_eq_true rfl)) dqM_level_113 ⟨by first | omega | decide, by first | omega | decide⟩) hA hP hD hS [0, 2, 3] [1] rfl rfl (by decide +kernel) (by decide +kernel) (fun z4 u5 H locs hw_z4 hP hD hS => ?_)
                  have hP : va_P D vwCl [(mx, .inr (8, [.int (iI b), .int (iI mo), .int (iI n), .ref ptm, .ref plw, .ref pbr, .ref pit, .ref ple, .ref pri, .int (iI nu), .int (iI nl), .ref prf, .ref prt, .ref prw, .ref pir, .int (iI hl1), .int (iI fi), .int (iI la), .int (iI ov), .long (lI av), .long (lI bw), .ref pse, .ref psp, .int (iI hm1), .int (iI lc), .long (lI cst), .ref pbg, .ref pwk, .ref pgv, .long (lI fa), .long (lI fb), .ref pbc, .ref pbl, .ref pbe])), (ptm, .inl (cI, 24, .inl (ai tf))), (pse, .inl (cI, 24, .inl (ai zf))), (psp, .inl (cJ, 24, .inr (.inl (al pf))))] H := hP.sub [1, 0, 2, 3] rfl
                  have hD : va_D A [(mx, .inr (8, [.int (iI b), .int (iI mo), .int (iI n), .ref ptm, .ref plw, .ref pbr, .ref pit, .ref ple, .ref pri, .int (iI nu), .int (iI nl), .ref prf, .ref prt, .ref prw, .ref pir, .int (iI hl1), .int (iI fi), .int (iI la), .int (iI ov), .long (lI av), .long (lI bw), .ref pse, .ref psp, .int (iI hm1), .int (iI lc), .long (lI cst), .ref pbg, .ref pwk, .ref pgv, .long (lI fa), .long (lI fb), .ref pbc, .ref pbl, .ref pbe])), (ptm, .inl (cI, 24, .inl (ai tf))), (pse, .inl (cI, 24, .inl (ai zf))), (psp, .inl (cJ, 24, .inr (.inl (al pf))))] := hD.sub [1, 0, 2, 3] (by decide +kernel) rfl
                  have hw_z4 : -9223372036854775808 ≤ z4 ∧ z4 ≤ 9223372036854775807 := hw_z4
                  refine lv_lstore (lv' := [(9, .long (lI z4)), (7, .long (lI v3)), (5, .long (lI ((tf (k + 1)) - (tf k)))), (3, .long (lI z1)), (2, .int (iI k)), (0, .ref mx), (1, .int (iI x))]) hx hb dqM_level_116 hl (by decide) rfl (fun ls hl => ?_)
                  refine lv_lload hx hb dqM_level_118 (lv_at hl 0 rfl) ?_
                  refine lv_aload_n hx hb dqM_level_120 rfl (lv_at hl 5 rfl) ?_
                  refine va_get (D := D) (ci := 8) (v := .long (lI bw)) (C := RqM) (T := TqM) (N := 34) hx hb hts (in_c inqM) hown hK hP 0 rfl rfl 20 (by decide) (hts (.fieldLink RqM 48 "SpringSpacesModel" "below" "J") (List.mem_cons_of_mem _ tb_658)) (fun _ h9 => h9) rfl dqM_level_121 ?_
                  refine q_ldiv_w hx hb dqM_level_124 (by omega) (by omega) (by omega) (fun v6 v6a v6b => ?_)
                  refine lv_lload hx hb dqM_level_125 (lv_at hl 1 rfl) ?_
                  refine q_lmul hx hb dqM_level_127 ?_
                  refine hv_l (fun v7 v7a v7b => ?_)
                  refine lv_lstore (lv' := [(11, .long (lI v7)), (9, .long (lI z4)), (7, .long (lI v3)), (5, .long (lI ((tf (k + 1)) - (tf k)))), (3, .long (lI z1)), (2, .int (iI k)), (0, .ref mx), (1, .int (iI x))]) hx hb dqM_level_128 hl (by decide) rfl (fun ls hl => ?_)
                  refine lv_lload_n hx hb dqM_level_130 rfl (lv_at hl 4 rfl) ?_
                  refine lv_aload_n hx hb dqM_level_131 rfl (lv_at hl 6 rfl) ?_
                  refine va_get (D := D) (ci := 8) (v := .long (lI bw)) (C := RqM) (T := TqM) (N := 34) hx hb hts (in_c inqM) hown hK hP 0 rfl rfl 20 (by decide) (hts (.fieldLink RqM 48 "SpringSpacesModel" "below" "J") (List.mem_cons_of_mem _ tb_658)) (fun _ h9 => h9) rfl dqM_level_132 ?_
                  refine q_lrem_w hx hb dqM_level_135 (by omega) (by omega) (by omega) (by omega) (by omega) (fun v8 v8a v8b v8c => ?_)
                  refine lv_lload hx hb dqM_level_136 (lv_at hl 3 rfl) ?_
                  refine q_lmul hx hb dqM_level_138 ?_
                  refine hv_l (fun v9 v9a v9b => ?_)
                  refine lv_lload hx hb dqM_level_139 (lv_at hl 1 rfl) ?_
                  refine lv_aload_n hx hb dqM_level_141 rfl (lv_at hl 6 rfl) ?_
                  refine va_get (D := D) (ci := 8) (v := .long (lI bw)) (C := RqM) (T := TqM) (N := 34) hx hb hts (in_c inqM) hown hK hP 0 rfl rfl 20 (by decide) (hts (.fieldLink RqM 48 "SpringSpacesModel" "below" "J") (List.mem_cons_of_mem _ tb_658)) (fun _ h9 => h9) rfl dqM_level_142 ?_
                  refine q_lrem_w hx hb dqM_level_145 (by omega) (by omega) (by omega) (by omega) (by omega) (fun v10 v10a v10b v10c => ?_)
                  refine lv_lload hx hb dqM_level_146 (lv_at hl 2 rfl) ?_
                  refine q_lmul hx hb dqM_level_148 ?_
                  refine hv_l (fun v11 v11a v11b => ?_)
                  refine q_ladd hx hb dqM_level_149 ?_
                  refine hv_l (fun v12 v12a v12b => ?_)
                  refine lv_lload hx hb dqM_level_150 (lv_at hl 0 rfl) ?_
                  refine lv_lload hx hb dqM_level_152 (lv_at hl 3 rfl) ?_
                  refine q_lrem_w hx hb dqM_level_154 (by omega) (by omega) (by omega) (by omega) (by omega) (fun v13 v13a v13b v13c => ?_)
                  refine lv_aload_n hx hb dqM_level_155 rfl (lv_at hl 6 rfl) ?_
                  refine va_get (D := D) (ci := 8) (v := .long (lI bw)) (C := RqM) (T := TqM) (N := 34) hx hb hts (in_c inqM) hown hK hP 0 rfl rfl 20 (by decide) (hts (.fieldLink RqM 48 "SpringSpacesModel" "below" "J") (List.mem_cons_of_mem _ tb_658)) (fun _ h9 => h9) rfl dqM_level_156 ?_
                  refine q_lmul hx hb dqM_level_159 ?_
                  refine hv_l (fun v14 v14a v14b => ?_)
                  refine q_ladd hx hb dqM_level_160 ?_
                  refine hv_l (fun v15 v15a v15b => ?_)
                  refine lv_lstore (lv' := [(13, .long (lI v15)), (11, .long (lI v7)), (9, .long (lI z4)), (7, .long (lI v3)), (5, .long (lI ((tf (k + 1)) - (tf k)))), (3, .long (lI z1)), (2, .int (iI k)), (0, .ref mx), (1, .int (iI x))]) hx hb dqM_level_161 hl (by decide) rfl (fun ls hl => ?_)
                  refine lv_lload_n hx hb dqM_level_163 rfl (lv_at hl 5 rfl) ?_
                  refine lv_aload_n hx hb dqM_level_164 rfl (lv_at hl 7 rfl) ?_
                  refine va_get (D := D) (ci := 8) (v := .long (lI bw)) (C := RqM) (T := TqM) (N := 34) hx hb hts (in_c inqM) hown hK hP 0 rfl rfl 20 (by decide) (hts (.fieldLink RqM 48 "SpringSpacesModel" "below" "J") (List.mem_cons_of_mem _ tb_658)) (fun _ h9 => h9) rfl dqM_level_165 ?_
                  refine q_ldiv_w hx hb dqM_level_168 (by omega) (by omega) (by omega) (fun v16 v16a v16b => ?_)
                  refine lv_lload hx hb dqM_level_169 (lv_at hl 1 rfl) ?_
                  refine lv_lload hx hb dqM_level_171 (lv_at hl 4 rfl) ?_
                  refine q_ldiv_w hx hb dqM_level_173 (by omega) (by omega) (by omega) (fun v17 v17a v17b => ?_)
                  refine q_ladd hx hb dqM_level_174 ?_
                  refine hv_l (fun v18 v18a v18b => ?_)
                  refine lv_lload hx hb dqM_level_175 (lv_at hl 0 rfl) ?_
                  refine lv_aload_n hx hb dqM_level_177 rfl (lv_at hl 7 rfl) ?_
                  refine va_get (D := D) (ci := 8) (v := .long (lI bw)) (C := RqM) (T := TqM) (N := 34) hx hb hts (in_c inqM) hown hK hP 0 rfl rfl 20 (by decide) (hts (.fieldLink RqM 48 "SpringSpacesModel" "below" "J") (List.mem_cons_of_mem _ tb_658)) (fun _ h9 => h9) rfl dqM_level_178 ?_
                  refine lv_lload hx hb dqM_level_181 (lv_at hl 4 rfl) ?_
                  refine q_lmul hx hb dqM_level_183 ?_
                  refine q_ldiv_w hx hb dqM_level_184 (by omega) (by omega) (by omega) (fun v19 v19a v19b => ?_)
                  refine q_ladd hx hb dqM_level_185 ?_
                  refine hv_l (fun v20 v20a v20b => ?_)
                  refine q_l2i hx hb dqM_level_186 ?_
                  exact hret H locs _ ls v20 () rfl hS (by omega) hP hD dqM_level_187
                · refine lv_lload_n hx hb dqM_level_74 rfl (lv_at hl 0 rfl) ?_
                  refine lv_aload_n hx hb dqM_level_75 rfl (lv_at hl 2 rfl) ?_
                  refine va_get (D := D) (ci := 8) (v := .long (lI bw)) (C := RqM) (T := TqM) (N := 34) hx hb hts (in_c inqM) hown hK hP 0 rfl rfl 20 (by decide) (hts (.fieldLink RqM 48 "SpringSpacesModel" "below" "J") (List.mem_cons_of_mem _ tb_658)) (fun _ h9 => h9) rfl dqM_level_76 ?_
                  refine q_ldiv_w hx hb dqM_level_79 (by omega) (by omega) (by omega) (fun v21 v21a v21b => ?_)
                  refine q_l2i hx hb dqM_level_80 ?_
                  exact hret H locs _ ls v21 () rfl hS (by omega) hP hD dqM_level_81
              · have c9 : k ≠ fi := fun e => by rw [e] at c_51; omega
                refine lv_iinc (v := iI (k + (-1))) (lv' := [(2, .int (iI (k + (-1)))), (0, .ref mx), (1, .int (iI x))]) hx hb dqM_level_54 hl (k := 0) rfl (iI_add _ _) (by decide) rfl (fun ls hl => ?_)
                refine lv_goto (tgt := 44) hx hb dqM_level_57 (by decide) ?_
                exact ih_44 (k + (-1)) H locs ls (by omega) (by omega) (by omega) hP hD hS (lv_sub hl [0, 1, 2] rfl)
          exact loop_44 (Int.toNat (la - fi) + 1) la H locs ls (by omega) (by omega) (by omega) hP hD hS (lv_sub hl [0, 1, 2] rfl)
        · refine lv_bipush (v := iI (-2)) hx hb dqM_level_36 (by decide +kernel) ?_
          exact hret H locs _ ls (-2) () rfl hS (by omega) hP hD dqM_level_38
    · refine lv_bipush (v := iI (-3)) hx hb dqM_level_7 (by decide +kernel) ?_
      exact hret H locs _ ls (-3) () rfl hS (by omega) hP hD dqM_level_9
  rw [hH0, hL0] at goal
  exact goal
def rm_M_naturalOf : Room := { frames := 4, cells := 0, slots := 0, locals := 107 }
set_option maxHeartbeats 4000000 in
set_option maxRecDepth 100000 in
theorem c_M_naturalOf (l : Launch) (D : va_G) (cI cJ cZ : ClassId) (mx : Nat) (f : Int) (g : Int) (b : Int) (mo : Int) (n : Int) (ptm : Nat) (plw : Nat) (pbr : Nat) (pit : Nat) (ple : Nat) (pri : Nat) (nu : Int) (nl : Int) (prf : Nat) (prt : Nat) (prw : Nat) (pir : Nat) (hl1 : Int) (fi : Int) (la : Int) (ov : Int) (av : Int) (bw : Int) (pse : Nat) (psp : Nat) (hm1 : Int) (lc : Int) (cst : Int) (pbg : Nat) (pwk : Nat) (pgv : Nat) (fa : Int) (fb : Int) (pbc : Nat) (pbl : Nat) (pbe : Nat) (tf : Int → Int) (lf : Int → Int) (hf : Int → Int) (ef : Int → Int) (gf : Int → Int) (rff : Int → Int) (rg : Int → Int) (rh : Int → Int) (rt : Int → Int) (wf : Int → Int) (pf : Int → Int) (gv : Int → Int) (h1 : 0 ≤ n) (h2 : 0 ≤ f) (h3 : f < g) (h4 : g ≤ n - 1) (h5 : n ≤ 24) (hT : TS n tf) (h7 : 0 ≤ b) (h8 : b ≤ 100) (h9 : 0 ≤ mo) (h10 : mo ≤ 100) (h11 : 0 ≤ nu) (h12 : nu ≤ 20) (hR : ND nu rff rg) (hSP : SPB pf) (hG : B01 24 gv) : Mi l yqM_naturalOf wsqM_naturalOf rm_M_naturalOf D cI cJ cZ [.ref mx, .int (iI f), .int (iI g)] [(mx, .inr (8, [.int (iI b), .int (iI mo), .int (iI n), .ref ptm, .ref plw, .ref pbr, .ref pit, .ref ple, .ref pri, .int (iI nu), .int (iI nl), .ref prf, .ref prt, .ref prw, .ref pir, .int (iI hl1), .int (iI fi), .int (iI la), .int (iI ov), .long (lI av), .long (lI bw), .ref pse, .ref psp, .int (iI hm1), .int (iI lc), .long (lI cst), .ref pbg, .ref pwk, .ref pgv, .long (lI fa), .long (lI fb), .ref pbc, .ref pbl, .ref pbe])), (ptm, .inl (cI, 24, .inl (ai tf))), (plw, .inl (cI, 24, .inl (ai lf))), (pit, .inl (cZ, 96, .inl (ai hf))), (ple, .inl (cI, 96, .inl (ai ef))), (pri, .inl (cI, 96, .inl (ai gf))), (prf, .inl (cI, 20, .inl (ai rff))), (prt, .inl (cI, 20, .inl (ai rg))), (prw, .inl (cI, 20, .inl (ai rh))), (pir, .inl (cZ, 20, .inl (ai rt))), (pwk, .inl (cI, 24, .inl (ai wf))), (psp, .inl (cJ, 24, .inr (.inl (al pf)))), (pgv, .inl (cZ, 24, .inl (ai gv)))] (S := Int × Int × (Int → Int) × (Int → Int) × (Int → Int)) (fun z u => (-2147483648 ≤ z ∧ z ≤ 2147483647) ∧ SPB u.2.2.2.2 ∧ B01 24 u.2.2.1) (fun u => [(mx, .inr (8, [.int (iI b), .int (iI mo), .int (iI n), .ref ptm, .ref plw, .ref pbr, .ref pit, .ref ple, .ref pri, .int (iI nu), .int (iI nl), .ref prf, .ref prt, .ref prw, .ref pir, .int (iI hl1), .int (iI fi), .int (iI la), .int (iI ov), .long (lI av), .long (lI bw), .ref pse, .ref psp, .int (iI hm1), .int (iI lc), .long (lI cst), .ref pbg, .ref pwk, .ref pgv, .long (lI u.1), .long (lI u.2.1), .ref pbc, .ref pbl, .ref pbe])), (ptm, .inl (cI, 24, .inl (ai tf))), (plw, .inl (cI, 24, .inl (ai lf))), (pit, .inl (cZ, 96, .inl (ai hf))), (ple, .inl (cI, 96, .inl (ai ef))), (pri, .inl (cI, 96, .inl (ai gf))), (prf, .inl (cI, 20, .inl (ai rff))), (prt, .inl (cI, 20, .inl (ai rg))), (prw, .inl (cI, 20, .inl (ai rh))), (pir, .inl (cZ, 20, .inl (ai rt))), (pwk, .inl (cI, 24, .inl (ai u.2.2.2.1))), (psp, .inl (cJ, 24, .inr (.inl (al u.2.2.2.2)))), (pgv, .inl (cZ, 24, .inl (ai u.2.2.1)))]) 0 0 := by
  refine en_i (cc := cqM_naturalOf) (maxL := 6) (ty := .int) (by decide +kernel) rfl (Nat.le_of_ble_eq_true rfl) ?_
  intro p e s m args below meth c A Q hx hb hml hin hts hown hA hP hK hD hN hS hret ls hl
  have hl : lv_has ls 6 [(0, .ref mx), (1, .int (iI f)), (2, .int (iI g))] := hl
  obtain ⟨H, hH0⟩ : ∃ H, H = s.heap := ⟨_, rfl⟩
  obtain ⟨locs, hL0⟩ : ∃ locs : List Loc, locs = [] := ⟨_, rfl⟩
  rw [← hH0] at hP
  have hS : va_S A s.heap H locs := by rw [hH0, hL0]; exact hS
  have goal : W p l e rm_M_naturalOf s m args below meth c H locs 0 0 Q (F0 m 0 ls []) := by
    refine lv_aload_n hx hb dqM_naturalOf_0 rfl (lv_at hl 0 rfl) ?_
    refine lv_iload_n hx hb dqM_naturalOf_1 rfl (lv_at hl 1 rfl) ?_
    refine lv_iload_n hx hb dqM_naturalOf_2 rfl (lv_at hl 2 rfl) ?_
    refine af_v (wr := []) (va_runV (As := [.int (iI f), .int (iI g)]) (rest := []) ⟨hx, hb, hml, hown, hts⟩ (c_M_settle l D cI cJ cZ mx f g b mo n ptm plw pbr pit ple pri nu nl prf prt prw pir hl1 fi la ov av bw pse psp hm1 lc cst pbg pwk pgv fa fb pbc pbl pbe tf lf hf ef gf rff rg rh rt wf pf gv (by omega) (by omega) (by omega) (by omega) (by omega) hT (by omega) (by omega) (by omega) (by omega) (by omega) (by omega) hR hSP hG H.size) (cwV 2 hts (gi_V tb_805 tb_807 tb_14 tb_33 tb_808) rfl rfl rfl (by decide +kernel) ⟨Nat.le_of_ble_eq_true rfl, Nat.le_of_ble_eq_true rfl⟩) (pre_V (ci := 8) (q0 := 0) hK hN hP hD [0, 1, 2, 3, 4, 5, 6, 7, 8, 9, 10, 11, 12] rfl rfl rfl rfl) rfl rfl hl.1 rfl (lv_room (Nat.le_of_ble_eq_true rfl)) dqM_naturalOf_3 ⟨by first | omega | decide, by first | omega | decide⟩) hA hP hD hS [0, 1, 2, 3, 4, 5, 6, 7, 8, 9, 10, 11, 12] [] rfl rfl (by decide +kernel) (by decide +kernel) (fun u2 H locs hw_z1 hP hD hS => ?_)
    obtain ⟨fa2_3, fb2_4, gv2_5, wf2_6, pf2_7⟩ := u2
    have hP : va_P D vwCl [(mx, .inr (8, [.int (iI b), .int (iI mo), .int (iI n), .ref ptm, .ref plw, .ref pbr, .ref pit, .ref ple, .ref pri, .int (iI nu), .int (iI nl), .ref prf, .ref prt, .ref prw, .ref pir, .int (iI hl1), .int (iI fi), .int (iI la), .int (iI ov), .long (lI av), .long (lI bw), .ref pse, .ref psp, .int (iI hm1), .int (iI lc), .long (lI cst), .ref pbg, .ref pwk, .ref pgv, .long (lI fa2_3), .long (lI fb2_4), .ref pbc, .ref pbl, .ref pbe])), (ptm, .inl (cI, 24, .inl (ai tf))), (plw, .inl (cI, 24, .inl (ai lf))), (pit, .inl (cZ, 96, .inl (ai hf))), (ple, .inl (cI, 96, .inl (ai ef))), (pri, .inl (cI, 96, .inl (ai gf))), (prf, .inl (cI, 20, .inl (ai rff))), (prt, .inl (cI, 20, .inl (ai rg))), (prw, .inl (cI, 20, .inl (ai rh))), (pir, .inl (cZ, 20, .inl (ai rt))), (pwk, .inl (cI, 24, .inl (ai wf2_6))), (psp, .inl (cJ, 24, .inr (.inl (al pf2_7)))), (pgv, .inl (cZ, 24, .inl (ai gv2_5)))] H := hP
    have hD : va_D A [(mx, .inr (8, [.int (iI b), .int (iI mo), .int (iI n), .ref ptm, .ref plw, .ref pbr, .ref pit, .ref ple, .ref pri, .int (iI nu), .int (iI nl), .ref prf, .ref prt, .ref prw, .ref pir, .int (iI hl1), .int (iI fi), .int (iI la), .int (iI ov), .long (lI av), .long (lI bw), .ref pse, .ref psp, .int (iI hm1), .int (iI lc), .long (lI cst), .ref pbg, .ref pwk, .ref pgv, .long (lI fa2_3), .long (lI fb2_4), .ref pbc, .ref pbl, .ref pbe])), (ptm, .inl (cI, 24, .inl (ai tf))), (plw, .inl (cI, 24, .inl (ai lf))), (pit, .inl (cZ, 96, .inl (ai hf))), (ple, .inl (cI, 96, .inl (ai ef))), (pri, .inl (cI, 96, .inl (ai gf))), (prf, .inl (cI, 20, .inl (ai rff))), (prt, .inl (cI, 20, .inl (ai rg))), (prw, .inl (cI, 20, .inl (ai rh))), (pir, .inl (cZ, 20, .inl (ai rt))), (pwk, .inl (cI, 24, .inl (ai wf2_6))), (psp, .inl (cJ, 24, .inr (.inl (al pf2_7)))), (pgv, .inl (cZ, 24, .inl (ai gv2_5)))] := hD
    have hw_z1 : SPB pf2_7 ∧ B01 24 gv2_5 := hw_z1
    obtain ⟨o1, o2⟩ := hw_z1
    refine lv_iconst (v := iI 0) hx hb dqM_naturalOf_6 rfl ?_
    refine lv_istore_n (lv' := [(3, .int (iI 0)), (0, .ref mx), (1, .int (iI f)), (2, .int (iI g))]) hx hb dqM_naturalOf_7 rfl hl (by decide) rfl (fun ls hl => ?_)
    refine lv_iload_n hx hb dqM_naturalOf_8 rfl (lv_at hl 2 rfl) ?_
    refine lv_istore (lv' := [(4, .int (iI f)), (3, .int (iI 0)), (0, .ref mx), (1, .int (iI f)), (2, .int (iI g))]) hx hb dqM_naturalOf_9 hl (by decide) rfl (fun ls hl => ?_)
    have loop_11 : ∀ (n9 : Nat), ∀ (sm : Int) (k : Int) (H : Heap) (locs : List Loc) (ls : Array Slot), (-2147483648 ≤ sm) → (sm ≤ 2147483647) → (f ≤ k) → (k ≤ g) → ((g - k).toNat < n9) → va_P D vwCl [(mx, .inr (8, [.int (iI b), .int (iI mo), .int (iI n), .ref ptm, .ref plw, .ref pbr, .ref pit, .ref ple, .ref pri, .int (iI nu), .int (iI nl), .ref prf, .ref prt, .ref prw, .ref pir, .int (iI hl1), .int (iI fi), .int (iI la), .int (iI ov), .long (lI av), .long (lI bw), .ref pse, .ref psp, .int (iI hm1), .int (iI lc), .long (lI cst), .ref pbg, .ref pwk, .ref pgv, .long (lI fa2_3), .long (lI fb2_4), .ref pbc, .ref pbl, .ref pbe])), (ptm, .inl (cI, 24, .inl (ai tf))), (plw, .inl (cI, 24, .inl (ai lf))), (pit, .inl (cZ, 96, .inl (ai hf))), (ple, .inl (cI, 96, .inl (ai ef))), (pri, .inl (cI, 96, .inl (ai gf))), (prf, .inl (cI, 20, .inl (ai rff))), (prt, .inl (cI, 20, .inl (ai rg))), (prw, .inl (cI, 20, .inl (ai rh))), (pir, .inl (cZ, 20, .inl (ai rt))), (pwk, .inl (cI, 24, .inl (ai wf2_6))), (psp, .inl (cJ, 24, .inr (.inl (al pf2_7)))), (pgv, .inl (cZ, 24, .inl (ai gv2_5)))] H → va_D A [(mx, .inr (8, [.int (iI b), .int (iI mo), .int (iI n), .ref ptm, .ref plw, .ref pbr, .ref pit, .ref ple, .ref pri, .int (iI nu), .int (iI nl), .ref prf, .ref prt, .ref prw, .ref pir, .int (iI hl1), .int (iI fi), .int (iI la), .int (iI ov), .long (lI av), .long (lI bw), .ref pse, .ref psp, .int (iI hm1), .int (iI lc), .long (lI cst), .ref pbg, .ref pwk, .ref pgv, .long (lI fa2_3), .long (lI fb2_4), .ref pbc, .ref pbl, .ref pbe])), (ptm, .inl (cI, 24, .inl (ai tf))), (plw, .inl (cI, 24, .inl (ai lf))), (pit, .inl (cZ, 96, .inl (ai hf))), (ple, .inl (cI, 96, .inl (ai ef))), (pri, .inl (cI, 96, .inl (ai gf))), (prf, .inl (cI, 20, .inl (ai rff))), (prt, .inl (cI, 20, .inl (ai rg))), (prw, .inl (cI, 20, .inl (ai rh))), (pir, .inl (cZ, 20, .inl (ai rt))), (pwk, .inl (cI, 24, .inl (ai wf2_6))), (psp, .inl (cJ, 24, .inr (.inl (al pf2_7)))), (pgv, .inl (cZ, 24, .inl (ai gv2_5)))] → va_S A s.heap H locs → lv_has ls 6 [(4, .int (iI k)), (3, .int (iI sm)), (0, .ref mx), (1, .int (iI f)), (2, .int (iI g))] → W p l e rm_M_naturalOf s m args below meth c H locs 0 0 Q (F0 m 11 ls []) := by
      intro n9
      induction n9 with
      | zero =>
        intro sm k H locs ls s1 s2 k1 k2 hm9
        exact absurd hm9 (by omega)
      | succ n9 ih_11 =>
        intro sm k H locs ls s1 s2 k1 k2 hm9 hP hD hS hl
        refine lv_iload hx hb dqM_naturalOf_11 (lv_at hl 0 rfl) ?_
        refine lv_iload_n hx hb dqM_naturalOf_13 rfl (lv_at hl 4 rfl) ?_
        refine q_icmp_ge (tgt := 64) hx hb dqM_naturalOf_14 (by decide) (by omega) (by omega) (by omega) (by omega) (fun c_14 => ?_) (fun c_14 => ?_)
        · refine lv_iload_n hx hb dqM_naturalOf_64 rfl (lv_at hl 1 rfl) ?_
          exact hret H locs _ ls sm (fa2_3, fb2_4, gv2_5, wf2_6, pf2_7) rfl hS (⟨⟨by (try dsimp only); omega, by (try dsimp only); omega⟩, o1, o2⟩) hP hD dqM_naturalOf_65
        · refine lv_aload_n hx hb dqM_naturalOf_17 rfl (lv_at hl 2 rfl) ?_
          refine va_get (D := D) (ci := 8) (v := .ref psp) (C := RqM) (T := TqM) (N := 34) hx hb hts (in_c inqM) hown hK hP 0 rfl rfl 22 (by decide) (hts (.fieldLink RqM 55 "SpringSpacesModel" "springs" "[J") (List.mem_cons_of_mem _ tb_660)) (fun _ h9 => h9) rfl dqM_naturalOf_18 ?_
          refine lv_iload hx hb dqM_naturalOf_21 (lv_at hl 0 rfl) ?_
          refine q_lald (i := k) hx hb hK hP 11 1 rfl rfl (by omega) (by omega) (by omega) dqM_naturalOf_23 ?_
          refine hv_l (fun v8 v8a v8b => ?_)
          refine lv_ldc2 (v := 65536) hx hb hown (hts (.constantLong RqM 97 65536) (List.mem_cons_of_mem _ tb_767)) dqM_naturalOf_24 ?_
          refine tp_l (y := lI 65536) (by decide +kernel) ?_
          refine q_ldiv_w hx hb dqM_naturalOf_27 (by omega) (by omega) (by omega) (fun v9 v9a v9b => ?_)
          refine q_l2i hx hb dqM_naturalOf_28 ?_
          refine lv_istore (lv' := [(5, .int (iI v9)), (4, .int (iI k)), (3, .int (iI sm)), (0, .ref mx), (1, .int (iI f)), (2, .int (iI g))]) hx hb dqM_naturalOf_29 hl (by decide) rfl (fun ls hl => ?_)
          refine lv_iload_n hx hb dqM_naturalOf_31 rfl (lv_at hl 2 rfl) ?_
          refine lv_iload hx hb dqM_naturalOf_32 (lv_at hl 0 rfl) ?_
          refine lv_aload_n hx hb dqM_naturalOf_34 rfl (lv_at hl 3 rfl) ?_
          refine va_get (D := D) (ci := 8) (v := .ref pwk) (C := RqM) (T := TqM) (N := 34) hx hb hts (in_c inqM) hown hK hP 0 rfl rfl 27 (by decide) (hts (.fieldLink RqM 62 "SpringSpacesModel" "work" "[I") (List.mem_cons_of_mem _ tb_665)) (fun _ h9 => h9) rfl dqM_naturalOf_35 ?_
          refine lv_iload hx hb dqM_naturalOf_38 (lv_at hl 1 rfl) ?_
          refine q_iald (i := k) hx hb hK hP 10 0 rfl rfl (by omega) (by omega) (by omega) dqM_naturalOf_40 ?_
          refine q_iw_le (tgt := 49) hx hb dqM_naturalOf_41 (by decide) ?_ ?_
          · refine lv_aload_n hx hb dqM_naturalOf_49 rfl (lv_at hl 3 rfl) ?_
            refine va_get (D := D) (ci := 8) (v := .ref pwk) (C := RqM) (T := TqM) (N := 34) hx hb hts (in_c inqM) hown hK hP 0 rfl rfl 27 (by decide) (hts (.fieldLink RqM 62 "SpringSpacesModel" "work" "[I") (List.mem_cons_of_mem _ tb_665)) (fun _ h9 => h9) rfl dqM_naturalOf_50 ?_
            refine lv_iload hx hb dqM_naturalOf_53 (lv_at hl 1 rfl) ?_
            refine q_iald (i := k) hx hb hK hP 10 0 rfl rfl (by omega) (by omega) (by omega) dqM_naturalOf_55 ?_
            refine q_iadd hx hb dqM_naturalOf_56 ?_
            refine hv_i (fun v10 v10a v10b => ?_)
            refine lv_istore_n (lv' := [(3, .int (iI v10)), (5, .int (iI v9)), (4, .int (iI k)), (0, .ref mx), (1, .int (iI f)), (2, .int (iI g))]) hx hb dqM_naturalOf_57 rfl hl (by decide) rfl (fun ls hl => ?_)
            refine lv_iinc (v := iI (k + 1)) (lv' := [(4, .int (iI (k + 1))), (3, .int (iI v10)), (5, .int (iI v9)), (0, .ref mx), (1, .int (iI f)), (2, .int (iI g))]) hx hb dqM_naturalOf_58 hl (k := 2) rfl (iI_add _ _) (by decide) rfl (fun ls hl => ?_)
            refine lv_goto (tgt := 11) hx hb dqM_naturalOf_61 (by decide) ?_
            exact ih_11 v10 (k + 1) H locs ls (by omega) (by omega) (by omega) (by omega) (by omega) hP hD hS (lv_sub hl [0, 1, 3, 4, 5] rfl)
          · refine lv_iload hx hb dqM_naturalOf_44 (lv_at hl 0 rfl) ?_
            refine lv_goto (tgt := 56) hx hb dqM_naturalOf_46 (by decide) ?_
            refine q_iadd hx hb dqM_naturalOf_56 ?_
            refine hv_i (fun v11 v11a v11b => ?_)
            refine lv_istore_n (lv' := [(3, .int (iI v11)), (5, .int (iI v9)), (4, .int (iI k)), (0, .ref mx), (1, .int (iI f)), (2, .int (iI g))]) hx hb dqM_naturalOf_57 rfl hl (by decide) rfl (fun ls hl => ?_)
            refine lv_iinc (v := iI (k + 1)) (lv' := [(4, .int (iI (k + 1))), (3, .int (iI v11)), (5, .int (iI v9)), (0, .ref mx), (1, .int (iI f)), (2, .int (iI g))]) hx hb dqM_naturalOf_58 hl (k := 2) rfl (iI_add _ _) (by decide) rfl (fun ls hl => ?_)
            refine lv_goto (tgt := 11) hx hb dqM_naturalOf_61 (by decide) ?_
            exact ih_11 v11 (k + 1) H locs ls (by omega) (by omega) (by omega) (by omega) (by omega) hP hD hS (lv_sub hl [0, 1, 3, 4, 5] rfl)
    exact loop_11 (Int.toNat (g - f) + 1) 0 f H locs ls (by omega) (by omega) (by omega) (by omega) (by omega) hP hD hS (lv_sub hl [0, 1, 2, 3, 4] rfl)
  rw [hH0, hL0] at goal
  exact goal
def rm_M_natural : Room := { frames := 5, cells := 0, slots := 0, locals := 132 }
set_option maxHeartbeats 4000000 in
set_option maxRecDepth 100000 in
theorem c_M_natural (l : Launch) (D : va_G) (cI cJ cZ : ClassId) (mx : Nat) (f : Int) (g : Int) (b : Int) (mo : Int) (n : Int) (ptm : Nat) (plw : Nat) (pbr : Nat) (pit : Nat) (ple : Nat) (pri : Nat) (nu : Int) (nl : Int) (prf : Nat) (prt : Nat) (prw : Nat) (pir : Nat) (hl1 : Int) (fi : Int) (la : Int) (ov : Int) (av : Int) (bw : Int) (pse : Nat) (psp : Nat) (hm1 : Int) (lc : Int) (cst : Int) (pbg : Nat) (pwk : Nat) (pgv : Nat) (fa : Int) (fb : Int) (pbc : Nat) (pbl : Nat) (pbe : Nat) (tf : Int → Int) (lf : Int → Int) (hf : Int → Int) (ef : Int → Int) (gf : Int → Int) (rff : Int → Int) (rg : Int → Int) (rh : Int → Int) (rt : Int → Int) (wf : Int → Int) (pf : Int → Int) (gv : Int → Int) (h1 : -2147483648 ≤ f) (h2 : f ≤ 2147483647) (h3 : -2147483648 ≤ g) (h4 : g ≤ 2147483647) (h5 : 0 ≤ n) (h6 : n ≤ 24) (hT : TS n tf) (h8 : 0 ≤ b) (h9 : b ≤ 100) (h10 : 0 ≤ mo) (h11 : mo ≤ 100) (h12 : 0 ≤ nu) (h13 : nu ≤ 20) (hR : ND nu rff rg) (hSP : SPB pf) (hG : B01 24 gv) : Mi l yqM_natural wsqM_natural rm_M_natural D cI cJ cZ [.ref mx, .int (iI f), .int (iI g)] [(mx, .inr (8, [.int (iI b), .int (iI mo), .int (iI n), .ref ptm, .ref plw, .ref pbr, .ref pit, .ref ple, .ref pri, .int (iI nu), .int (iI nl), .ref prf, .ref prt, .ref prw, .ref pir, .int (iI hl1), .int (iI fi), .int (iI la), .int (iI ov), .long (lI av), .long (lI bw), .ref pse, .ref psp, .int (iI hm1), .int (iI lc), .long (lI cst), .ref pbg, .ref pwk, .ref pgv, .long (lI fa), .long (lI fb), .ref pbc, .ref pbl, .ref pbe])), (ptm, .inl (cI, 24, .inl (ai tf))), (plw, .inl (cI, 24, .inl (ai lf))), (pit, .inl (cZ, 96, .inl (ai hf))), (ple, .inl (cI, 96, .inl (ai ef))), (pri, .inl (cI, 96, .inl (ai gf))), (prf, .inl (cI, 20, .inl (ai rff))), (prt, .inl (cI, 20, .inl (ai rg))), (prw, .inl (cI, 20, .inl (ai rh))), (pir, .inl (cZ, 20, .inl (ai rt))), (pwk, .inl (cI, 24, .inl (ai wf))), (psp, .inl (cJ, 24, .inr (.inl (al pf)))), (pgv, .inl (cZ, 24, .inl (ai gv)))] (S := Int × Int × (Int → Int) × (Int → Int) × (Int → Int)) (fun z u => (n = 0 → z = -1) ∧ (SPB u.2.2.2.2 ∧ B01 24 u.2.2.1)) (fun u => [(mx, .inr (8, [.int (iI b), .int (iI mo), .int (iI n), .ref ptm, .ref plw, .ref pbr, .ref pit, .ref ple, .ref pri, .int (iI nu), .int (iI nl), .ref prf, .ref prt, .ref prw, .ref pir, .int (iI hl1), .int (iI fi), .int (iI la), .int (iI ov), .long (lI av), .long (lI bw), .ref pse, .ref psp, .int (iI hm1), .int (iI lc), .long (lI cst), .ref pbg, .ref pwk, .ref pgv, .long (lI u.1), .long (lI u.2.1), .ref pbc, .ref pbl, .ref pbe])), (ptm, .inl (cI, 24, .inl (ai tf))), (plw, .inl (cI, 24, .inl (ai lf))), (pit, .inl (cZ, 96, .inl (ai hf))), (ple, .inl (cI, 96, .inl (ai ef))), (pri, .inl (cI, 96, .inl (ai gf))), (prf, .inl (cI, 20, .inl (ai rff))), (prt, .inl (cI, 20, .inl (ai rg))), (prw, .inl (cI, 20, .inl (ai rh))), (pir, .inl (cZ, 20, .inl (ai rt))), (pwk, .inl (cI, 24, .inl (ai u.2.2.2.1))), (psp, .inl (cJ, 24, .inr (.inl (al u.2.2.2.2)))), (pgv, .inl (cZ, 24, .inl (ai u.2.2.1)))]) 0 0 := by
  refine en_i (cc := cqM_natural) (maxL := 3) (ty := .int) (by decide +kernel) rfl (Nat.le_of_ble_eq_true rfl) ?_
  intro p e s m args below meth c A Q hx hb hml hin hts hown hA hP hK hD hN hS hret ls hl
  have hl : lv_has ls 3 [(0, .ref mx), (1, .int (iI f)), (2, .int (iI g))] := hl
  obtain ⟨H, hH0⟩ : ∃ H, H = s.heap := ⟨_, rfl⟩
  obtain ⟨locs, hL0⟩ : ∃ locs : List Loc, locs = [] := ⟨_, rfl⟩
  rw [← hH0] at hP
  have hS : va_S A s.heap H locs := by rw [hH0, hL0]; exact hS
  have goal : W p l e rm_M_natural s m args below meth c H locs 0 0 Q (F0 m 0 ls []) := by
    refine lv_aload_n hx hb dqM_natural_0 rfl (lv_at hl 0 rfl) ?_
    refine lv_iload_n hx hb dqM_natural_1 rfl (lv_at hl 1 rfl) ?_
    refine af_i (wr := [(ptm, .inl (cI, 24, .inl (ai tf))), (plw, .inl (cI, 24, .inl (ai lf))), (pit, .inl (cZ, 96, .inl (ai hf))), (ple, .inl (cI, 96, .inl (ai ef))), (pri, .inl (cI, 96, .inl (ai gf))), (prf, .inl (cI, 20, .inl (ai rff))), (prt, .inl (cI, 20, .inl (ai rg))), (prw, .inl (cI, 20, .inl (ai rh))), (pir, .inl (cZ, 20, .inl (ai rt))), (pwk, .inl (cI, 24, .inl (ai wf))), (psp, .inl (cJ, 24, .inr (.inl (al pf)))), (pgv, .inl (cZ, 24, .inl (ai gv)))]) (va_runV (As := [.int (iI f)]) (rest := []) ⟨hx, hb, hml, hown, hts⟩ (c_M_isColumn l D cI cJ cZ mx f b mo n ptm plw pbr pit ple pri nu nl prf prt prw pir hl1 fi la ov av bw pse psp hm1 lc cst pbg pwk pgv fa fb pbc pbl pbe (by omega) (by omega) (by omega) (by omega) H.size) (cwV 1 hts (gi_V tb_777 tb_779 tb_12 tb_33 tb_780) rfl rfl rfl (by decide +kernel) ⟨Nat.le_of_ble_eq_true rfl, Nat.le_of_ble_eq_true rfl⟩) (pre_V (ci := 8) (q0 := 0) hK hN hP hD [0] rfl rfl rfl rfl) rfl rfl hl.1 rfl (lv_room (Nat.le_of_ble_eq_true rfl)) dqM_natural_2 ⟨by first | omega | decide, by first | omega | decide⟩) hA hP hD hS [0] [1, 2, 3, 4, 5, 6, 7, 8, 9, 10, 11, 12] rfl rfl (by decide +kernel) (by decide +kernel) (fun z1 u2 H locs hw_z1 hP hD hS => ?_)
    have hP : va_P D vwCl [(mx, .inr (8, [.int (iI b), .int (iI mo), .int (iI n), .ref ptm, .ref plw, .ref pbr, .ref pit, .ref ple, .ref pri, .int (iI nu), .int (iI nl), .ref prf, .ref prt, .ref prw, .ref pir, .int (iI hl1), .int (iI fi), .int (iI la), .int (iI ov), .long (lI av), .long (lI bw), .ref pse, .ref psp, .int (iI hm1), .int (iI lc), .long (lI cst), .ref pbg, .ref pwk, .ref pgv, .long (lI fa), .long (lI fb), .ref pbc, .ref pbl, .ref pbe])), (ptm, .inl (cI, 24, .inl (ai tf))), (plw, .inl (cI, 24, .inl (ai lf))), (pit, .inl (cZ, 96, .inl (ai hf))), (ple, .inl (cI, 96, .inl (ai ef))), (pri, .inl (cI, 96, .inl (ai gf))), (prf, .inl (cI, 20, .inl (ai rff))), (prt, .inl (cI, 20, .inl (ai rg))), (prw, .inl (cI, 20, .inl (ai rh))), (pir, .inl (cZ, 20, .inl (ai rt))), (pwk, .inl (cI, 24, .inl (ai wf))), (psp, .inl (cJ, 24, .inr (.inl (al pf)))), (pgv, .inl (cZ, 24, .inl (ai gv)))] H := hP.sub [12, 0, 1, 2, 3, 4, 5, 6, 7, 8, 9, 10, 11] rfl
    have hD : va_D A [(mx, .inr (8, [.int (iI b), .int (iI mo), .int (iI n), .ref ptm, .ref plw, .ref pbr, .ref pit, .ref ple, .ref pri, .int (iI nu), .int (iI nl), .ref prf, .ref prt, .ref prw, .ref pir, .int (iI hl1), .int (iI fi), .int (iI la), .int (iI ov), .long (lI av), .long (lI bw), .ref pse, .ref psp, .int (iI hm1), .int (iI lc), .long (lI cst), .ref pbg, .ref pwk, .ref pgv, .long (lI fa), .long (lI fb), .ref pbc, .ref pbl, .ref pbe])), (ptm, .inl (cI, 24, .inl (ai tf))), (plw, .inl (cI, 24, .inl (ai lf))), (pit, .inl (cZ, 96, .inl (ai hf))), (ple, .inl (cI, 96, .inl (ai ef))), (pri, .inl (cI, 96, .inl (ai gf))), (prf, .inl (cI, 20, .inl (ai rff))), (prt, .inl (cI, 20, .inl (ai rg))), (prw, .inl (cI, 20, .inl (ai rh))), (pir, .inl (cZ, 20, .inl (ai rt))), (pwk, .inl (cI, 24, .inl (ai wf))), (psp, .inl (cJ, 24, .inr (.inl (al pf)))), (pgv, .inl (cZ, 24, .inl (ai gv)))] := hD.sub [12, 0, 1, 2, 3, 4, 5, 6, 7, 8, 9, 10, 11] (by decide +kernel) rfl
    have hw_z1 : bl z1 (0 ≤ f ∧ f ≤ n - 1) := hw_z1
    refine q_if_eq (tgt := 16) hx hb dqM_natural_5 (by decide) (bl_1 hw_z1) (bl_2 hw_z1) (fun c_5 => ?_) (fun c_5 => ?_)
    · have c_5 := bl_f hw_z1 c_5
      refine lv_iconst (v := iI (-1)) hx hb dqM_natural_16 rfl ?_
      refine lv_goto (tgt := 36) hx hb dqM_natural_17 (by decide) ?_
      exact hret H locs _ ls (-1) (fa, fb, gv, wf, pf) rfl hS (⟨by (try dsimp only); omega, by first | exact ⟨o1, o2⟩ | exact ⟨hSP, hG⟩⟩) hP hD dqM_natural_36
    · have c_5 := bl_t hw_z1 c_5
      refine lv_aload_n hx hb dqM_natural_8 rfl (lv_at hl 0 rfl) ?_
      refine lv_iload_n hx hb dqM_natural_9 rfl (lv_at hl 2 rfl) ?_
      refine af_i (wr := [(ptm, .inl (cI, 24, .inl (ai tf))), (plw, .inl (cI, 24, .inl (ai lf))), (pit, .inl (cZ, 96, .inl (ai hf))), (ple, .inl (cI, 96, .inl (ai ef))), (pri, .inl (cI, 96, .inl (ai gf))), (prf, .inl (cI, 20, .inl (ai rff))), (prt, .inl (cI, 20, .inl (ai rg))), (prw, .inl (cI, 20, .inl (ai rh))), (pir, .inl (cZ, 20, .inl (ai rt))), (pwk, .inl (cI, 24, .inl (ai wf))), (psp, .inl (cJ, 24, .inr (.inl (al pf)))), (pgv, .inl (cZ, 24, .inl (ai gv)))]) (va_runV (As := [.int (iI g)]) (rest := []) ⟨hx, hb, hml, hown, hts⟩ (c_M_isColumn l D cI cJ cZ mx g b mo n ptm plw pbr pit ple pri nu nl prf prt prw pir hl1 fi la ov av bw pse psp hm1 lc cst pbg pwk pgv fa fb pbc pbl pbe (by omega) (by omega) (by omega) (by omega) H.size) (cwV 1 hts (gi_V tb_777 tb_779 tb_12 tb_33 tb_780) rfl rfl rfl (by decide +kernel) ⟨Nat.le_of_ble_eq_true rfl, Nat.le_of_ble_eq_true rfl⟩) (pre_V (ci := 8) (q0 := 0) hK hN hP hD [0] rfl rfl rfl rfl) rfl rfl hl.1 rfl (lv_room (Nat.le_of_ble_eq_true rfl)) dqM_natural_10 ⟨by first | omega | decide, by first | omega | decide⟩) hA hP hD hS [0] [1, 2, 3, 4, 5, 6, 7, 8, 9, 10, 11, 12] rfl rfl (by decide +kernel) (by decide +kernel) (fun z3 u4 H locs hw_z3 hP hD hS => ?_)
      have hP : va_P D vwCl [(mx, .inr (8, [.int (iI b), .int (iI mo), .int (iI n), .ref ptm, .ref plw, .ref pbr, .ref pit, .ref ple, .ref pri, .int (iI nu), .int (iI nl), .ref prf, .ref prt, .ref prw, .ref pir, .int (iI hl1), .int (iI fi), .int (iI la), .int (iI ov), .long (lI av), .long (lI bw), .ref pse, .ref psp, .int (iI hm1), .int (iI lc), .long (lI cst), .ref pbg, .ref pwk, .ref pgv, .long (lI fa), .long (lI fb), .ref pbc, .ref pbl, .ref pbe])), (ptm, .inl (cI, 24, .inl (ai tf))), (plw, .inl (cI, 24, .inl (ai lf))), (pit, .inl (cZ, 96, .inl (ai hf))), (ple, .inl (cI, 96, .inl (ai ef))), (pri, .inl (cI, 96, .inl (ai gf))), (prf, .inl (cI, 20, .inl (ai rff))), (prt, .inl (cI, 20, .inl (ai rg))), (prw, .inl (cI, 20, .inl (ai rh))), (pir, .inl (cZ, 20, .inl (ai rt))), (pwk, .inl (cI, 24, .inl (ai wf))), (psp, .inl (cJ, 24, .inr (.inl (al pf)))), (pgv, .inl (cZ, 24, .inl (ai gv)))] H := hP.sub [12, 0, 1, 2, 3, 4, 5, 6, 7, 8, 9, 10, 11] rfl
      have hD : va_D A [(mx, .inr (8, [.int (iI b), .int (iI mo), .int (iI n), .ref ptm, .ref plw, .ref pbr, .ref pit, .ref ple, .ref pri, .int (iI nu), .int (iI nl), .ref prf, .ref prt, .ref prw, .ref pir, .int (iI hl1), .int (iI fi), .int (iI la), .int (iI ov), .long (lI av), .long (lI bw), .ref pse, .ref psp, .int (iI hm1), .int (iI lc), .long (lI cst), .ref pbg, .ref pwk, .ref pgv, .long (lI fa), .long (lI fb), .ref pbc, .ref pbl, .ref pbe])), (ptm, .inl (cI, 24, .inl (ai tf))), (plw, .inl (cI, 24, .inl (ai lf))), (pit, .inl (cZ, 96, .inl (ai hf))), (ple, .inl (cI, 96, .inl (ai ef))), (pri, .inl (cI, 96, .inl (ai gf))), (prf, .inl (cI, 20, .inl (ai rff))), (prt, .inl (cI, 20, .inl (ai rg))), (prw, .inl (cI, 20, .inl (ai rh))), (pir, .inl (cZ, 20, .inl (ai rt))), (pwk, .inl (cI, 24, .inl (ai wf))), (psp, .inl (cJ, 24, .inr (.inl (al pf)))), (pgv, .inl (cZ, 24, .inl (ai gv)))] := hD.sub [12, 0, 1, 2, 3, 4, 5, 6, 7, 8, 9, 10, 11] (by decide +kernel) rfl
      have hw_z3 : bl z3 (0 ≤ g ∧ g ≤ n - 1) := hw_z3
      refine q_if_ne (tgt := 20) hx hb dqM_natural_13 (by decide) (bl_1 hw_z3) (bl_2 hw_z3) (fun c_13 => ?_) (fun c_13 => ?_)
      · have c_13 := bl_t hw_z3 c_13
        refine lv_iload_n hx hb dqM_natural_20 rfl (lv_at hl 1 rfl) ?_
        refine lv_iload_n hx hb dqM_natural_21 rfl (lv_at hl 2 rfl) ?_
        refine q_icmp_lt (tgt := 30) hx hb dqM_natural_22 (by decide) (by omega) (by omega) (by omega) (by omega) (fun c_22 => ?_) (fun c_22 => ?_)
        · refine lv_aload_n hx hb dqM_natural_30 rfl (lv_at hl 0 rfl) ?_
          refine lv_iload_n hx hb dqM_natural_31 rfl (lv_at hl 1 rfl) ?_
          refine lv_iload_n hx hb dqM_natural_32 rfl (lv_at hl 2 rfl) ?_
          refine af_i (wr := []) (va_runV (As := [.int (iI f), .int (iI g)]) (rest := []) ⟨hx, hb, hml, hown, hts⟩ (c_M_naturalOf l D cI cJ cZ mx f g b mo n ptm plw pbr pit ple pri nu nl prf prt prw pir hl1 fi la ov av bw pse psp hm1 lc cst pbg pwk pgv fa fb pbc pbl pbe tf lf hf ef gf rff rg rh rt wf pf gv (by omega) (by omega) (by omega) (by omega) (by omega) hT (by omega) (by omega) (by omega) (by omega) (by omega) (by omega) hR hSP hG H.size) (cwV 2 hts (gi_V tb_873 tb_875 tb_21 tb_33 tb_876) rfl rfl rfl (by decide +kernel) ⟨Nat.le_of_ble_eq_true rfl, Nat.le_of_ble_eq_true rfl⟩) (pre_V (ci := 8) (q0 := 0) hK hN hP hD [0, 1, 2, 3, 4, 5, 6, 7, 8, 9, 10, 11, 12] rfl rfl rfl rfl) rfl rfl hl.1 rfl (lv_room (Nat.le_of_ble_eq_true rfl)) dqM_natural_33 ⟨by first | omega | decide, by first | omega | decide⟩) hA hP hD hS [0, 1, 2, 3, 4, 5, 6, 7, 8, 9, 10, 11, 12] [] rfl rfl (by decide +kernel) (by decide +kernel) (fun z5 u6 H locs hw_z5 hP hD hS => ?_)
          obtain ⟨fa2_7, fb2_8, gv2_9, wf2_10, pf2_11⟩ := u6
          have hP : va_P D vwCl [(mx, .inr (8, [.int (iI b), .int (iI mo), .int (iI n), .ref ptm, .ref plw, .ref pbr, .ref pit, .ref ple, .ref pri, .int (iI nu), .int (iI nl), .ref prf, .ref prt, .ref prw, .ref pir, .int (iI hl1), .int (iI fi), .int (iI la), .int (iI ov), .long (lI av), .long (lI bw), .ref pse, .ref psp, .int (iI hm1), .int (iI lc), .long (lI cst), .ref pbg, .ref pwk, .ref pgv, .long (lI fa2_7), .long (lI fb2_8), .ref pbc, .ref pbl, .ref pbe])), (ptm, .inl (cI, 24, .inl (ai tf))), (plw, .inl (cI, 24, .inl (ai lf))), (pit, .inl (cZ, 96, .inl (ai hf))), (ple, .inl (cI, 96, .inl (ai ef))), (pri, .inl (cI, 96, .inl (ai gf))), (prf, .inl (cI, 20, .inl (ai rff))), (prt, .inl (cI, 20, .inl (ai rg))), (prw, .inl (cI, 20, .inl (ai rh))), (pir, .inl (cZ, 20, .inl (ai rt))), (pwk, .inl (cI, 24, .inl (ai wf2_10))), (psp, .inl (cJ, 24, .inr (.inl (al pf2_11)))), (pgv, .inl (cZ, 24, .inl (ai gv2_9)))] H := hP
          have hD : va_D A [(mx, .inr (8, [.int (iI b), .int (iI mo), .int (iI n), .ref ptm, .ref plw, .ref pbr, .ref pit, .ref ple, .ref pri, .int (iI nu), .int (iI nl), .ref prf, .ref prt, .ref prw, .ref pir, .int (iI hl1), .int (iI fi), .int (iI la), .int (iI ov), .long (lI av), .long (lI bw), .ref pse, .ref psp, .int (iI hm1), .int (iI lc), .long (lI cst), .ref pbg, .ref pwk, .ref pgv, .long (lI fa2_7), .long (lI fb2_8), .ref pbc, .ref pbl, .ref pbe])), (ptm, .inl (cI, 24, .inl (ai tf))), (plw, .inl (cI, 24, .inl (ai lf))), (pit, .inl (cZ, 96, .inl (ai hf))), (ple, .inl (cI, 96, .inl (ai ef))), (pri, .inl (cI, 96, .inl (ai gf))), (prf, .inl (cI, 20, .inl (ai rff))), (prt, .inl (cI, 20, .inl (ai rg))), (prw, .inl (cI, 20, .inl (ai rh))), (pir, .inl (cZ, 20, .inl (ai rt))), (pwk, .inl (cI, 24, .inl (ai wf2_10))), (psp, .inl (cJ, 24, .inr (.inl (al pf2_11)))), (pgv, .inl (cZ, 24, .inl (ai gv2_9)))] := hD
          have hw_z5 : (-2147483648 ≤ z5 ∧ z5 ≤ 2147483647) ∧ SPB pf2_11 ∧ B01 24 gv2_9 := hw_z5
          obtain ⟨o0, o1, o2⟩ := hw_z5
          exact hret H locs _ ls z5 (fa2_7, fb2_8, gv2_9, wf2_10, pf2_11) rfl hS (⟨by (try dsimp only); omega, by first | exact ⟨o1, o2⟩ | exact ⟨hSP, hG⟩⟩) hP hD dqM_natural_36
        · refine lv_bipush (v := iI (-2)) hx hb dqM_natural_25 (by decide +kernel) ?_
          refine lv_goto (tgt := 36) hx hb dqM_natural_27 (by decide) ?_
          exact hret H locs _ ls (-2) (fa, fb, gv, wf, pf) rfl hS (⟨by (try dsimp only); omega, by first | exact ⟨o1, o2⟩ | exact ⟨hSP, hG⟩⟩) hP hD dqM_natural_36
      · have c_13 := bl_f hw_z3 c_13
        refine lv_iconst (v := iI (-1)) hx hb dqM_natural_16 rfl ?_
        refine lv_goto (tgt := 36) hx hb dqM_natural_17 (by decide) ?_
        exact hret H locs _ ls (-1) (fa, fb, gv, wf, pf) rfl hS (⟨by (try dsimp only); omega, by first | exact ⟨o1, o2⟩ | exact ⟨hSP, hG⟩⟩) hP hD dqM_natural_36
  rw [hH0, hL0] at goal
  exact goal
def rm_M_costOf : Room := { frames := 5, cells := 0, slots := 0, locals := 132 }
set_option maxHeartbeats 4000000 in
set_option maxRecDepth 100000 in
theorem c_M_costOf (l : Launch) (D : va_G) (cI cJ cZ : ClassId) (mx : Nat) (f : Int) (g : Int) (x : Int) (b : Int) (mo : Int) (n : Int) (ptm : Nat) (plw : Nat) (pbr : Nat) (pit : Nat) (ple : Nat) (pri : Nat) (nu : Int) (nl : Int) (prf : Nat) (prt : Nat) (prw : Nat) (pir : Nat) (hl1 : Int) (fi : Int) (la : Int) (ov : Int) (av : Int) (bw : Int) (pse : Nat) (psp : Nat) (hm1 : Int) (lc : Int) (cst : Int) (pbg : Nat) (pwk : Nat) (pgv : Nat) (fa : Int) (fb : Int) (pbc : Nat) (pbl : Nat) (pbe : Nat) (tf : Int → Int) (lf : Int → Int) (hf : Int → Int) (ef : Int → Int) (gf : Int → Int) (rff : Int → Int) (rg : Int → Int) (rh : Int → Int) (rt : Int → Int) (wf : Int → Int) (pf : Int → Int) (gv : Int → Int) (h1 : 0 ≤ n) (h2 : 0 ≤ f) (h3 : f < g) (h4 : g ≤ n - 1) (h5 : -2147483648 ≤ x) (h6 : x ≤ 2147483647) (h7 : n ≤ 24) (hT : TS n tf) (h9 : 0 ≤ b) (h10 : b ≤ 100) (h11 : 0 ≤ mo) (h12 : mo ≤ 100) (h13 : 0 ≤ nu) (h14 : nu ≤ 20) (hR : ND nu rff rg) (hSP : SPB pf) (hG : B01 24 gv) : Ml l yqM_costOf wsqM_costOf rm_M_costOf D cI cJ cZ [.ref mx, .int (iI f), .int (iI g), .int (iI x)] [(mx, .inr (8, [.int (iI b), .int (iI mo), .int (iI n), .ref ptm, .ref plw, .ref pbr, .ref pit, .ref ple, .ref pri, .int (iI nu), .int (iI nl), .ref prf, .ref prt, .ref prw, .ref pir, .int (iI hl1), .int (iI fi), .int (iI la), .int (iI ov), .long (lI av), .long (lI bw), .ref pse, .ref psp, .int (iI hm1), .int (iI lc), .long (lI cst), .ref pbg, .ref pwk, .ref pgv, .long (lI fa), .long (lI fb), .ref pbc, .ref pbl, .ref pbe])), (ptm, .inl (cI, 24, .inl (ai tf))), (plw, .inl (cI, 24, .inl (ai lf))), (pit, .inl (cZ, 96, .inl (ai hf))), (ple, .inl (cI, 96, .inl (ai ef))), (pri, .inl (cI, 96, .inl (ai gf))), (prf, .inl (cI, 20, .inl (ai rff))), (prt, .inl (cI, 20, .inl (ai rg))), (prw, .inl (cI, 20, .inl (ai rh))), (pir, .inl (cZ, 20, .inl (ai rt))), (pwk, .inl (cI, 24, .inl (ai wf))), (psp, .inl (cJ, 24, .inr (.inl (al pf)))), (pgv, .inl (cZ, 24, .inl (ai gv)))] (S := Int × Int × (Int → Int) × (Int → Int) × (Int → Int)) (fun z u => SPB u.2.2.2.2 ∧ B01 24 u.2.2.1) (fun u => [(mx, .inr (8, [.int (iI b), .int (iI mo), .int (iI n), .ref ptm, .ref plw, .ref pbr, .ref pit, .ref ple, .ref pri, .int (iI nu), .int (iI nl), .ref prf, .ref prt, .ref prw, .ref pir, .int (iI hl1), .int (iI fi), .int (iI la), .int (iI ov), .long (lI av), .long (lI bw), .ref pse, .ref psp, .int (iI hm1), .int (iI lc), .long (lI cst), .ref pbg, .ref pwk, .ref pgv, .long (lI u.1), .long (lI u.2.1), .ref pbc, .ref pbl, .ref pbe])), (ptm, .inl (cI, 24, .inl (ai tf))), (plw, .inl (cI, 24, .inl (ai lf))), (pit, .inl (cZ, 96, .inl (ai hf))), (ple, .inl (cI, 96, .inl (ai ef))), (pri, .inl (cI, 96, .inl (ai gf))), (prf, .inl (cI, 20, .inl (ai rff))), (prt, .inl (cI, 20, .inl (ai rg))), (prw, .inl (cI, 20, .inl (ai rh))), (pir, .inl (cZ, 20, .inl (ai rt))), (pwk, .inl (cI, 24, .inl (ai u.2.2.2.1))), (psp, .inl (cJ, 24, .inr (.inl (al u.2.2.2.2)))), (pgv, .inl (cZ, 24, .inl (ai u.2.2.1)))]) 0 0 := by
  refine en_l (cc := cqM_costOf) (maxL := 7) (by decide +kernel) rfl (Nat.le_of_ble_eq_true rfl) ?_
  intro p e s m args below meth c A Q hx hb hml hin hts hown hA hP hK hD hN hS hret ls hl
  have hl : lv_has ls 7 [(0, .ref mx), (1, .int (iI f)), (2, .int (iI g)), (3, .int (iI x))] := hl
  obtain ⟨H, hH0⟩ : ∃ H, H = s.heap := ⟨_, rfl⟩
  obtain ⟨locs, hL0⟩ : ∃ locs : List Loc, locs = [] := ⟨_, rfl⟩
  rw [← hH0] at hP
  have hS : va_S A s.heap H locs := by rw [hH0, hL0]; exact hS
  have goal : W p l e rm_M_costOf s m args below meth c H locs 0 0 Q (F0 m 0 ls []) := by
    refine lv_aload_n hx hb dqM_costOf_0 rfl (lv_at hl 0 rfl) ?_
    refine lv_iload_n hx hb dqM_costOf_1 rfl (lv_at hl 1 rfl) ?_
    refine lv_iload_n hx hb dqM_costOf_2 rfl (lv_at hl 2 rfl) ?_
    refine af_i (wr := []) (va_runV (As := [.int (iI f), .int (iI g)]) (rest := []) ⟨hx, hb, hml, hown, hts⟩ (c_M_naturalOf l D cI cJ cZ mx f g b mo n ptm plw pbr pit ple pri nu nl prf prt prw pir hl1 fi la ov av bw pse psp hm1 lc cst pbg pwk pgv fa fb pbc pbl pbe tf lf hf ef gf rff rg rh rt wf pf gv (by omega) (by omega) (by omega) (by omega) (by omega) hT (by omega) (by omega) (by omega) (by omega) (by omega) (by omega) hR hSP hG H.size) (cwV 2 hts (gi_V tb_873 tb_875 tb_21 tb_33 tb_876) rfl rfl rfl (by decide +kernel) ⟨Nat.le_of_ble_eq_true rfl, Nat.le_of_ble_eq_true rfl⟩) (pre_V (ci := 8) (q0 := 0) hK hN hP hD [0, 1, 2, 3, 4, 5, 6, 7, 8, 9, 10, 11, 12] rfl rfl rfl rfl) rfl rfl hl.1 rfl (lv_room (Nat.le_of_ble_eq_true rfl)) dqM_costOf_3 ⟨by first | omega | decide, by first | omega | decide⟩) hA hP hD hS [0, 1, 2, 3, 4, 5, 6, 7, 8, 9, 10, 11, 12] [] rfl rfl (by decide +kernel) (by decide +kernel) (fun z1 u2 H locs hw_z1 hP hD hS => ?_)
    obtain ⟨fa2_3, fb2_4, gv2_5, wf2_6, pf2_7⟩ := u2
    have hP : va_P D vwCl [(mx, .inr (8, [.int (iI b), .int (iI mo), .int (iI n), .ref ptm, .ref plw, .ref pbr, .ref pit, .ref ple, .ref pri, .int (iI nu), .int (iI nl), .ref prf, .ref prt, .ref prw, .ref pir, .int (iI hl1), .int (iI fi), .int (iI la), .int (iI ov), .long (lI av), .long (lI bw), .ref pse, .ref psp, .int (iI hm1), .int (iI lc), .long (lI cst), .ref pbg, .ref pwk, .ref pgv, .long (lI fa2_3), .long (lI fb2_4), .ref pbc, .ref pbl, .ref pbe])), (ptm, .inl (cI, 24, .inl (ai tf))), (plw, .inl (cI, 24, .inl (ai lf))), (pit, .inl (cZ, 96, .inl (ai hf))), (ple, .inl (cI, 96, .inl (ai ef))), (pri, .inl (cI, 96, .inl (ai gf))), (prf, .inl (cI, 20, .inl (ai rff))), (prt, .inl (cI, 20, .inl (ai rg))), (prw, .inl (cI, 20, .inl (ai rh))), (pir, .inl (cZ, 20, .inl (ai rt))), (pwk, .inl (cI, 24, .inl (ai wf2_6))), (psp, .inl (cJ, 24, .inr (.inl (al pf2_7)))), (pgv, .inl (cZ, 24, .inl (ai gv2_5)))] H := hP
    have hD : va_D A [(mx, .inr (8, [.int (iI b), .int (iI mo), .int (iI n), .ref ptm, .ref plw, .ref pbr, .ref pit, .ref ple, .ref pri, .int (iI nu), .int (iI nl), .ref prf, .ref prt, .ref prw, .ref pir, .int (iI hl1), .int (iI fi), .int (iI la), .int (iI ov), .long (lI av), .long (lI bw), .ref pse, .ref psp, .int (iI hm1), .int (iI lc), .long (lI cst), .ref pbg, .ref pwk, .ref pgv, .long (lI fa2_3), .long (lI fb2_4), .ref pbc, .ref pbl, .ref pbe])), (ptm, .inl (cI, 24, .inl (ai tf))), (plw, .inl (cI, 24, .inl (ai lf))), (pit, .inl (cZ, 96, .inl (ai hf))), (ple, .inl (cI, 96, .inl (ai ef))), (pri, .inl (cI, 96, .inl (ai gf))), (prf, .inl (cI, 20, .inl (ai rff))), (prt, .inl (cI, 20, .inl (ai rg))), (prw, .inl (cI, 20, .inl (ai rh))), (pir, .inl (cZ, 20, .inl (ai rt))), (pwk, .inl (cI, 24, .inl (ai wf2_6))), (psp, .inl (cJ, 24, .inr (.inl (al pf2_7)))), (pgv, .inl (cZ, 24, .inl (ai gv2_5)))] := hD
    have hw_z1 : (-2147483648 ≤ z1 ∧ z1 ≤ 2147483647) ∧ SPB pf2_7 ∧ B01 24 gv2_5 := hw_z1
    obtain ⟨o0, o1, o2⟩ := hw_z1
    refine lv_istore (lv' := [(4, .int (iI z1)), (0, .ref mx), (1, .int (iI f)), (2, .int (iI g)), (3, .int (iI x))]) hx hb dqM_costOf_6 hl (by decide) rfl (fun ls hl => ?_)
    refine lv_iload_n hx hb dqM_costOf_8 rfl (lv_at hl 3 rfl) ?_
    refine lv_aload_n hx hb dqM_costOf_9 rfl (lv_at hl 1 rfl) ?_
    refine va_get (D := D) (ci := 8) (v := .int (iI n)) (C := RqM) (T := TqM) (N := 34) hx hb hts (in_c inqM) hown hK hP 0 rfl rfl 2 (by decide) (hts (.fieldLink RqM 88 "SpringSpacesModel" "columns" "I") (List.mem_cons_of_mem _ tb_640)) (fun _ h9 => h9) rfl dqM_costOf_10 ?_
    refine lv_iconst (v := iI 1) hx hb dqM_costOf_13 rfl ?_
    refine q_isub hx hb dqM_costOf_14 ?_
    refine q_icmp_ne (tgt := 26) hx hb dqM_costOf_15 (by decide) (by omega) (by omega) (by omega) (by omega) (fun c_15 => ?_) (fun c_15 => ?_)
    · refine lv_iload_n hx hb dqM_costOf_26 rfl (lv_at hl 4 rfl) ?_
      refine lv_iload hx hb dqM_costOf_27 (lv_at hl 0 rfl) ?_
      refine q_isub hx hb dqM_costOf_29 ?_
      refine q_i2l_w hx hb dqM_costOf_30 (fun v8 v8a v8b => ?_)
      refine lv_lstore (lv' := [(5, .long (lI v8)), (4, .int (iI z1)), (0, .ref mx), (1, .int (iI f)), (2, .int (iI g)), (3, .int (iI x))]) hx hb dqM_costOf_31 hl (by decide) rfl (fun ls hl => ?_)
      refine lv_lload hx hb dqM_costOf_33 (lv_at hl 0 rfl) ?_
      refine lv_lload hx hb dqM_costOf_35 (lv_at hl 0 rfl) ?_
      refine q_lmul hx hb dqM_costOf_37 ?_
      refine hv_l (fun v9 v9a v9b => ?_)
      refine lv_aload_n hx hb dqM_costOf_38 rfl (lv_at hl 2 rfl) ?_
      refine lv_iload_n hx hb dqM_costOf_39 rfl (lv_at hl 3 rfl) ?_
      refine lv_iload_n hx hb dqM_costOf_40 rfl (lv_at hl 4 rfl) ?_
      refine af_i (wr := [(ptm, .inl (cI, 24, .inl (ai tf))), (plw, .inl (cI, 24, .inl (ai lf))), (pit, .inl (cZ, 96, .inl (ai hf))), (ple, .inl (cI, 96, .inl (ai ef))), (pri, .inl (cI, 96, .inl (ai gf))), (prf, .inl (cI, 20, .inl (ai rff))), (prt, .inl (cI, 20, .inl (ai rg))), (prw, .inl (cI, 20, .inl (ai rh))), (pir, .inl (cZ, 20, .inl (ai rt))), (psp, .inl (cJ, 24, .inr (.inl (al pf2_7)))), (pgv, .inl (cZ, 24, .inl (ai gv2_5)))]) (va_runV (As := [.int (iI f), .int (iI g)]) (rest := [.long (lI v9)]) ⟨hx, hb, hml, hown, hts⟩ (c_M_sum l D cI cJ cZ mx f g b mo n ptm plw pbr pit ple pri nu nl prf prt prw pir hl1 fi la ov av bw pse psp hm1 lc cst pbg pwk pgv fa2_3 fb2_4 pbc pbl pbe wf2_6 (by omega) (by omega) (by omega) (by omega) H.size) (cwV 2 hts (gi_V tb_813 tb_815 tb_16 tb_33 tb_816) rfl rfl rfl (by decide +kernel) ⟨Nat.le_of_ble_eq_true rfl, Nat.le_of_ble_eq_true rfl⟩) (pre_V (ci := 8) (q0 := 0) hK hN hP hD [0, 10] rfl rfl rfl rfl) rfl rfl hl.1 rfl (lv_room (Nat.le_of_ble_eq_true rfl)) dqM_costOf_41 ⟨by first | omega | decide, by first | omega | decide⟩) hA hP hD hS [0, 10] [1, 2, 3, 4, 5, 6, 7, 8, 9, 11, 12] rfl rfl (by decide +kernel) (by decide +kernel) (fun z10 u11 H locs hw_z10 hP hD hS => ?_)
      have hP : va_P D vwCl [(mx, .inr (8, [.int (iI b), .int (iI mo), .int (iI n), .ref ptm, .ref plw, .ref pbr, .ref pit, .ref ple, .ref pri, .int (iI nu), .int (iI nl), .ref prf, .ref prt, .ref prw, .ref pir, .int (iI hl1), .int (iI fi), .int (iI la), .int (iI ov), .long (lI av), .long (lI bw), .ref pse, .ref psp, .int (iI hm1), .int (iI lc), .long (lI cst), .ref pbg, .ref pwk, .ref pgv, .long (lI fa2_3), .long (lI fb2_4), .ref pbc, .ref pbl, .ref pbe])), (ptm, .inl (cI, 24, .inl (ai tf))), (plw, .inl (cI, 24, .inl (ai lf))), (pit, .inl (cZ, 96, .inl (ai hf))), (ple, .inl (cI, 96, .inl (ai ef))), (pri, .inl (cI, 96, .inl (ai gf))), (prf, .inl (cI, 20, .inl (ai rff))), (prt, .inl (cI, 20, .inl (ai rg))), (prw, .inl (cI, 20, .inl (ai rh))), (pir, .inl (cZ, 20, .inl (ai rt))), (pwk, .inl (cI, 24, .inl (ai wf2_6))), (psp, .inl (cJ, 24, .inr (.inl (al pf2_7)))), (pgv, .inl (cZ, 24, .inl (ai gv2_5)))] H := hP.sub [11, 0, 1, 2, 3, 4, 5, 6, 7, 8, 12, 9, 10] rfl
      have hD : va_D A [(mx, .inr (8, [.int (iI b), .int (iI mo), .int (iI n), .ref ptm, .ref plw, .ref pbr, .ref pit, .ref ple, .ref pri, .int (iI nu), .int (iI nl), .ref prf, .ref prt, .ref prw, .ref pir, .int (iI hl1), .int (iI fi), .int (iI la), .int (iI ov), .long (lI av), .long (lI bw), .ref pse, .ref psp, .int (iI hm1), .int (iI lc), .long (lI cst), .ref pbg, .ref pwk, .ref pgv, .long (lI fa2_3), .long (lI fb2_4), .ref pbc, .ref pbl, .ref pbe])), (ptm, .inl (cI, 24, .inl (ai tf))), (plw, .inl (cI, 24, .inl (ai lf))), (pit, .inl (cZ, 96, .inl (ai hf))), (ple, .inl (cI, 96, .inl (ai ef))), (pri, .inl (cI, 96, .inl (ai gf))), (prf, .inl (cI, 20, .inl (ai rff))), (prt, .inl (cI, 20, .inl (ai rg))), (prw, .inl (cI, 20, .inl (ai rh))), (pir, .inl (cZ, 20, .inl (ai rt))), (pwk, .inl (cI, 24, .inl (ai wf2_6))), (psp, .inl (cJ, 24, .inr (.inl (al pf2_7)))), (pgv, .inl (cZ, 24, .inl (ai gv2_5)))] := hD.sub [11, 0, 1, 2, 3, 4, 5, 6, 7, 8, 12, 9, 10] (by decide +kernel) rfl
      have hw_z10 : -2147483648 ≤ z10 ∧ z10 ≤ 2147483647 := hw_z10
      refine lv_iload_n hx hb dqM_costOf_44 rfl (lv_at hl 5 rfl) ?_
      refine q_icmp_le (tgt := 54) hx hb dqM_costOf_45 (by decide) (by omega) (by omega) (by omega) (by omega) (fun c_45 => ?_) (fun c_45 => ?_)
      · refine lv_lconst (v := lI 0) hx hb dqM_costOf_54 (by decide +kernel) ?_
        refine q_ladd hx hb dqM_costOf_55 ?_
        refine hv_l (fun v12 v12a v12b => ?_)
        exact hret H locs _ ls v12 (fa2_3, fb2_4, gv2_5, wf2_6, pf2_7) hS (⟨o1, o2⟩) hP hD dqM_costOf_56
      · refine lv_ldc2 (v := 1000000000) hx hb hown (hts (.constantLong RqM 173 1000000000) (List.mem_cons_of_mem _ tb_889)) dqM_costOf_48 ?_
        refine tp_l (y := lI 1000000000) (by decide +kernel) ?_
        refine lv_goto (tgt := 55) hx hb dqM_costOf_51 (by decide) ?_
        refine q_ladd hx hb dqM_costOf_55 ?_
        refine hv_l (fun v13 v13a v13b => ?_)
        exact hret H locs _ ls v13 (fa2_3, fb2_4, gv2_5, wf2_6, pf2_7) hS (⟨o1, o2⟩) hP hD dqM_costOf_56
    · refine lv_iload hx hb dqM_costOf_18 (lv_at hl 0 rfl) ?_
      refine lv_iload_n hx hb dqM_costOf_20 rfl (lv_at hl 4 rfl) ?_
      refine q_icmp_gt (tgt := 26) hx hb dqM_costOf_21 (by decide) (by omega) (by omega) (by omega) (by omega) (fun c_21 => ?_) (fun c_21 => ?_)
      · refine lv_iload_n hx hb dqM_costOf_26 rfl (lv_at hl 4 rfl) ?_
        refine lv_iload hx hb dqM_costOf_27 (lv_at hl 0 rfl) ?_
        refine q_isub hx hb dqM_costOf_29 ?_
        refine q_i2l_w hx hb dqM_costOf_30 (fun v14 v14a v14b => ?_)
        refine lv_lstore (lv' := [(5, .long (lI v14)), (4, .int (iI z1)), (0, .ref mx), (1, .int (iI f)), (2, .int (iI g)), (3, .int (iI x))]) hx hb dqM_costOf_31 hl (by decide) rfl (fun ls hl => ?_)
        refine lv_lload hx hb dqM_costOf_33 (lv_at hl 0 rfl) ?_
        refine lv_lload hx hb dqM_costOf_35 (lv_at hl 0 rfl) ?_
        refine q_lmul hx hb dqM_costOf_37 ?_
        refine hv_l (fun v15 v15a v15b => ?_)
        refine lv_aload_n hx hb dqM_costOf_38 rfl (lv_at hl 2 rfl) ?_
        refine lv_iload_n hx hb dqM_costOf_39 rfl (lv_at hl 3 rfl) ?_
        refine lv_iload_n hx hb dqM_costOf_40 rfl (lv_at hl 4 rfl) ?_
        refine af_i (wr := [(ptm, .inl (cI, 24, .inl (ai tf))), (plw, .inl (cI, 24, .inl (ai lf))), (pit, .inl (cZ, 96, .inl (ai hf))), (ple, .inl (cI, 96, .inl (ai ef))), (pri, .inl (cI, 96, .inl (ai gf))), (prf, .inl (cI, 20, .inl (ai rff))), (prt, .inl (cI, 20, .inl (ai rg))), (prw, .inl (cI, 20, .inl (ai rh))), (pir, .inl (cZ, 20, .inl (ai rt))), (psp, .inl (cJ, 24, .inr (.inl (al pf2_7)))), (pgv, .inl (cZ, 24, .inl (ai gv2_5)))]) (va_runV (As := [.int (iI f), .int (iI g)]) (rest := [.long (lI v15)]) ⟨hx, hb, hml, hown, hts⟩ (c_M_sum l D cI cJ cZ mx f g b mo n ptm plw pbr pit ple pri nu nl prf prt prw pir hl1 fi la ov av bw pse psp hm1 lc cst pbg pwk pgv fa2_3 fb2_4 pbc pbl pbe wf2_6 (by omega) (by omega) (by omega) (by omega) H.size) (cwV 2 hts (gi_V tb_813 tb_815 tb_16 tb_33 tb_816) rfl rfl rfl (by decide +kernel) ⟨Nat.le_of_ble_eq_true rfl, Nat.le_of_ble_eq_true rfl⟩) (pre_V (ci := 8) (q0 := 0) hK hN hP hD [0, 10] rfl rfl rfl rfl) rfl rfl hl.1 rfl (lv_room (Nat.le_of_ble_eq_true rfl)) dqM_costOf_41 ⟨by first | omega | decide, by first | omega | decide⟩) hA hP hD hS [0, 10] [1, 2, 3, 4, 5, 6, 7, 8, 9, 11, 12] rfl rfl (by decide +kernel) (by decide +kernel) (fun z16 u17 H locs hw_z16 hP hD hS => ?_)
        have hP : va_P D vwCl [(mx, .inr (8, [.int (iI b), .int (iI mo), .int (iI n), .ref ptm, .ref plw, .ref pbr, .ref pit, .ref ple, .ref pri, .int (iI nu), .int (iI nl), .ref prf, .ref prt, .ref prw, .ref pir, .int (iI hl1), .int (iI fi), .int (iI la), .int (iI ov), .long (lI av), .long (lI bw), .ref pse, .ref psp, .int (iI hm1), .int (iI lc), .long (lI cst), .ref pbg, .ref pwk, .ref pgv, .long (lI fa2_3), .long (lI fb2_4), .ref pbc, .ref pbl, .ref pbe])), (ptm, .inl (cI, 24, .inl (ai tf))), (plw, .inl (cI, 24, .inl (ai lf))), (pit, .inl (cZ, 96, .inl (ai hf))), (ple, .inl (cI, 96, .inl (ai ef))), (pri, .inl (cI, 96, .inl (ai gf))), (prf, .inl (cI, 20, .inl (ai rff))), (prt, .inl (cI, 20, .inl (ai rg))), (prw, .inl (cI, 20, .inl (ai rh))), (pir, .inl (cZ, 20, .inl (ai rt))), (pwk, .inl (cI, 24, .inl (ai wf2_6))), (psp, .inl (cJ, 24, .inr (.inl (al pf2_7)))), (pgv, .inl (cZ, 24, .inl (ai gv2_5)))] H := hP.sub [11, 0, 1, 2, 3, 4, 5, 6, 7, 8, 12, 9, 10] rfl
        have hD : va_D A [(mx, .inr (8, [.int (iI b), .int (iI mo), .int (iI n), .ref ptm, .ref plw, .ref pbr, .ref pit, .ref ple, .ref pri, .int (iI nu), .int (iI nl), .ref prf, .ref prt, .ref prw, .ref pir, .int (iI hl1), .int (iI fi), .int (iI la), .int (iI ov), .long (lI av), .long (lI bw), .ref pse, .ref psp, .int (iI hm1), .int (iI lc), .long (lI cst), .ref pbg, .ref pwk, .ref pgv, .long (lI fa2_3), .long (lI fb2_4), .ref pbc, .ref pbl, .ref pbe])), (ptm, .inl (cI, 24, .inl (ai tf))), (plw, .inl (cI, 24, .inl (ai lf))), (pit, .inl (cZ, 96, .inl (ai hf))), (ple, .inl (cI, 96, .inl (ai ef))), (pri, .inl (cI, 96, .inl (ai gf))), (prf, .inl (cI, 20, .inl (ai rff))), (prt, .inl (cI, 20, .inl (ai rg))), (prw, .inl (cI, 20, .inl (ai rh))), (pir, .inl (cZ, 20, .inl (ai rt))), (pwk, .inl (cI, 24, .inl (ai wf2_6))), (psp, .inl (cJ, 24, .inr (.inl (al pf2_7)))), (pgv, .inl (cZ, 24, .inl (ai gv2_5)))] := hD.sub [11, 0, 1, 2, 3, 4, 5, 6, 7, 8, 12, 9, 10] (by decide +kernel) rfl
        have hw_z16 : -2147483648 ≤ z16 ∧ z16 ≤ 2147483647 := hw_z16
        refine lv_iload_n hx hb dqM_costOf_44 rfl (lv_at hl 5 rfl) ?_
        refine q_icmp_le (tgt := 54) hx hb dqM_costOf_45 (by decide) (by omega) (by omega) (by omega) (by omega) (fun c_45 => ?_) (fun c_45 => ?_)
        · refine lv_lconst (v := lI 0) hx hb dqM_costOf_54 (by decide +kernel) ?_
          refine q_ladd hx hb dqM_costOf_55 ?_
          refine hv_l (fun v18 v18a v18b => ?_)
          exact hret H locs _ ls v18 (fa2_3, fb2_4, gv2_5, wf2_6, pf2_7) hS (⟨o1, o2⟩) hP hD dqM_costOf_56
        · refine lv_ldc2 (v := 1000000000) hx hb hown (hts (.constantLong RqM 173 1000000000) (List.mem_cons_of_mem _ tb_889)) dqM_costOf_48 ?_
          refine tp_l (y := lI 1000000000) (by decide +kernel) ?_
          refine lv_goto (tgt := 55) hx hb dqM_costOf_51 (by decide) ?_
          refine q_ladd hx hb dqM_costOf_55 ?_
          refine hv_l (fun v19 v19a v19b => ?_)
          exact hret H locs _ ls v19 (fa2_3, fb2_4, gv2_5, wf2_6, pf2_7) hS (⟨o1, o2⟩) hP hD dqM_costOf_56
      · refine lv_lconst (v := lI 0) hx hb dqM_costOf_24 (by decide +kernel) ?_
        exact hret H locs _ ls 0 (fa2_3, fb2_4, gv2_5, wf2_6, pf2_7) hS (⟨o1, o2⟩) hP hD dqM_costOf_25
  rw [hH0, hL0] at goal
  exact goal
def rm_M_isBreak : Room := { frames := 0, cells := 0, slots := 0, locals := 0 }
set_option maxHeartbeats 4000000 in
set_option maxRecDepth 100000 in
theorem c_M_isBreak (l : Launch) (D : va_G) (cI cJ cZ : ClassId) (mx : Nat) (x : Int) (b : Int) (mo : Int) (n : Int) (ptm : Nat) (plw : Nat) (pbr : Nat) (pit : Nat) (ple : Nat) (pri : Nat) (nu : Int) (nl : Int) (prf : Nat) (prt : Nat) (prw : Nat) (pir : Nat) (hl1 : Int) (fi : Int) (la : Int) (ov : Int) (av : Int) (bw : Int) (pse : Nat) (psp : Nat) (hm1 : Int) (lc : Int) (cst : Int) (pbg : Nat) (pwk : Nat) (pgv : Nat) (fa : Int) (fb : Int) (pbc : Nat) (pbl : Nat) (pbe : Nat) (bf : Int → Int) (h1 : 0 ≤ n) (h2 : n ≤ 24) (h3 : 0 ≤ x) (h4 : x ≤ 23) (hB : B01 24 bf) : Mi l yqM_isBreak wsqM_isBreak rm_M_isBreak D cI cJ cZ [.ref mx, .int (iI x)] [(mx, .inr (8, [.int (iI b), .int (iI mo), .int (iI n), .ref ptm, .ref plw, .ref pbr, .ref pit, .ref ple, .ref pri, .int (iI nu), .int (iI nl), .ref prf, .ref prt, .ref prw, .ref pir, .int (iI hl1), .int (iI fi), .int (iI la), .int (iI ov), .long (lI av), .long (lI bw), .ref pse, .ref psp, .int (iI hm1), .int (iI lc), .long (lI cst), .ref pbg, .ref pwk, .ref pgv, .long (lI fa), .long (lI fb), .ref pbc, .ref pbl, .ref pbe])), (pbr, .inl (cZ, 24, .inl (ai bf)))] (S := Unit) (fun z _ => bl z (IB n bf x)) (fun _ => [(mx, .inr (8, [.int (iI b), .int (iI mo), .int (iI n), .ref ptm, .ref plw, .ref pbr, .ref pit, .ref ple, .ref pri, .int (iI nu), .int (iI nl), .ref prf, .ref prt, .ref prw, .ref pir, .int (iI hl1), .int (iI fi), .int (iI la), .int (iI ov), .long (lI av), .long (lI bw), .ref pse, .ref psp, .int (iI hm1), .int (iI lc), .long (lI cst), .ref pbg, .ref pwk, .ref pgv, .long (lI fa), .long (lI fb), .ref pbc, .ref pbl, .ref pbe])), (pbr, .inl (cZ, 24, .inl (ai bf)))]) 0 0 := by
  refine en_i (cc := cqM_isBreak) (maxL := 2) (ty := .boolean) (by decide +kernel) rfl (Nat.le_of_ble_eq_true rfl) ?_
  intro p e s m args below meth c A Q hx hb hml hin hts hown hA hP hK hD hN hS hret ls hl
  have hl : lv_has ls 2 [(0, .ref mx), (1, .int (iI x))] := hl
  obtain ⟨H, hH0⟩ : ∃ H, H = s.heap := ⟨_, rfl⟩
  obtain ⟨locs, hL0⟩ : ∃ locs : List Loc, locs = [] := ⟨_, rfl⟩
  rw [← hH0] at hP
  have hS : va_S A s.heap H locs := by rw [hH0, hL0]; exact hS
  have goal : W p l e rm_M_isBreak s m args below meth c H locs 0 0 Q (F0 m 0 ls []) := by
    refine lv_iload_n hx hb dqM_isBreak_0 rfl (lv_at hl 1 rfl) ?_
    refine q_if_eq (tgt := 23) hx hb dqM_isBreak_1 (by decide) (by omega) (by omega) (fun c_1 => ?_) (fun c_1 => ?_)
    · refine lv_iconst (v := iI 1) hx hb dqM_isBreak_23 rfl ?_
      refine lv_goto (tgt := 28) hx hb dqM_isBreak_24 (by decide) ?_
      exact hret H locs _ ls 1 () (narrow_z (by omega)) hS (by unfold IB; first | exact bl_y (by omega) | exact bl_n (by omega)) hP hD dqM_isBreak_28
    · refine lv_iload_n hx hb dqM_isBreak_4 rfl (lv_at hl 1 rfl) ?_
      refine lv_aload_n hx hb dqM_isBreak_5 rfl (lv_at hl 0 rfl) ?_
      refine va_get (D := D) (ci := 8) (v := .int (iI n)) (C := RqM) (T := TqM) (N := 34) hx hb hts (in_c inqM) hown hK hP 0 rfl rfl 2 (by decide) (hts (.fieldLink RqM 88 "SpringSpacesModel" "columns" "I") (List.mem_cons_of_mem _ tb_640)) (fun _ h9 => h9) rfl dqM_isBreak_6 ?_
      refine lv_iconst (v := iI 1) hx hb dqM_isBreak_9 rfl ?_
      refine q_isub hx hb dqM_isBreak_10 ?_
      refine q_icmp_eq (tgt := 23) hx hb dqM_isBreak_11 (by decide) (by omega) (by omega) (by omega) (by omega) (fun c_11 => ?_) (fun c_11 => ?_)
      · refine lv_iconst (v := iI 1) hx hb dqM_isBreak_23 rfl ?_
        refine lv_goto (tgt := 28) hx hb dqM_isBreak_24 (by decide) ?_
        exact hret H locs _ ls 1 () (narrow_z (by omega)) hS (by unfold IB; first | exact bl_y (by omega) | exact bl_n (by omega)) hP hD dqM_isBreak_28
      · have b9 := hB x (by omega) (by omega)
        refine lv_aload_n hx hb dqM_isBreak_14 rfl (lv_at hl 0 rfl) ?_
        refine va_get (D := D) (ci := 8) (v := .ref pbr) (C := RqM) (T := TqM) (N := 34) hx hb hts (in_c inqM) hown hK hP 0 rfl rfl 5 (by decide) (hts (.fieldLink RqM 23 "SpringSpacesModel" "bars" "[Z") (List.mem_cons_of_mem _ tb_643)) (fun _ h9 => h9) rfl dqM_isBreak_15 ?_
        refine lv_iload_n hx hb dqM_isBreak_18 rfl (lv_at hl 1 rfl) ?_
        refine q_zald (i := x) hx hb hK hP 1 2 rfl rfl (by omega) (by omega) (by omega) dqM_isBreak_19 ?_
        refine q_if_eq (tgt := 27) hx hb dqM_isBreak_20 (by decide) (by omega) (by omega) (fun c_20 => ?_) (fun c_20 => ?_)
        · refine lv_iconst (v := iI 0) hx hb dqM_isBreak_27 rfl ?_
          exact hret H locs _ ls 0 () (narrow_z (by omega)) hS (by unfold IB; first | exact bl_y (by omega) | exact bl_n (by omega)) hP hD dqM_isBreak_28
        · refine lv_iconst (v := iI 1) hx hb dqM_isBreak_23 rfl ?_
          refine lv_goto (tgt := 28) hx hb dqM_isBreak_24 (by decide) ?_
          exact hret H locs _ ls 1 () (narrow_z (by omega)) hS (by unfold IB; first | exact bl_y (by omega) | exact bl_n (by omega)) hP hD dqM_isBreak_28
  rw [hH0, hL0] at goal
  exact goal
