def rm_Ne_gather : Room := { frames := 3, cells := 0, slots := 0, locals := 69 }
set_option maxHeartbeats 4000000 in
set_option maxRecDepth 100000 in
theorem c_Ne_gather (l : Launch) (D : va_G) (cI cJ cZ : ClassId) (ne : Nat) (it : Nat) (ro : Nat) (cs : Int) (na : Nat) (nb : Nat) (nc : Nat) (nk : Int) (nf : Int → Int) (ng : Int → Int) (nw : Int → Int) (ia : Nat) (ib : Nat) (ic : Nat) (hf : Int → Int) (ef : Int → Int) (gf : Int → Int) (ra : Nat) (rb : Nat) (rc : Nat) (rd : Nat) (nu : Int) (ct : Int) (rt : Int → Int) (rff : Int → Int) (rg : Int → Int) (rh : Int → Int) (h1 : 0 ≤ cs) (h2 : cs ≤ 24) (hB : B01 96 hf) (h4 : 0 ≤ nu) (h5 : nu ≤ 20) (hR : ND nu rff rg) : Mv l yqNe_gather wsqNe_gather rm_Ne_gather D cI cJ cZ [.ref ne, .ref it, .ref ro, .int (iI cs)] [(ne, .inr (4, [.ref na, .ref nb, .ref nc, .int (iI nk)])), (na, .inl (cI, 112, .inl (ai nf))), (nb, .inl (cI, 112, .inl (ai ng))), (nc, .inl (cI, 112, .inl (ai nw))), (it, .inr (2, [.ref ia, .ref ib, .ref ic])), (ia, .inl (cZ, 96, .inl (ai hf))), (ib, .inl (cI, 96, .inl (ai ef))), (ic, .inl (cI, 96, .inl (ai gf))), (ro, .inr (3, [.ref ra, .ref rb, .ref rc, .ref rd, .int (iI nu), .int (iI ct)])), (ra, .inl (cZ, 20, .inl (ai rt))), (rb, .inl (cI, 20, .inl (ai rff))), (rc, .inl (cI, 20, .inl (ai rg))), (rd, .inl (cI, 20, .inl (ai rh)))] (S := Int × (Int → Int) × (Int → Int) × (Int → Int)) (fun u => 0 ≤ u.1 ∧ u.1 ≤ 112 ∧ ND u.1 u.2.1 u.2.2.1) (fun u => [(ne, .inr (4, [.ref na, .ref nb, .ref nc, .int (iI u.1)])), (na, .inl (cI, 112, .inl (ai u.2.1))), (nb, .inl (cI, 112, .inl (ai u.2.2.1))), (nc, .inl (cI, 112, .inl (ai u.2.2.2))), (it, .inr (2, [.ref ia, .ref ib, .ref ic])), (ia, .inl (cZ, 96, .inl (ai hf))), (ib, .inl (cI, 96, .inl (ai ef))), (ic, .inl (cI, 96, .inl (ai gf))), (ro, .inr (3, [.ref ra, .ref rb, .ref rc, .ref rd, .int (iI nu), .int (iI ct)])), (ra, .inl (cZ, 20, .inl (ai rt))), (rb, .inl (cI, 20, .inl (ai rff))), (rc, .inl (cI, 20, .inl (ai rg))), (rd, .inl (cI, 20, .inl (ai rh)))]) 0 0 := by
  refine en_v (cc := cqNe_gather) (maxL := 5) (by decide +kernel) rfl (Nat.le_of_ble_eq_true rfl) ?_
  intro p e s m args below meth c A Q hx hb hml hin hts hown hA hP hK hD hN hS hret ls hl
  have hl : lv_has ls 5 [(0, .ref ne), (1, .ref it), (2, .ref ro), (3, .int (iI cs))] := hl
  obtain ⟨H, hH0⟩ : ∃ H, H = s.heap := ⟨_, rfl⟩
  obtain ⟨locs, hL0⟩ : ∃ locs : List Loc, locs = [] := ⟨_, rfl⟩
  rw [← hH0] at hP
  have hS : va_S A s.heap H locs := by rw [hH0, hL0]; exact hS
  have goal : W p l e rm_Ne_gather s m args below meth c H locs 0 0 Q (F0 m 0 ls []) := by
    refine lv_aload_n hx hb dqNe_gather_0 rfl (lv_at hl 0 rfl) ?_
    refine lv_iconst (v := iI 0) hx hb dqNe_gather_1 rfl ?_
    refine va_put (D := D) (ci := 4) (v := .int (iI 0)) (ty := .int) (C := RqNe) (T := TqNe) (N := 4) hx hb hts (in_c inqNe) tyqNe tyqNe_ok nmqNe hown hK hP hD hS 0 rfl rfl 3 (by decide) (hts (.fieldLink RqNe 21 "SpringSpaces$Needs" "count" "I") (List.mem_cons_of_mem _ tb_120)) (fun _ h9 => h9) rfl (by decide +kernel) rfl rfl (Nat.le_of_ble_eq_true rfl) dqNe_gather_2 (fun H locs hP hD hS => ?_)
    have hP : va_P D vwCl [(ne, .inr (4, [.ref na, .ref nb, .ref nc, .int (iI 0)])), (na, .inl (cI, 112, .inl (ai nf))), (nb, .inl (cI, 112, .inl (ai ng))), (nc, .inl (cI, 112, .inl (ai nw))), (it, .inr (2, [.ref ia, .ref ib, .ref ic])), (ia, .inl (cZ, 96, .inl (ai hf))), (ib, .inl (cI, 96, .inl (ai ef))), (ic, .inl (cI, 96, .inl (ai gf))), (ro, .inr (3, [.ref ra, .ref rb, .ref rc, .ref rd, .int (iI nu), .int (iI ct)])), (ra, .inl (cZ, 20, .inl (ai rt))), (rb, .inl (cI, 20, .inl (ai rff))), (rc, .inl (cI, 20, .inl (ai rg))), (rd, .inl (cI, 20, .inl (ai rh)))] H := hP
    have hD : va_D A [(ne, .inr (4, [.ref na, .ref nb, .ref nc, .int (iI 0)])), (na, .inl (cI, 112, .inl (ai nf))), (nb, .inl (cI, 112, .inl (ai ng))), (nc, .inl (cI, 112, .inl (ai nw))), (it, .inr (2, [.ref ia, .ref ib, .ref ic])), (ia, .inl (cZ, 96, .inl (ai hf))), (ib, .inl (cI, 96, .inl (ai ef))), (ic, .inl (cI, 96, .inl (ai gf))), (ro, .inr (3, [.ref ra, .ref rb, .ref rc, .ref rd, .int (iI nu), .int (iI ct)])), (ra, .inl (cZ, 20, .inl (ai rt))), (rb, .inl (cI, 20, .inl (ai rff))), (rc, .inl (cI, 20, .inl (ai rg))), (rd, .inl (cI, 20, .inl (ai rh)))] := hD
    refine lv_iconst (v := iI 0) hx hb dqNe_gather_5 rfl ?_
    refine lv_istore (lv' := [(4, .int (iI 0)), (0, .ref ne), (1, .ref it), (2, .ref ro), (3, .int (iI cs))]) hx hb dqNe_gather_6 hl (by decide) rfl (fun ls hl => ?_)
    have loop_8 : ∀ (n9 : Nat), ∀ (k : Int) (nk3 : Int) (nf3 : Int → Int) (ng3 : Int → Int) (nw3 : Int → Int) (H : Heap) (locs : List Loc) (ls : Array Slot), (0 ≤ k) → (k ≤ 4) → (0 ≤ nk3) → (nk3 ≤ 112) → (ND nk3 nf3 ng3) → ((4 - k).toNat < n9) → va_P D vwCl [(ne, .inr (4, [.ref na, .ref nb, .ref nc, .int (iI nk3)])), (na, .inl (cI, 112, .inl (ai nf3))), (nb, .inl (cI, 112, .inl (ai ng3))), (nc, .inl (cI, 112, .inl (ai nw3))), (it, .inr (2, [.ref ia, .ref ib, .ref ic])), (ia, .inl (cZ, 96, .inl (ai hf))), (ib, .inl (cI, 96, .inl (ai ef))), (ic, .inl (cI, 96, .inl (ai gf))), (ro, .inr (3, [.ref ra, .ref rb, .ref rc, .ref rd, .int (iI nu), .int (iI ct)])), (ra, .inl (cZ, 20, .inl (ai rt))), (rb, .inl (cI, 20, .inl (ai rff))), (rc, .inl (cI, 20, .inl (ai rg))), (rd, .inl (cI, 20, .inl (ai rh)))] H → va_D A [(ne, .inr (4, [.ref na, .ref nb, .ref nc, .int (iI nk3)])), (na, .inl (cI, 112, .inl (ai nf3))), (nb, .inl (cI, 112, .inl (ai ng3))), (nc, .inl (cI, 112, .inl (ai nw3))), (it, .inr (2, [.ref ia, .ref ib, .ref ic])), (ia, .inl (cZ, 96, .inl (ai hf))), (ib, .inl (cI, 96, .inl (ai ef))), (ic, .inl (cI, 96, .inl (ai gf))), (ro, .inr (3, [.ref ra, .ref rb, .ref rc, .ref rd, .int (iI nu), .int (iI ct)])), (ra, .inl (cZ, 20, .inl (ai rt))), (rb, .inl (cI, 20, .inl (ai rff))), (rc, .inl (cI, 20, .inl (ai rg))), (rd, .inl (cI, 20, .inl (ai rh)))] → va_S A s.heap H locs → lv_has ls 5 [(4, .int (iI k)), (0, .ref ne), (1, .ref it), (2, .ref ro), (3, .int (iI cs))] → W p l e rm_Ne_gather s m args below meth c H locs 0 0 Q (F0 m 8 ls []) := by
      intro n9
      induction n9 with
      | zero =>
        intro k nk3 nf3 ng3 nw3 H locs ls k1 k2 q3 q4 q5 hm9
        exact absurd hm9 (by omega)
      | succ n9 ih_8 =>
        intro k nk3 nf3 ng3 nw3 H locs ls k1 k2 q3 q4 q5 hm9 hP hD hS hl
        refine lv_iload hx hb dqNe_gather_8 (lv_at hl 0 rfl) ?_
        refine lv_iconst (v := iI 4) hx hb dqNe_gather_10 rfl ?_
        refine q_icmp_ge (tgt := 28) hx hb dqNe_gather_11 (by decide) (by omega) (by omega) (by omega) (by omega) (fun c_11 => ?_) (fun c_11 => ?_)
        · refine lv_iconst (v := iI 0) hx hb dqNe_gather_28 rfl ?_
          refine lv_istore (lv' := [(4, .int (iI 0)), (0, .ref ne), (1, .ref it), (2, .ref ro), (3, .int (iI cs))]) hx hb dqNe_gather_29 hl (by decide) rfl (fun ls hl => ?_)
          have loop_31 : ∀ (n9 : Nat), ∀ (k : Int) (nk4 : Int) (nf4 : Int → Int) (ng4 : Int → Int) (nw4 : Int → Int) (H : Heap) (locs : List Loc) (ls : Array Slot), (0 ≤ k) → (k ≤ 20) → (0 ≤ nk4) → (nk4 ≤ 112) → (ND nk4 nf4 ng4) → ((20 - k).toNat < n9) → va_P D vwCl [(ne, .inr (4, [.ref na, .ref nb, .ref nc, .int (iI nk4)])), (na, .inl (cI, 112, .inl (ai nf4))), (nb, .inl (cI, 112, .inl (ai ng4))), (nc, .inl (cI, 112, .inl (ai nw4))), (it, .inr (2, [.ref ia, .ref ib, .ref ic])), (ia, .inl (cZ, 96, .inl (ai hf))), (ib, .inl (cI, 96, .inl (ai ef))), (ic, .inl (cI, 96, .inl (ai gf))), (ro, .inr (3, [.ref ra, .ref rb, .ref rc, .ref rd, .int (iI nu), .int (iI ct)])), (ra, .inl (cZ, 20, .inl (ai rt))), (rb, .inl (cI, 20, .inl (ai rff))), (rc, .inl (cI, 20, .inl (ai rg))), (rd, .inl (cI, 20, .inl (ai rh)))] H → va_D A [(ne, .inr (4, [.ref na, .ref nb, .ref nc, .int (iI nk4)])), (na, .inl (cI, 112, .inl (ai nf4))), (nb, .inl (cI, 112, .inl (ai ng4))), (nc, .inl (cI, 112, .inl (ai nw4))), (it, .inr (2, [.ref ia, .ref ib, .ref ic])), (ia, .inl (cZ, 96, .inl (ai hf))), (ib, .inl (cI, 96, .inl (ai ef))), (ic, .inl (cI, 96, .inl (ai gf))), (ro, .inr (3, [.ref ra, .ref rb, .ref rc, .ref rd, .int (iI nu), .int (iI ct)])), (ra, .inl (cZ, 20, .inl (ai rt))), (rb, .inl (cI, 20, .inl (ai rff))), (rc, .inl (cI, 20, .inl (ai rg))), (rd, .inl (cI, 20, .inl (ai rh)))] → va_S A s.heap H locs → lv_has ls 5 [(4, .int (iI k)), (0, .ref ne), (1, .ref it), (2, .ref ro), (3, .int (iI cs))] → W p l e rm_Ne_gather s m args below meth c H locs 0 0 Q (F0 m 31 ls []) := by
            intro n9
            induction n9 with
            | zero =>
              intro k nk4 nf4 ng4 nw4 H locs ls k1 k2 q6 q7 q8 hm9
              exact absurd hm9 (by omega)
            | succ n9 ih_31 =>
              intro k nk4 nf4 ng4 nw4 H locs ls k1 k2 q6 q7 q8 hm9 hP hD hS hl
              refine lv_iload hx hb dqNe_gather_31 (lv_at hl 0 rfl) ?_
              refine lv_aload_n hx hb dqNe_gather_33 rfl (lv_at hl 3 rfl) ?_
              refine af_i (wr := [(ne, .inr (4, [.ref na, .ref nb, .ref nc, .int (iI nk4)])), (na, .inl (cI, 112, .inl (ai nf4))), (nb, .inl (cI, 112, .inl (ai ng4))), (nc, .inl (cI, 112, .inl (ai nw4))), (it, .inr (2, [.ref ia, .ref ib, .ref ic])), (ia, .inl (cZ, 96, .inl (ai hf))), (ib, .inl (cI, 96, .inl (ai ef))), (ic, .inl (cI, 96, .inl (ai gf))), (ra, .inl (cZ, 20, .inl (ai rt))), (rb, .inl (cI, 20, .inl (ai rff))), (rc, .inl (cI, 20, .inl (ai rg))), (rd, .inl (cI, 20, .inl (ai rh)))]) (va_runV (As := []) (rest := [.int (iI k)]) ⟨hx, hb, hml, hown, hts⟩ (c_Ro_numbersGiven l D cI cJ cZ ro ra rb rc rd nu ct H.size) (cwV 0 hts (gi_V tb_393 tb_394 tb_395 tb_28 tb_396) rfl rfl rfl (by decide +kernel) ⟨Nat.le_of_ble_eq_true rfl, Nat.le_of_ble_eq_true rfl⟩) (pre_V (ci := 3) (q0 := 8) hK hN hP hD [8] rfl rfl rfl rfl) rfl rfl hl.1 rfl (lv_room (Nat.le_of_ble_eq_true rfl)) dqNe_gather_34 ⟨by first | omega | decide, by first | omega | decide⟩) hA hP hD hS [8] [0, 1, 2, 3, 4, 5, 6, 7, 9, 10, 11, 12] rfl rfl (by decide +kernel) (by decide +kernel) (fun z1 u2 H locs hw_z1 hP hD hS => ?_)
              have hP : va_P D vwCl [(ne, .inr (4, [.ref na, .ref nb, .ref nc, .int (iI nk4)])), (na, .inl (cI, 112, .inl (ai nf4))), (nb, .inl (cI, 112, .inl (ai ng4))), (nc, .inl (cI, 112, .inl (ai nw4))), (it, .inr (2, [.ref ia, .ref ib, .ref ic])), (ia, .inl (cZ, 96, .inl (ai hf))), (ib, .inl (cI, 96, .inl (ai ef))), (ic, .inl (cI, 96, .inl (ai gf))), (ro, .inr (3, [.ref ra, .ref rb, .ref rc, .ref rd, .int (iI nu), .int (iI ct)])), (ra, .inl (cZ, 20, .inl (ai rt))), (rb, .inl (cI, 20, .inl (ai rff))), (rc, .inl (cI, 20, .inl (ai rg))), (rd, .inl (cI, 20, .inl (ai rh)))] H := hP.sub [0, 1, 2, 3, 4, 5, 6, 7, 12, 8, 9, 10, 11] rfl
              have hD : va_D A [(ne, .inr (4, [.ref na, .ref nb, .ref nc, .int (iI nk4)])), (na, .inl (cI, 112, .inl (ai nf4))), (nb, .inl (cI, 112, .inl (ai ng4))), (nc, .inl (cI, 112, .inl (ai nw4))), (it, .inr (2, [.ref ia, .ref ib, .ref ic])), (ia, .inl (cZ, 96, .inl (ai hf))), (ib, .inl (cI, 96, .inl (ai ef))), (ic, .inl (cI, 96, .inl (ai gf))), (ro, .inr (3, [.ref ra, .ref rb, .ref rc, .ref rd, .int (iI nu), .int (iI ct)])), (ra, .inl (cZ, 20, .inl (ai rt))), (rb, .inl (cI, 20, .inl (ai rff))), (rc, .inl (cI, 20, .inl (ai rg))), (rd, .inl (cI, 20, .inl (ai rh)))] := hD.sub [0, 1, 2, 3, 4, 5, 6, 7, 12, 8, 9, 10, 11] (by decide +kernel) rfl
              have hw_z1 : nu = z1 := Eq.symm hw_z1
              subst hw_z1
              refine q_icmp_ge (tgt := 77) hx hb dqNe_gather_37 (by decide) (by omega) (by omega) (by omega) (by omega) (fun c_37 => ?_) (fun c_37 => ?_)
              · exact hret H locs _ ls (nk4, nf4, ng4, nw4) hS (⟨q6, q7, q8⟩) hP hD dqNe_gather_77
              · refine lv_aload_n hx hb dqNe_gather_40 rfl (lv_at hl 3 rfl) ?_
                refine lv_iload hx hb dqNe_gather_41 (lv_at hl 0 rfl) ?_
                refine af_i (wr := [(ne, .inr (4, [.ref na, .ref nb, .ref nc, .int (iI nk4)])), (na, .inl (cI, 112, .inl (ai nf4))), (nb, .inl (cI, 112, .inl (ai ng4))), (nc, .inl (cI, 112, .inl (ai nw4))), (it, .inr (2, [.ref ia, .ref ib, .ref ic])), (ia, .inl (cZ, 96, .inl (ai hf))), (ib, .inl (cI, 96, .inl (ai ef))), (ic, .inl (cI, 96, .inl (ai gf))), (rb, .inl (cI, 20, .inl (ai rff))), (rc, .inl (cI, 20, .inl (ai rg))), (rd, .inl (cI, 20, .inl (ai rh)))]) (va_runV (As := [.int (iI k)]) (rest := []) ⟨hx, hb, hml, hown, hts⟩ (c_Ro_have l D cI cJ cZ ro k ra rb rc rd nu ct rt (by omega) (by omega) (by omega) (by omega) H.size) (cwV 1 hts (gi_V tb_397 tb_337 tb_338 tb_28 tb_339) rfl rfl rfl (by decide +kernel) ⟨Nat.le_of_ble_eq_true rfl, Nat.le_of_ble_eq_true rfl⟩) (pre_V (ci := 3) (q0 := 8) hK hN hP hD [8, 9] rfl rfl rfl rfl) rfl rfl hl.1 rfl (lv_room (Nat.le_of_ble_eq_true rfl)) dqNe_gather_43 ⟨by first | omega | decide, by first | omega | decide⟩) hA hP hD hS [8, 9] [0, 1, 2, 3, 4, 5, 6, 7, 10, 11, 12] rfl rfl (by decide +kernel) (by decide +kernel) (fun z3 u4 H locs hw_z3 hP hD hS => ?_)
                have hP : va_P D vwCl [(ne, .inr (4, [.ref na, .ref nb, .ref nc, .int (iI nk4)])), (na, .inl (cI, 112, .inl (ai nf4))), (nb, .inl (cI, 112, .inl (ai ng4))), (nc, .inl (cI, 112, .inl (ai nw4))), (it, .inr (2, [.ref ia, .ref ib, .ref ic])), (ia, .inl (cZ, 96, .inl (ai hf))), (ib, .inl (cI, 96, .inl (ai ef))), (ic, .inl (cI, 96, .inl (ai gf))), (ro, .inr (3, [.ref ra, .ref rb, .ref rc, .ref rd, .int (iI nu), .int (iI ct)])), (ra, .inl (cZ, 20, .inl (ai rt))), (rb, .inl (cI, 20, .inl (ai rff))), (rc, .inl (cI, 20, .inl (ai rg))), (rd, .inl (cI, 20, .inl (ai rh)))] H := hP.sub [0, 1, 2, 3, 4, 5, 6, 7, 11, 12, 8, 9, 10] rfl
                have hD : va_D A [(ne, .inr (4, [.ref na, .ref nb, .ref nc, .int (iI nk4)])), (na, .inl (cI, 112, .inl (ai nf4))), (nb, .inl (cI, 112, .inl (ai ng4))), (nc, .inl (cI, 112, .inl (ai nw4))), (it, .inr (2, [.ref ia, .ref ib, .ref ic])), (ia, .inl (cZ, 96, .inl (ai hf))), (ib, .inl (cI, 96, .inl (ai ef))), (ic, .inl (cI, 96, .inl (ai gf))), (ro, .inr (3, [.ref ra, .ref rb, .ref rc, .ref rd, .int (iI nu), .int (iI ct)])), (ra, .inl (cZ, 20, .inl (ai rt))), (rb, .inl (cI, 20, .inl (ai rff))), (rc, .inl (cI, 20, .inl (ai rg))), (rd, .inl (cI, 20, .inl (ai rh)))] := hD.sub [0, 1, 2, 3, 4, 5, 6, 7, 11, 12, 8, 9, 10] (by decide +kernel) rfl
                have hw_z3 : (z3 = 0 ∨ z3 = 1) ∧ (z3 = 1 → 0 ≤ k ∧ k < nu) := hw_z3
                obtain ⟨w1, w2⟩ := hw_z3
                refine q_if_eq (tgt := 71) hx hb dqNe_gather_46 (by decide) (by omega) (by omega) (fun c_46 => ?_) (fun c_46 => ?_)
                · refine lv_iinc (v := iI (k + 1)) (lv' := [(4, .int (iI (k + 1))), (0, .ref ne), (1, .ref it), (2, .ref ro), (3, .int (iI cs))]) hx hb dqNe_gather_71 hl (k := 0) rfl (iI_add _ _) (by decide) rfl (fun ls hl => ?_)
                  refine lv_goto (tgt := 31) hx hb dqNe_gather_74 (by decide) ?_
                  exact ih_31 (k + 1) nk4 nf4 ng4 nw4 H locs ls (by omega) (by omega) (by omega) (by omega) (by first | assumption | exact q8) (by omega) hP hD hS (lv_sub hl [0, 1, 2, 3, 4] rfl)
                · have d9 := hR k k1 (by omega)
                  refine lv_aload_n hx hb dqNe_gather_49 rfl (lv_at hl 1 rfl) ?_
                  refine lv_aload_n hx hb dqNe_gather_50 rfl (lv_at hl 3 rfl) ?_
                  refine lv_iload hx hb dqNe_gather_51 (lv_at hl 0 rfl) ?_
                  refine af_i (wr := [(ne, .inr (4, [.ref na, .ref nb, .ref nc, .int (iI nk4)])), (na, .inl (cI, 112, .inl (ai nf4))), (nb, .inl (cI, 112, .inl (ai ng4))), (nc, .inl (cI, 112, .inl (ai nw4))), (it, .inr (2, [.ref ia, .ref ib, .ref ic])), (ia, .inl (cZ, 96, .inl (ai hf))), (ib, .inl (cI, 96, .inl (ai ef))), (ic, .inl (cI, 96, .inl (ai gf))), (ra, .inl (cZ, 20, .inl (ai rt))), (rc, .inl (cI, 20, .inl (ai rg))), (rd, .inl (cI, 20, .inl (ai rh)))]) (va_runV (As := [.int (iI k)]) (rest := [.ref ne]) ⟨hx, hb, hml, hown, hts⟩ (c_Ro_fromOf l D cI cJ cZ ro k ra rb rc rd nu ct rff (by omega) (by omega) H.size) (cwV 1 hts (gi_V tb_398 tb_399 tb_400 tb_28 tb_401) rfl rfl rfl (by decide +kernel) ⟨Nat.le_of_ble_eq_true rfl, Nat.le_of_ble_eq_true rfl⟩) (pre_V (ci := 3) (q0 := 8) hK hN hP hD [8, 10] rfl rfl rfl rfl) rfl rfl hl.1 rfl (lv_room (Nat.le_of_ble_eq_true rfl)) dqNe_gather_53 ⟨by first | omega | decide, by first | omega | decide⟩) hA hP hD hS [8, 10] [0, 1, 2, 3, 4, 5, 6, 7, 9, 11, 12] rfl rfl (by decide +kernel) (by decide +kernel) (fun z5 u6 H locs hw_z5 hP hD hS => ?_)
                  have hP : va_P D vwCl [(ne, .inr (4, [.ref na, .ref nb, .ref nc, .int (iI nk4)])), (na, .inl (cI, 112, .inl (ai nf4))), (nb, .inl (cI, 112, .inl (ai ng4))), (nc, .inl (cI, 112, .inl (ai nw4))), (it, .inr (2, [.ref ia, .ref ib, .ref ic])), (ia, .inl (cZ, 96, .inl (ai hf))), (ib, .inl (cI, 96, .inl (ai ef))), (ic, .inl (cI, 96, .inl (ai gf))), (ro, .inr (3, [.ref ra, .ref rb, .ref rc, .ref rd, .int (iI nu), .int (iI ct)])), (ra, .inl (cZ, 20, .inl (ai rt))), (rb, .inl (cI, 20, .inl (ai rff))), (rc, .inl (cI, 20, .inl (ai rg))), (rd, .inl (cI, 20, .inl (ai rh)))] H := hP.sub [0, 1, 2, 3, 4, 5, 6, 7, 11, 8, 12, 9, 10] rfl
                  have hD : va_D A [(ne, .inr (4, [.ref na, .ref nb, .ref nc, .int (iI nk4)])), (na, .inl (cI, 112, .inl (ai nf4))), (nb, .inl (cI, 112, .inl (ai ng4))), (nc, .inl (cI, 112, .inl (ai nw4))), (it, .inr (2, [.ref ia, .ref ib, .ref ic])), (ia, .inl (cZ, 96, .inl (ai hf))), (ib, .inl (cI, 96, .inl (ai ef))), (ic, .inl (cI, 96, .inl (ai gf))), (ro, .inr (3, [.ref ra, .ref rb, .ref rc, .ref rd, .int (iI nu), .int (iI ct)])), (ra, .inl (cZ, 20, .inl (ai rt))), (rb, .inl (cI, 20, .inl (ai rff))), (rc, .inl (cI, 20, .inl (ai rg))), (rd, .inl (cI, 20, .inl (ai rh)))] := hD.sub [0, 1, 2, 3, 4, 5, 6, 7, 11, 8, 12, 9, 10] (by decide +kernel) rfl
                  have hw_z5 : rff k = z5 := Eq.symm hw_z5
                  subst hw_z5
                  refine lv_aload_n hx hb dqNe_gather_56 rfl (lv_at hl 3 rfl) ?_
                  refine lv_iload hx hb dqNe_gather_57 (lv_at hl 0 rfl) ?_
                  refine af_i (wr := [(ne, .inr (4, [.ref na, .ref nb, .ref nc, .int (iI nk4)])), (na, .inl (cI, 112, .inl (ai nf4))), (nb, .inl (cI, 112, .inl (ai ng4))), (nc, .inl (cI, 112, .inl (ai nw4))), (it, .inr (2, [.ref ia, .ref ib, .ref ic])), (ia, .inl (cZ, 96, .inl (ai hf))), (ib, .inl (cI, 96, .inl (ai ef))), (ic, .inl (cI, 96, .inl (ai gf))), (ra, .inl (cZ, 20, .inl (ai rt))), (rb, .inl (cI, 20, .inl (ai rff))), (rd, .inl (cI, 20, .inl (ai rh)))]) (va_runV (As := [.int (iI k)]) (rest := [.int (iI (rff k)), .ref ne]) ⟨hx, hb, hml, hown, hts⟩ (c_Ro_toOf l D cI cJ cZ ro k ra rb rc rd nu ct rg (by omega) (by omega) H.size) (cwV 1 hts (gi_V tb_402 tb_403 tb_404 tb_28 tb_405) rfl rfl rfl (by decide +kernel) ⟨Nat.le_of_ble_eq_true rfl, Nat.le_of_ble_eq_true rfl⟩) (pre_V (ci := 3) (q0 := 8) hK hN hP hD [8, 11] rfl rfl rfl rfl) rfl rfl hl.1 rfl (lv_room (Nat.le_of_ble_eq_true rfl)) dqNe_gather_59 ⟨by first | omega | decide, by first | omega | decide⟩) hA hP hD hS [8, 11] [0, 1, 2, 3, 4, 5, 6, 7, 9, 10, 12] rfl rfl (by decide +kernel) (by decide +kernel) (fun z7 u8 H locs hw_z7 hP hD hS => ?_)
                  have hP : va_P D vwCl [(ne, .inr (4, [.ref na, .ref nb, .ref nc, .int (iI nk4)])), (na, .inl (cI, 112, .inl (ai nf4))), (nb, .inl (cI, 112, .inl (ai ng4))), (nc, .inl (cI, 112, .inl (ai nw4))), (it, .inr (2, [.ref ia, .ref ib, .ref ic])), (ia, .inl (cZ, 96, .inl (ai hf))), (ib, .inl (cI, 96, .inl (ai ef))), (ic, .inl (cI, 96, .inl (ai gf))), (ro, .inr (3, [.ref ra, .ref rb, .ref rc, .ref rd, .int (iI nu), .int (iI ct)])), (ra, .inl (cZ, 20, .inl (ai rt))), (rb, .inl (cI, 20, .inl (ai rff))), (rc, .inl (cI, 20, .inl (ai rg))), (rd, .inl (cI, 20, .inl (ai rh)))] H := hP.sub [0, 1, 2, 3, 4, 5, 6, 7, 11, 8, 9, 12, 10] rfl
                  have hD : va_D A [(ne, .inr (4, [.ref na, .ref nb, .ref nc, .int (iI nk4)])), (na, .inl (cI, 112, .inl (ai nf4))), (nb, .inl (cI, 112, .inl (ai ng4))), (nc, .inl (cI, 112, .inl (ai nw4))), (it, .inr (2, [.ref ia, .ref ib, .ref ic])), (ia, .inl (cZ, 96, .inl (ai hf))), (ib, .inl (cI, 96, .inl (ai ef))), (ic, .inl (cI, 96, .inl (ai gf))), (ro, .inr (3, [.ref ra, .ref rb, .ref rc, .ref rd, .int (iI nu), .int (iI ct)])), (ra, .inl (cZ, 20, .inl (ai rt))), (rb, .inl (cI, 20, .inl (ai rff))), (rc, .inl (cI, 20, .inl (ai rg))), (rd, .inl (cI, 20, .inl (ai rh)))] := hD.sub [0, 1, 2, 3, 4, 5, 6, 7, 11, 8, 9, 12, 10] (by decide +kernel) rfl
                  have hw_z7 : rg k = z7 := Eq.symm hw_z7
                  subst hw_z7
                  refine lv_aload_n hx hb dqNe_gather_62 rfl (lv_at hl 3 rfl) ?_
                  refine lv_iload hx hb dqNe_gather_63 (lv_at hl 0 rfl) ?_
                  refine af_i (wr := [(ne, .inr (4, [.ref na, .ref nb, .ref nc, .int (iI nk4)])), (na, .inl (cI, 112, .inl (ai nf4))), (nb, .inl (cI, 112, .inl (ai ng4))), (nc, .inl (cI, 112, .inl (ai nw4))), (it, .inr (2, [.ref ia, .ref ib, .ref ic])), (ia, .inl (cZ, 96, .inl (ai hf))), (ib, .inl (cI, 96, .inl (ai ef))), (ic, .inl (cI, 96, .inl (ai gf))), (ra, .inl (cZ, 20, .inl (ai rt))), (rb, .inl (cI, 20, .inl (ai rff))), (rc, .inl (cI, 20, .inl (ai rg)))]) (va_runV (As := [.int (iI k)]) (rest := [.int (iI (rg k)), .int (iI (rff k)), .ref ne]) ⟨hx, hb, hml, hown, hts⟩ (c_Ro_widthOf l D cI cJ cZ ro k ra rb rc rd nu ct rh (by omega) (by omega) H.size) (cwV 1 hts (gi_V tb_406 tb_407 tb_408 tb_28 tb_409) rfl rfl rfl (by decide +kernel) ⟨Nat.le_of_ble_eq_true rfl, Nat.le_of_ble_eq_true rfl⟩) (pre_V (ci := 3) (q0 := 8) hK hN hP hD [8, 12] rfl rfl rfl rfl) rfl rfl hl.1 rfl (lv_room (Nat.le_of_ble_eq_true rfl)) dqNe_gather_65 ⟨by first | omega | decide, by first | omega | decide⟩) hA hP hD hS [8, 12] [0, 1, 2, 3, 4, 5, 6, 7, 9, 10, 11] rfl rfl (by decide +kernel) (by decide +kernel) (fun z9 u10 H locs hw_z9 hP hD hS => ?_)
                  have hP : va_P D vwCl [(ne, .inr (4, [.ref na, .ref nb, .ref nc, .int (iI nk4)])), (na, .inl (cI, 112, .inl (ai nf4))), (nb, .inl (cI, 112, .inl (ai ng4))), (nc, .inl (cI, 112, .inl (ai nw4))), (it, .inr (2, [.ref ia, .ref ib, .ref ic])), (ia, .inl (cZ, 96, .inl (ai hf))), (ib, .inl (cI, 96, .inl (ai ef))), (ic, .inl (cI, 96, .inl (ai gf))), (ro, .inr (3, [.ref ra, .ref rb, .ref rc, .ref rd, .int (iI nu), .int (iI ct)])), (ra, .inl (cZ, 20, .inl (ai rt))), (rb, .inl (cI, 20, .inl (ai rff))), (rc, .inl (cI, 20, .inl (ai rg))), (rd, .inl (cI, 20, .inl (ai rh)))] H := hP.sub [0, 1, 2, 3, 4, 5, 6, 7, 11, 8, 9, 10, 12] rfl
                  have hD : va_D A [(ne, .inr (4, [.ref na, .ref nb, .ref nc, .int (iI nk4)])), (na, .inl (cI, 112, .inl (ai nf4))), (nb, .inl (cI, 112, .inl (ai ng4))), (nc, .inl (cI, 112, .inl (ai nw4))), (it, .inr (2, [.ref ia, .ref ib, .ref ic])), (ia, .inl (cZ, 96, .inl (ai hf))), (ib, .inl (cI, 96, .inl (ai ef))), (ic, .inl (cI, 96, .inl (ai gf))), (ro, .inr (3, [.ref ra, .ref rb, .ref rc, .ref rd, .int (iI nu), .int (iI ct)])), (ra, .inl (cZ, 20, .inl (ai rt))), (rb, .inl (cI, 20, .inl (ai rff))), (rc, .inl (cI, 20, .inl (ai rg))), (rd, .inl (cI, 20, .inl (ai rh)))] := hD.sub [0, 1, 2, 3, 4, 5, 6, 7, 11, 8, 9, 10, 12] (by decide +kernel) rfl
                  have hw_z9 : rh k = z9 := Eq.symm hw_z9
                  subst hw_z9
                  refine af_v (wr := [(it, .inr (2, [.ref ia, .ref ib, .ref ic])), (ia, .inl (cZ, 96, .inl (ai hf))), (ib, .inl (cI, 96, .inl (ai ef))), (ic, .inl (cI, 96, .inl (ai gf))), (ro, .inr (3, [.ref ra, .ref rb, .ref rc, .ref rd, .int (iI nu), .int (iI ct)])), (ra, .inl (cZ, 20, .inl (ai rt))), (rb, .inl (cI, 20, .inl (ai rff))), (rc, .inl (cI, 20, .inl (ai rg))), (rd, .inl (cI, 20, .inl (ai rh)))]) (va_runV (As := [.int (iI (rff k)), .int (iI (rg k)), .int (iI (rh k))]) (rest := []) ⟨hx, hb, hml, hown, hts⟩ (c_Ne_note l D cI cJ cZ ne (rff k) (rg k) (rh k) na nb nc nk4 nf4 ng4 nw4 (by omega) (by omega) q8 (by omega) (by omega) (by omega) H.size) (cwV 3 hts (gi_V tb_389 tb_391 tb_3 tb_29 tb_392) rfl rfl rfl (by decide +kernel) ⟨Nat.le_of_ble_eq_true rfl, Nat.le_of_ble_eq_true rfl⟩) (pre_V (ci := 4) (q0 := 0) hK hN hP hD [0, 1, 2, 3] rfl rfl rfl rfl) rfl rfl hl.1 rfl (lv_room (Nat.le_of_ble_eq_true rfl)) dqNe_gather_68 ⟨by first | omega | decide, by first | omega | decide⟩) hA hP hD hS [0, 1, 2, 3] [4, 5, 6, 7, 8, 9, 10, 11, 12] rfl rfl (by decide +kernel) (by decide +kernel) (fun u12 H locs hw_z11 hP hD hS => ?_)
                  obtain ⟨nk2_13, nf2_14, ng2_15, nw2_16⟩ := u12
                  have hP : va_P D vwCl [(ne, .inr (4, [.ref na, .ref nb, .ref nc, .int (iI nk2_13)])), (na, .inl (cI, 112, .inl (ai nf2_14))), (nb, .inl (cI, 112, .inl (ai ng2_15))), (nc, .inl (cI, 112, .inl (ai nw2_16))), (it, .inr (2, [.ref ia, .ref ib, .ref ic])), (ia, .inl (cZ, 96, .inl (ai hf))), (ib, .inl (cI, 96, .inl (ai ef))), (ic, .inl (cI, 96, .inl (ai gf))), (ro, .inr (3, [.ref ra, .ref rb, .ref rc, .ref rd, .int (iI nu), .int (iI ct)])), (ra, .inl (cZ, 20, .inl (ai rt))), (rb, .inl (cI, 20, .inl (ai rff))), (rc, .inl (cI, 20, .inl (ai rg))), (rd, .inl (cI, 20, .inl (ai rh)))] H := hP.sub [9, 10, 11, 12, 0, 1, 2, 3, 4, 5, 6, 7, 8] rfl
                  have hD : va_D A [(ne, .inr (4, [.ref na, .ref nb, .ref nc, .int (iI nk2_13)])), (na, .inl (cI, 112, .inl (ai nf2_14))), (nb, .inl (cI, 112, .inl (ai ng2_15))), (nc, .inl (cI, 112, .inl (ai nw2_16))), (it, .inr (2, [.ref ia, .ref ib, .ref ic])), (ia, .inl (cZ, 96, .inl (ai hf))), (ib, .inl (cI, 96, .inl (ai ef))), (ic, .inl (cI, 96, .inl (ai gf))), (ro, .inr (3, [.ref ra, .ref rb, .ref rc, .ref rd, .int (iI nu), .int (iI ct)])), (ra, .inl (cZ, 20, .inl (ai rt))), (rb, .inl (cI, 20, .inl (ai rff))), (rc, .inl (cI, 20, .inl (ai rg))), (rd, .inl (cI, 20, .inl (ai rh)))] := hD.sub [9, 10, 11, 12, 0, 1, 2, 3, 4, 5, 6, 7, 8] (by decide +kernel) rfl
                  have hw_z11 : 0 ≤ nk2_13 ∧ nk2_13 ≤ 112 ∧ ND nk2_13 nf2_14 ng2_15 := hw_z11
                  obtain ⟨o1, o2, o3⟩ := hw_z11
                  refine lv_iinc (v := iI (k + 1)) (lv' := [(4, .int (iI (k + 1))), (0, .ref ne), (1, .ref it), (2, .ref ro), (3, .int (iI cs))]) hx hb dqNe_gather_71 hl (k := 0) rfl (iI_add _ _) (by decide) rfl (fun ls hl => ?_)
                  refine lv_goto (tgt := 31) hx hb dqNe_gather_74 (by decide) ?_
                  exact ih_31 (k + 1) nk2_13 nf2_14 ng2_15 nw2_16 H locs ls (by omega) (by omega) (by omega) (by omega) (by first | assumption | exact q8) (by omega) hP hD hS (lv_sub hl [0, 1, 2, 3, 4] rfl)
          exact loop_31 (Int.toNat (20 - 0) + 1) 0 nk3 nf3 ng3 nw3 H locs ls (by omega) (by omega) (by omega) (by omega) q5 (by omega) hP hD hS (lv_sub hl [0, 1, 2, 3, 4] rfl)
        · refine lv_aload_n hx hb dqNe_gather_14 rfl (lv_at hl 1 rfl) ?_
          refine lv_aload_n hx hb dqNe_gather_15 rfl (lv_at hl 2 rfl) ?_
          refine lv_iload hx hb dqNe_gather_16 (lv_at hl 0 rfl) ?_
          refine lv_iload_n hx hb dqNe_gather_18 rfl (lv_at hl 4 rfl) ?_
          refine af_v (wr := [(ro, .inr (3, [.ref ra, .ref rb, .ref rc, .ref rd, .int (iI nu), .int (iI ct)])), (ra, .inl (cZ, 20, .inl (ai rt))), (rb, .inl (cI, 20, .inl (ai rff))), (rc, .inl (cI, 20, .inl (ai rg))), (rd, .inl (cI, 20, .inl (ai rh)))]) (va_runV (As := [.ref it, .int (iI k), .int (iI cs)]) (rest := []) ⟨hx, hb, hml, hown, hts⟩ (c_Ne_gatherStaff l D cI cJ cZ ne it k cs na nb nc nk3 nf3 ng3 nw3 ia ib ic hf ef gf (by omega) (by omega) q5 (by omega) (by omega) (by omega) (by omega) hB H.size) (cwV 3 hts (gi_V tb_376 tb_378 tb_2 tb_29 tb_379) rfl rfl rfl (by decide +kernel) ⟨Nat.le_of_ble_eq_true rfl, Nat.le_of_ble_eq_true rfl⟩) (pre_V (ci := 4) (q0 := 0) hK hN hP hD [0, 1, 2, 3, 4, 5, 6, 7] rfl rfl rfl rfl) rfl rfl hl.1 rfl (lv_room (Nat.le_of_ble_eq_true rfl)) dqNe_gather_19 ⟨by first | omega | decide, by first | omega | decide⟩) hA hP hD hS [0, 1, 2, 3, 4, 5, 6, 7] [8, 9, 10, 11, 12] rfl rfl (by decide +kernel) (by decide +kernel) (fun u18 H locs hw_z17 hP hD hS => ?_)
          obtain ⟨nk2_19, nf2_20, ng2_21, nw2_22⟩ := u18
          have hP : va_P D vwCl [(ne, .inr (4, [.ref na, .ref nb, .ref nc, .int (iI nk2_19)])), (na, .inl (cI, 112, .inl (ai nf2_20))), (nb, .inl (cI, 112, .inl (ai ng2_21))), (nc, .inl (cI, 112, .inl (ai nw2_22))), (it, .inr (2, [.ref ia, .ref ib, .ref ic])), (ia, .inl (cZ, 96, .inl (ai hf))), (ib, .inl (cI, 96, .inl (ai ef))), (ic, .inl (cI, 96, .inl (ai gf))), (ro, .inr (3, [.ref ra, .ref rb, .ref rc, .ref rd, .int (iI nu), .int (iI ct)])), (ra, .inl (cZ, 20, .inl (ai rt))), (rb, .inl (cI, 20, .inl (ai rff))), (rc, .inl (cI, 20, .inl (ai rg))), (rd, .inl (cI, 20, .inl (ai rh)))] H := hP.sub [5, 6, 7, 8, 9, 10, 11, 12, 0, 1, 2, 3, 4] rfl
          have hD : va_D A [(ne, .inr (4, [.ref na, .ref nb, .ref nc, .int (iI nk2_19)])), (na, .inl (cI, 112, .inl (ai nf2_20))), (nb, .inl (cI, 112, .inl (ai ng2_21))), (nc, .inl (cI, 112, .inl (ai nw2_22))), (it, .inr (2, [.ref ia, .ref ib, .ref ic])), (ia, .inl (cZ, 96, .inl (ai hf))), (ib, .inl (cI, 96, .inl (ai ef))), (ic, .inl (cI, 96, .inl (ai gf))), (ro, .inr (3, [.ref ra, .ref rb, .ref rc, .ref rd, .int (iI nu), .int (iI ct)])), (ra, .inl (cZ, 20, .inl (ai rt))), (rb, .inl (cI, 20, .inl (ai rff))), (rc, .inl (cI, 20, .inl (ai rg))), (rd, .inl (cI, 20, .inl (ai rh)))] := hD.sub [5, 6, 7, 8, 9, 10, 11, 12, 0, 1, 2, 3, 4] (by decide +kernel) rfl
          have hw_z17 : 0 ≤ nk2_19 ∧ nk2_19 ≤ 112 ∧ ND nk2_19 nf2_20 ng2_21 := hw_z17
          obtain ⟨o1, o2, o3⟩ := hw_z17
          refine lv_iinc (v := iI (k + 1)) (lv' := [(4, .int (iI (k + 1))), (0, .ref ne), (1, .ref it), (2, .ref ro), (3, .int (iI cs))]) hx hb dqNe_gather_22 hl (k := 0) rfl (iI_add _ _) (by decide) rfl (fun ls hl => ?_)
          refine lv_goto (tgt := 8) hx hb dqNe_gather_25 (by decide) ?_
          exact ih_8 (k + 1) nk2_19 nf2_20 ng2_21 nw2_22 H locs ls (by omega) (by omega) (by omega) (by omega) (by first | exact q5 | assumption) (by omega) hP hD hS (lv_sub hl [0, 1, 2, 3, 4] rfl)
    exact loop_8 (Int.toNat (4 - 0) + 1) 0 0 nf ng nw H locs ls (by omega) (by omega) (by omega) (by omega) ND.nil (by omega) hP hD hS (lv_sub hl [0, 1, 2, 3, 4] rfl)
  rw [hH0, hL0] at goal
  exact goal
def rm_Ne_size : Room := { frames := 0, cells := 0, slots := 0, locals := 0 }
set_option maxHeartbeats 4000000 in
set_option maxRecDepth 100000 in
theorem c_Ne_size (l : Launch) (D : va_G) (cI cJ cZ : ClassId) (ne : Nat) (na : Nat) (nb : Nat) (nc : Nat) (nk : Int)  : Mi l yqNe_size wsqNe_size rm_Ne_size D cI cJ cZ [.ref ne] [(ne, .inr (4, [.ref na, .ref nb, .ref nc, .int (iI nk)]))] (S := Unit) (fun z _ => z = nk) (fun _ => [(ne, .inr (4, [.ref na, .ref nb, .ref nc, .int (iI nk)]))]) 0 0 := by
  refine en_i (cc := cqNe_size) (maxL := 1) (ty := .int) (by decide +kernel) rfl (Nat.le_of_ble_eq_true rfl) ?_
  intro p e s m args below meth c A Q hx hb hml hin hts hown hA hP hK hD hN hS hret ls hl
  have hl : lv_has ls 1 [(0, .ref ne)] := hl
  obtain ⟨H, hH0⟩ : ∃ H, H = s.heap := ⟨_, rfl⟩
  obtain ⟨locs, hL0⟩ : ∃ locs : List Loc, locs = [] := ⟨_, rfl⟩
  rw [← hH0] at hP
  have hS : va_S A s.heap H locs := by rw [hH0, hL0]; exact hS
  have goal : W p l e rm_Ne_size s m args below meth c H locs 0 0 Q (F0 m 0 ls []) := by
    refine lv_aload_n hx hb dqNe_size_0 rfl (lv_at hl 0 rfl) ?_
    refine va_get (D := D) (ci := 4) (v := .int (iI nk)) (C := RqNe) (T := TqNe) (N := 4) hx hb hts (in_c inqNe) hown hK hP 0 rfl rfl 3 (by decide) (hts (.fieldLink RqNe 21 "SpringSpaces$Needs" "count" "I") (List.mem_cons_of_mem _ tb_120)) (fun _ h9 => h9) rfl dqNe_size_1 ?_
    exact hret H locs _ ls nk () rfl hS (by first | rfl | trivial | omega | exact bl_y (by omega) | exact bl_n (by omega) | (apply Or.inl; (and_intros <;> first | rfl | omega)) | (apply Or.inr; apply Or.inl; (and_intros <;> first | rfl | omega)) | (apply Or.inr; (and_intros <;> first | rfl | omega)) | (apply Or.inr; apply Or.inr; apply Or.inl; (and_intros <;> first | rfl | omega)) | (apply Or.inr; apply Or.inr; (and_intros <;> first | rfl | omega)) | (apply Or.inr; apply Or.inr; apply Or.inr; apply Or.inl; (and_intros <;> first | rfl | omega)) | (apply Or.inr; apply Or.inr; apply Or.inr; (and_intros <;> first | rfl | omega)) | (apply Or.inr; apply Or.inr; apply Or.inr; apply Or.inr; apply Or.inl; (and_intros <;> first | rfl | omega)) | (apply Or.inr; apply Or.inr; apply Or.inr; apply Or.inr; (and_intros <;> first | rfl | omega))) hP hD dqNe_size_4
  rw [hH0, hL0] at goal
  exact goal
def rm_Ne_fromOf : Room := { frames := 0, cells := 0, slots := 0, locals := 0 }
set_option maxHeartbeats 4000000 in
set_option maxRecDepth 100000 in
theorem c_Ne_fromOf (l : Launch) (D : va_G) (cI cJ cZ : ClassId) (ne : Nat) (x : Int) (na : Nat) (nb : Nat) (nc : Nat) (nk : Int) (nf : Int → Int) (h1 : 0 ≤ x) (h2 : x < 112) : Mi l yqNe_fromOf wsqNe_fromOf rm_Ne_fromOf D cI cJ cZ [.ref ne, .int (iI x)] [(ne, .inr (4, [.ref na, .ref nb, .ref nc, .int (iI nk)])), (na, .inl (cI, 112, .inl (ai nf)))] (S := Unit) (fun z _ => z = nf x) (fun _ => [(ne, .inr (4, [.ref na, .ref nb, .ref nc, .int (iI nk)])), (na, .inl (cI, 112, .inl (ai nf)))]) 0 0 := by
  refine en_i (cc := cqNe_fromOf) (maxL := 2) (ty := .int) (by decide +kernel) rfl (Nat.le_of_ble_eq_true rfl) ?_
  intro p e s m args below meth c A Q hx hb hml hin hts hown hA hP hK hD hN hS hret ls hl
  have hl : lv_has ls 2 [(0, .ref ne), (1, .int (iI x))] := hl
  obtain ⟨H, hH0⟩ : ∃ H, H = s.heap := ⟨_, rfl⟩
  obtain ⟨locs, hL0⟩ : ∃ locs : List Loc, locs = [] := ⟨_, rfl⟩
  rw [← hH0] at hP
  have hS : va_S A s.heap H locs := by rw [hH0, hL0]; exact hS
  have goal : W p l e rm_Ne_fromOf s m args below meth c H locs 0 0 Q (F0 m 0 ls []) := by
    refine lv_aload_n hx hb dqNe_fromOf_0 rfl (lv_at hl 0 rfl) ?_
    refine va_get (D := D) (ci := 4) (v := .ref na) (C := RqNe) (T := TqNe) (N := 4) hx hb hts (in_c inqNe) hown hK hP 0 rfl rfl 0 (by decide) (hts (.fieldLink RqNe 9 "SpringSpaces$Needs" "froms" "[I") (List.mem_cons_of_mem _ tb_117)) (fun _ h9 => h9) rfl dqNe_fromOf_1 ?_
    refine lv_iload_n hx hb dqNe_fromOf_4 rfl (lv_at hl 1 rfl) ?_
    refine q_iald (i := x) hx hb hK hP 1 0 rfl rfl (by omega) (by omega) (by omega) dqNe_fromOf_5 ?_
    exact hret H locs _ ls (nf x) () rfl hS (by first | rfl | trivial | omega | exact bl_y (by omega) | exact bl_n (by omega) | (apply Or.inl; (and_intros <;> first | rfl | omega)) | (apply Or.inr; apply Or.inl; (and_intros <;> first | rfl | omega)) | (apply Or.inr; (and_intros <;> first | rfl | omega)) | (apply Or.inr; apply Or.inr; apply Or.inl; (and_intros <;> first | rfl | omega)) | (apply Or.inr; apply Or.inr; (and_intros <;> first | rfl | omega)) | (apply Or.inr; apply Or.inr; apply Or.inr; apply Or.inl; (and_intros <;> first | rfl | omega)) | (apply Or.inr; apply Or.inr; apply Or.inr; (and_intros <;> first | rfl | omega)) | (apply Or.inr; apply Or.inr; apply Or.inr; apply Or.inr; apply Or.inl; (and_intros <;> first | rfl | omega)) | (apply Or.inr; apply Or.inr; apply Or.inr; apply Or.inr; (and_intros <;> first | rfl | omega))) hP hD dqNe_fromOf_6
  rw [hH0, hL0] at goal
  exact goal
def rm_Ne_toOf : Room := { frames := 0, cells := 0, slots := 0, locals := 0 }
set_option maxHeartbeats 4000000 in
set_option maxRecDepth 100000 in
theorem c_Ne_toOf (l : Launch) (D : va_G) (cI cJ cZ : ClassId) (ne : Nat) (x : Int) (na : Nat) (nb : Nat) (nc : Nat) (nk : Int) (ng : Int → Int) (h1 : 0 ≤ x) (h2 : x < 112) : Mi l yqNe_toOf wsqNe_toOf rm_Ne_toOf D cI cJ cZ [.ref ne, .int (iI x)] [(ne, .inr (4, [.ref na, .ref nb, .ref nc, .int (iI nk)])), (nb, .inl (cI, 112, .inl (ai ng)))] (S := Unit) (fun z _ => z = ng x) (fun _ => [(ne, .inr (4, [.ref na, .ref nb, .ref nc, .int (iI nk)])), (nb, .inl (cI, 112, .inl (ai ng)))]) 0 0 := by
  refine en_i (cc := cqNe_toOf) (maxL := 2) (ty := .int) (by decide +kernel) rfl (Nat.le_of_ble_eq_true rfl) ?_
  intro p e s m args below meth c A Q hx hb hml hin hts hown hA hP hK hD hN hS hret ls hl
  have hl : lv_has ls 2 [(0, .ref ne), (1, .int (iI x))] := hl
  obtain ⟨H, hH0⟩ : ∃ H, H = s.heap := ⟨_, rfl⟩
  obtain ⟨locs, hL0⟩ : ∃ locs : List Loc, locs = [] := ⟨_, rfl⟩
  rw [← hH0] at hP
  have hS : va_S A s.heap H locs := by rw [hH0, hL0]; exact hS
  have goal : W p l e rm_Ne_toOf s m args below meth c H locs 0 0 Q (F0 m 0 ls []) := by
    refine lv_aload_n hx hb dqNe_toOf_0 rfl (lv_at hl 0 rfl) ?_
    refine va_get (D := D) (ci := 4) (v := .ref nb) (C := RqNe) (T := TqNe) (N := 4) hx hb hts (in_c inqNe) hown hK hP 0 rfl rfl 1 (by decide) (hts (.fieldLink RqNe 15 "SpringSpaces$Needs" "tos" "[I") (List.mem_cons_of_mem _ tb_118)) (fun _ h9 => h9) rfl dqNe_toOf_1 ?_
    refine lv_iload_n hx hb dqNe_toOf_4 rfl (lv_at hl 1 rfl) ?_
    refine q_iald (i := x) hx hb hK hP 1 0 rfl rfl (by omega) (by omega) (by omega) dqNe_toOf_5 ?_
    exact hret H locs _ ls (ng x) () rfl hS (by first | rfl | trivial | omega | exact bl_y (by omega) | exact bl_n (by omega) | (apply Or.inl; (and_intros <;> first | rfl | omega)) | (apply Or.inr; apply Or.inl; (and_intros <;> first | rfl | omega)) | (apply Or.inr; (and_intros <;> first | rfl | omega)) | (apply Or.inr; apply Or.inr; apply Or.inl; (and_intros <;> first | rfl | omega)) | (apply Or.inr; apply Or.inr; (and_intros <;> first | rfl | omega)) | (apply Or.inr; apply Or.inr; apply Or.inr; apply Or.inl; (and_intros <;> first | rfl | omega)) | (apply Or.inr; apply Or.inr; apply Or.inr; (and_intros <;> first | rfl | omega)) | (apply Or.inr; apply Or.inr; apply Or.inr; apply Or.inr; apply Or.inl; (and_intros <;> first | rfl | omega)) | (apply Or.inr; apply Or.inr; apply Or.inr; apply Or.inr; (and_intros <;> first | rfl | omega))) hP hD dqNe_toOf_6
  rw [hH0, hL0] at goal
  exact goal
def rm_Ne_widthOf : Room := { frames := 0, cells := 0, slots := 0, locals := 0 }
set_option maxHeartbeats 4000000 in
set_option maxRecDepth 100000 in
theorem c_Ne_widthOf (l : Launch) (D : va_G) (cI cJ cZ : ClassId) (ne : Nat) (x : Int) (na : Nat) (nb : Nat) (nc : Nat) (nk : Int) (nw : Int → Int) (h1 : 0 ≤ x) (h2 : x < 112) : Mi l yqNe_widthOf wsqNe_widthOf rm_Ne_widthOf D cI cJ cZ [.ref ne, .int (iI x)] [(ne, .inr (4, [.ref na, .ref nb, .ref nc, .int (iI nk)])), (nc, .inl (cI, 112, .inl (ai nw)))] (S := Unit) (fun z _ => z = nw x) (fun _ => [(ne, .inr (4, [.ref na, .ref nb, .ref nc, .int (iI nk)])), (nc, .inl (cI, 112, .inl (ai nw)))]) 0 0 := by
  refine en_i (cc := cqNe_widthOf) (maxL := 2) (ty := .int) (by decide +kernel) rfl (Nat.le_of_ble_eq_true rfl) ?_
  intro p e s m args below meth c A Q hx hb hml hin hts hown hA hP hK hD hN hS hret ls hl
  have hl : lv_has ls 2 [(0, .ref ne), (1, .int (iI x))] := hl
  obtain ⟨H, hH0⟩ : ∃ H, H = s.heap := ⟨_, rfl⟩
  obtain ⟨locs, hL0⟩ : ∃ locs : List Loc, locs = [] := ⟨_, rfl⟩
  rw [← hH0] at hP
  have hS : va_S A s.heap H locs := by rw [hH0, hL0]; exact hS
  have goal : W p l e rm_Ne_widthOf s m args below meth c H locs 0 0 Q (F0 m 0 ls []) := by
    refine lv_aload_n hx hb dqNe_widthOf_0 rfl (lv_at hl 0 rfl) ?_
    refine va_get (D := D) (ci := 4) (v := .ref nc) (C := RqNe) (T := TqNe) (N := 4) hx hb hts (in_c inqNe) hown hK hP 0 rfl rfl 2 (by decide) (hts (.fieldLink RqNe 18 "SpringSpaces$Needs" "widths" "[I") (List.mem_cons_of_mem _ tb_119)) (fun _ h9 => h9) rfl dqNe_widthOf_1 ?_
    refine lv_iload_n hx hb dqNe_widthOf_4 rfl (lv_at hl 1 rfl) ?_
    refine q_iald (i := x) hx hb hK hP 1 0 rfl rfl (by omega) (by omega) (by omega) dqNe_widthOf_5 ?_
    exact hret H locs _ ls (nw x) () rfl hS (by first | rfl | trivial | omega | exact bl_y (by omega) | exact bl_n (by omega) | (apply Or.inl; (and_intros <;> first | rfl | omega)) | (apply Or.inr; apply Or.inl; (and_intros <;> first | rfl | omega)) | (apply Or.inr; (and_intros <;> first | rfl | omega)) | (apply Or.inr; apply Or.inr; apply Or.inl; (and_intros <;> first | rfl | omega)) | (apply Or.inr; apply Or.inr; (and_intros <;> first | rfl | omega)) | (apply Or.inr; apply Or.inr; apply Or.inr; apply Or.inl; (and_intros <;> first | rfl | omega)) | (apply Or.inr; apply Or.inr; apply Or.inr; (and_intros <;> first | rfl | omega)) | (apply Or.inr; apply Or.inr; apply Or.inr; apply Or.inr; apply Or.inl; (and_intros <;> first | rfl | omega)) | (apply Or.inr; apply Or.inr; apply Or.inr; apply Or.inr; (and_intros <;> first | rfl | omega))) hP hD dqNe_widthOf_6
  rw [hH0, hL0] at goal
  exact goal
def rm_Fo_above : Room := { frames := 0, cells := 0, slots := 0, locals := 0 }
set_option maxHeartbeats 4000000 in
set_option maxRecDepth 100000 in
theorem c_Fo_above (l : Launch) (D : va_G) (cI cJ cZ : ClassId) (fo : Nat) (fa : Int) (fb : Int)  : Ml l yqFo_above wsqFo_above rm_Fo_above D cI cJ cZ [.ref fo] [(fo, .inr (5, [.long (lI fa), .long (lI fb)]))] (S := Unit) (fun z _ => z = fa) (fun _ => [(fo, .inr (5, [.long (lI fa), .long (lI fb)]))]) 0 0 := by
  refine en_l (cc := cqFo_above) (maxL := 1) (by decide +kernel) rfl (Nat.le_of_ble_eq_true rfl) ?_
  intro p e s m args below meth c A Q hx hb hml hin hts hown hA hP hK hD hN hS hret ls hl
  have hl : lv_has ls 1 [(0, .ref fo)] := hl
  obtain ⟨H, hH0⟩ : ∃ H, H = s.heap := ⟨_, rfl⟩
  obtain ⟨locs, hL0⟩ : ∃ locs : List Loc, locs = [] := ⟨_, rfl⟩
  rw [← hH0] at hP
  have hS : va_S A s.heap H locs := by rw [hH0, hL0]; exact hS
  have goal : W p l e rm_Fo_above s m args below meth c H locs 0 0 Q (F0 m 0 ls []) := by
    refine lv_aload_n hx hb dqFo_above_0 rfl (lv_at hl 0 rfl) ?_
    refine va_get (D := D) (ci := 5) (v := .long (lI fa)) (C := RqFo) (T := TqFo) (N := 2) hx hb hts (in_c inqFo) hown hK hP 0 rfl rfl 0 (by decide) (hts (.fieldLink RqFo 7 "SpringSpaces$Force" "above" "J") (List.mem_cons_of_mem _ tb_142)) (fun _ h9 => h9) rfl dqFo_above_1 ?_
    exact hret H locs _ ls fa () hS (by first | rfl | trivial | omega | exact bl_y (by omega) | exact bl_n (by omega) | (apply Or.inl; (and_intros <;> first | rfl | omega)) | (apply Or.inr; apply Or.inl; (and_intros <;> first | rfl | omega)) | (apply Or.inr; (and_intros <;> first | rfl | omega)) | (apply Or.inr; apply Or.inr; apply Or.inl; (and_intros <;> first | rfl | omega)) | (apply Or.inr; apply Or.inr; (and_intros <;> first | rfl | omega)) | (apply Or.inr; apply Or.inr; apply Or.inr; apply Or.inl; (and_intros <;> first | rfl | omega)) | (apply Or.inr; apply Or.inr; apply Or.inr; (and_intros <;> first | rfl | omega)) | (apply Or.inr; apply Or.inr; apply Or.inr; apply Or.inr; apply Or.inl; (and_intros <;> first | rfl | omega)) | (apply Or.inr; apply Or.inr; apply Or.inr; apply Or.inr; (and_intros <;> first | rfl | omega))) hP hD dqFo_above_4
  rw [hH0, hL0] at goal
  exact goal
def rm_Fo_below : Room := { frames := 0, cells := 0, slots := 0, locals := 0 }
set_option maxHeartbeats 4000000 in
set_option maxRecDepth 100000 in
theorem c_Fo_below (l : Launch) (D : va_G) (cI cJ cZ : ClassId) (fo : Nat) (fa : Int) (fb : Int)  : Ml l yqFo_below wsqFo_below rm_Fo_below D cI cJ cZ [.ref fo] [(fo, .inr (5, [.long (lI fa), .long (lI fb)]))] (S := Unit) (fun z _ => z = fb) (fun _ => [(fo, .inr (5, [.long (lI fa), .long (lI fb)]))]) 0 0 := by
  refine en_l (cc := cqFo_below) (maxL := 1) (by decide +kernel) rfl (Nat.le_of_ble_eq_true rfl) ?_
  intro p e s m args below meth c A Q hx hb hml hin hts hown hA hP hK hD hN hS hret ls hl
  have hl : lv_has ls 1 [(0, .ref fo)] := hl
  obtain ⟨H, hH0⟩ : ∃ H, H = s.heap := ⟨_, rfl⟩
  obtain ⟨locs, hL0⟩ : ∃ locs : List Loc, locs = [] := ⟨_, rfl⟩
  rw [← hH0] at hP
  have hS : va_S A s.heap H locs := by rw [hH0, hL0]; exact hS
  have goal : W p l e rm_Fo_below s m args below meth c H locs 0 0 Q (F0 m 0 ls []) := by
    refine lv_aload_n hx hb dqFo_below_0 rfl (lv_at hl 0 rfl) ?_
    refine va_get (D := D) (ci := 5) (v := .long (lI fb)) (C := RqFo) (T := TqFo) (N := 2) hx hb hts (in_c inqFo) hown hK hP 0 rfl rfl 1 (by decide) (hts (.fieldLink RqFo 13 "SpringSpaces$Force" "below" "J") (List.mem_cons_of_mem _ tb_143)) (fun _ h9 => h9) rfl dqFo_below_1 ?_
    exact hret H locs _ ls fb () hS (by first | rfl | trivial | omega | exact bl_y (by omega) | exact bl_n (by omega) | (apply Or.inl; (and_intros <;> first | rfl | omega)) | (apply Or.inr; apply Or.inl; (and_intros <;> first | rfl | omega)) | (apply Or.inr; (and_intros <;> first | rfl | omega)) | (apply Or.inr; apply Or.inr; apply Or.inl; (and_intros <;> first | rfl | omega)) | (apply Or.inr; apply Or.inr; (and_intros <;> first | rfl | omega)) | (apply Or.inr; apply Or.inr; apply Or.inr; apply Or.inl; (and_intros <;> first | rfl | omega)) | (apply Or.inr; apply Or.inr; apply Or.inr; (and_intros <;> first | rfl | omega)) | (apply Or.inr; apply Or.inr; apply Or.inr; apply Or.inr; apply Or.inl; (and_intros <;> first | rfl | omega)) | (apply Or.inr; apply Or.inr; apply Or.inr; apply Or.inr; (and_intros <;> first | rfl | omega))) hP hD dqFo_below_4
  rw [hH0, hL0] at goal
  exact goal
def rm_Fo_fit : Room := { frames := 0, cells := 0, slots := 0, locals := 0 }
set_option maxHeartbeats 4000000 in
set_option maxRecDepth 100000 in
theorem c_Fo_fit (l : Launch) (D : va_G) (cI cJ cZ : ClassId) (fo : Nat) (sa : Nat) (sb : Nat) (f : Int) (g : Int) (wi : Int) (fa : Int) (fb : Int) (sf : Int → Int) (pf : Int → Int) (h1 : 0 ≤ f) (h2 : f ≤ 24) (h3 : -2147483648 ≤ g) (h4 : g ≤ 24) : Mv l yqFo_fit wsqFo_fit rm_Fo_fit D cI cJ cZ [.ref fo, .ref sa, .ref sb, .int (iI f), .int (iI g), .long (lI wi)] [(fo, .inr (5, [.long (lI fa), .long (lI fb)])), (sa, .inl (cJ, 24, .inr (.inl (al sf)))), (sb, .inl (cJ, 24, .inr (.inl (al pf))))] (S := Int × Int) (fun u => True) (fun u => [(fo, .inr (5, [.long (lI u.1), .long (lI u.2)])), (sa, .inl (cJ, 24, .inr (.inl (al sf)))), (sb, .inl (cJ, 24, .inr (.inl (al pf))))]) 0 0 := by
  refine en_v (cc := cqFo_fit) (maxL := 12) (by decide +kernel) rfl (Nat.le_of_ble_eq_true rfl) ?_
  intro p e s m args below meth c A Q hx hb hml hin hts hown hA hP hK hD hN hS hret ls hl
  have hl : lv_has ls 12 [(0, .ref fo), (1, .ref sa), (2, .ref sb), (3, .int (iI f)), (4, .int (iI g)), (5, .long (lI wi))] := hl
  obtain ⟨H, hH0⟩ : ∃ H, H = s.heap := ⟨_, rfl⟩
  obtain ⟨locs, hL0⟩ : ∃ locs : List Loc, locs = [] := ⟨_, rfl⟩
  rw [← hH0] at hP
  have hS : va_S A s.heap H locs := by rw [hH0, hL0]; exact hS
  have goal : W p l e rm_Fo_fit s m args below meth c H locs 0 0 Q (F0 m 0 ls []) := by
    refine lv_lload hx hb dqFo_fit_0 (lv_at hl 5 rfl) ?_
    refine lv_lstore (lv' := [(7, .long (lI wi)), (0, .ref fo), (1, .ref sa), (2, .ref sb), (3, .int (iI f)), (4, .int (iI g)), (5, .long (lI wi))]) hx hb dqFo_fit_2 hl (by decide) rfl (fun ls hl => ?_)
    refine lv_lconst (v := lI 0) hx hb dqFo_fit_4 (by decide +kernel) ?_
    refine lv_lstore (lv' := [(9, .long (lI 0)), (7, .long (lI wi)), (0, .ref fo), (1, .ref sa), (2, .ref sb), (3, .int (iI f)), (4, .int (iI g)), (5, .long (lI wi))]) hx hb dqFo_fit_5 hl (by decide) rfl (fun ls hl => ?_)
    refine lv_iload_n hx hb dqFo_fit_7 rfl (lv_at hl 5 rfl) ?_
    refine lv_istore (lv' := [(11, .int (iI f)), (9, .long (lI 0)), (7, .long (lI wi)), (0, .ref fo), (1, .ref sa), (2, .ref sb), (3, .int (iI f)), (4, .int (iI g)), (5, .long (lI wi))]) hx hb dqFo_fit_8 hl (by decide) rfl (fun ls hl => ?_)
    have loop_10 : ∀ (n9 : Nat), ∀ (re : Int) (pu : Int) (k : Int) (H : Heap) (locs : List Loc) (ls : Array Slot), (0 ≤ k) → (k ≤ 24) → ((g - k).toNat < n9) → va_P D vwCl [(fo, .inr (5, [.long (lI fa), .long (lI fb)])), (sa, .inl (cJ, 24, .inr (.inl (al sf)))), (sb, .inl (cJ, 24, .inr (.inl (al pf))))] H → va_D A [(fo, .inr (5, [.long (lI fa), .long (lI fb)])), (sa, .inl (cJ, 24, .inr (.inl (al sf)))), (sb, .inl (cJ, 24, .inr (.inl (al pf))))] → va_S A s.heap H locs → lv_has ls 12 [(11, .int (iI k)), (9, .long (lI pu)), (7, .long (lI re)), (0, .ref fo), (1, .ref sa), (2, .ref sb), (3, .int (iI f)), (4, .int (iI g)), (5, .long (lI wi))] → W p l e rm_Fo_fit s m args below meth c H locs 0 0 Q (F0 m 10 ls []) := by
      intro n9
      induction n9 with
      | zero =>
        intro re pu k H locs ls k1 k2 hm9
        exact absurd hm9 (by omega)
      | succ n9 ih_10 =>
        intro re pu k H locs ls k1 k2 hm9 hP hD hS hl
        refine lv_iload hx hb dqFo_fit_10 (lv_at hl 0 rfl) ?_
        refine lv_iload hx hb dqFo_fit_12 (lv_at hl 7 rfl) ?_
        refine q_icmp_ge (tgt := 75) hx hb dqFo_fit_14 (by decide) (by omega) (by omega) (by omega) (by omega) (fun c_14 => ?_) (fun c_14 => ?_)
        · refine lv_aload_n hx hb dqFo_fit_75 rfl (lv_at hl 3 rfl) ?_
          refine lv_lload hx hb dqFo_fit_76 (lv_at hl 2 rfl) ?_
          refine va_put (D := D) (ci := 5) (v := .long (lI re)) (ty := .long) (C := RqFo) (T := TqFo) (N := 2) hx hb hts (in_c inqFo) tyqFo tyqFo_ok nmqFo hown hK hP hD hS 0 rfl rfl 0 (by decide) (hts (.fieldLink RqFo 7 "SpringSpaces$Force" "above" "J") (List.mem_cons_of_mem _ tb_142)) (fun _ h9 => h9) rfl (by decide +kernel) rfl rfl (Nat.le_of_ble_eq_true rfl) dqFo_fit_78 (fun H locs hP hD hS => ?_)
          have hP : va_P D vwCl [(fo, .inr (5, [.long (lI re), .long (lI fb)])), (sa, .inl (cJ, 24, .inr (.inl (al sf)))), (sb, .inl (cJ, 24, .inr (.inl (al pf))))] H := hP
          have hD : va_D A [(fo, .inr (5, [.long (lI re), .long (lI fb)])), (sa, .inl (cJ, 24, .inr (.inl (al sf)))), (sb, .inl (cJ, 24, .inr (.inl (al pf))))] := hD
          refine lv_aload_n hx hb dqFo_fit_81 rfl (lv_at hl 3 rfl) ?_
          refine lv_lload hx hb dqFo_fit_82 (lv_at hl 1 rfl) ?_
          refine va_put (D := D) (ci := 5) (v := .long (lI pu)) (ty := .long) (C := RqFo) (T := TqFo) (N := 2) hx hb hts (in_c inqFo) tyqFo tyqFo_ok nmqFo hown hK hP hD hS 0 rfl rfl 1 (by decide) (hts (.fieldLink RqFo 13 "SpringSpaces$Force" "below" "J") (List.mem_cons_of_mem _ tb_143)) (fun _ h9 => h9) rfl (by decide +kernel) rfl rfl (Nat.le_of_ble_eq_true rfl) dqFo_fit_84 (fun H locs hP hD hS => ?_)
          have hP : va_P D vwCl [(fo, .inr (5, [.long (lI re), .long (lI pu)])), (sa, .inl (cJ, 24, .inr (.inl (al sf)))), (sb, .inl (cJ, 24, .inr (.inl (al pf))))] H := hP
          have hD : va_D A [(fo, .inr (5, [.long (lI re), .long (lI pu)])), (sa, .inl (cJ, 24, .inr (.inl (al sf)))), (sb, .inl (cJ, 24, .inr (.inl (al pf))))] := hD
          exact hret H locs _ ls (re, pu) hS (by first | rfl | trivial | omega | exact bl_y (by (try dsimp only); omega) | exact bl_n (by (try dsimp only); omega) | (apply Or.inl; (and_intros <;> first | rfl | omega)) | (apply Or.inr; apply Or.inl; (and_intros <;> first | rfl | omega)) | (apply Or.inr; (and_intros <;> first | rfl | omega)) | (apply Or.inr; apply Or.inr; apply Or.inl; (and_intros <;> first | rfl | omega)) | (apply Or.inr; apply Or.inr; (and_intros <;> first | rfl | omega)) | (apply Or.inr; apply Or.inr; apply Or.inr; apply Or.inl; (and_intros <;> first | rfl | omega)) | (apply Or.inr; apply Or.inr; apply Or.inr; (and_intros <;> first | rfl | omega)) | (apply Or.inr; apply Or.inr; apply Or.inr; apply Or.inr; apply Or.inl; (and_intros <;> first | rfl | omega)) | (apply Or.inr; apply Or.inr; apply Or.inr; apply Or.inr; (and_intros <;> first | rfl | omega))) hP hD dqFo_fit_87
        · refine lv_aload_n hx hb dqFo_fit_17 rfl (lv_at hl 5 rfl) ?_
          refine lv_iload hx hb dqFo_fit_18 (lv_at hl 0 rfl) ?_
          refine q_lald (i := k) hx hb hK hP 2 1 rfl rfl (by omega) (by omega) (by omega) dqFo_fit_20 ?_
          refine hv_l (fun v1 v1a v1b => ?_)
          refine lv_lconst (v := lI 0) hx hb dqFo_fit_21 (by decide +kernel) ?_
          refine q_lw_le (tgt := 60) hx hb dqFo_fit_22 dqFo_fit_23 (by decide) ?_ ?_
          · refine lv_lload hx hb dqFo_fit_60 (lv_at hl 2 rfl) ?_
            refine lv_aload_n hx hb dqFo_fit_62 rfl (lv_at hl 4 rfl) ?_
            refine lv_iload hx hb dqFo_fit_63 (lv_at hl 0 rfl) ?_
            refine q_lald (i := k) hx hb hK hP 1 1 rfl rfl (by omega) (by omega) (by omega) dqFo_fit_65 ?_
            refine hv_l (fun v2 v2a v2b => ?_)
            refine q_lsub hx hb dqFo_fit_66 ?_
            refine hv_l (fun v3 v3a v3b => ?_)
            refine lv_lstore (lv' := [(7, .long (lI v3)), (11, .int (iI k)), (9, .long (lI pu)), (0, .ref fo), (1, .ref sa), (2, .ref sb), (3, .int (iI f)), (4, .int (iI g)), (5, .long (lI wi))]) hx hb dqFo_fit_67 hl (by decide) rfl (fun ls hl => ?_)
            refine lv_iinc (v := iI (k + 1)) (lv' := [(11, .int (iI (k + 1))), (7, .long (lI v3)), (9, .long (lI pu)), (0, .ref fo), (1, .ref sa), (2, .ref sb), (3, .int (iI f)), (4, .int (iI g)), (5, .long (lI wi))]) hx hb dqFo_fit_69 hl (k := 1) rfl (iI_add _ _) (by decide) rfl (fun ls hl => ?_)
            refine lv_goto (tgt := 10) hx hb dqFo_fit_72 (by decide) ?_
            exact ih_10 v3 pu (k + 1) H locs ls (by omega) (by omega) (by omega) hP hD hS (lv_sub hl [0, 2, 1, 3, 4, 5, 6, 7, 8] rfl)
          · refine lv_aload_n hx hb dqFo_fit_26 rfl (lv_at hl 4 rfl) ?_
            refine lv_iload hx hb dqFo_fit_27 (lv_at hl 0 rfl) ?_
            refine q_lald (i := k) hx hb hK hP 1 1 rfl rfl (by omega) (by omega) (by omega) dqFo_fit_29 ?_
            refine hv_l (fun v4 v4a v4b => ?_)
            refine lv_aload_n hx hb dqFo_fit_30 rfl (lv_at hl 3 rfl) ?_
            refine va_get (D := D) (ci := 5) (v := .long (lI fb)) (C := RqFo) (T := TqFo) (N := 2) hx hb hts (in_c inqFo) hown hK hP 0 rfl rfl 1 (by decide) (hts (.fieldLink RqFo 13 "SpringSpaces$Force" "below" "J") (List.mem_cons_of_mem _ tb_143)) (fun _ h9 => h9) rfl dqFo_fit_31 ?_
            refine q_lmul hx hb dqFo_fit_34 ?_
            refine hv_l (fun v5 v5a v5b => ?_)
            refine lv_aload_n hx hb dqFo_fit_35 rfl (lv_at hl 3 rfl) ?_
            refine va_get (D := D) (ci := 5) (v := .long (lI fa)) (C := RqFo) (T := TqFo) (N := 2) hx hb hts (in_c inqFo) hown hK hP 0 rfl rfl 0 (by decide) (hts (.fieldLink RqFo 7 "SpringSpaces$Force" "above" "J") (List.mem_cons_of_mem _ tb_142)) (fun _ h9 => h9) rfl dqFo_fit_36 ?_
            refine lv_aload_n hx hb dqFo_fit_39 rfl (lv_at hl 5 rfl) ?_
            refine lv_iload hx hb dqFo_fit_40 (lv_at hl 0 rfl) ?_
            refine q_lald (i := k) hx hb hK hP 2 1 rfl rfl (by omega) (by omega) (by omega) dqFo_fit_42 ?_
            refine hv_l (fun v6 v6a v6b => ?_)
            refine q_lmul hx hb dqFo_fit_43 ?_
            refine hv_l (fun v7 v7a v7b => ?_)
            refine q_lw_gt (tgt := 60) hx hb dqFo_fit_44 dqFo_fit_45 (by decide) ?_ ?_
            · refine lv_lload hx hb dqFo_fit_60 (lv_at hl 2 rfl) ?_
              refine lv_aload_n hx hb dqFo_fit_62 rfl (lv_at hl 4 rfl) ?_
              refine lv_iload hx hb dqFo_fit_63 (lv_at hl 0 rfl) ?_
              refine q_lald (i := k) hx hb hK hP 1 1 rfl rfl (by omega) (by omega) (by omega) dqFo_fit_65 ?_
              refine hv_l (fun v8 v8a v8b => ?_)
              refine q_lsub hx hb dqFo_fit_66 ?_
              refine hv_l (fun v9 v9a v9b => ?_)
              refine lv_lstore (lv' := [(7, .long (lI v9)), (11, .int (iI k)), (9, .long (lI pu)), (0, .ref fo), (1, .ref sa), (2, .ref sb), (3, .int (iI f)), (4, .int (iI g)), (5, .long (lI wi))]) hx hb dqFo_fit_67 hl (by decide) rfl (fun ls hl => ?_)
              refine lv_iinc (v := iI (k + 1)) (lv' := [(11, .int (iI (k + 1))), (7, .long (lI v9)), (9, .long (lI pu)), (0, .ref fo), (1, .ref sa), (2, .ref sb), (3, .int (iI f)), (4, .int (iI g)), (5, .long (lI wi))]) hx hb dqFo_fit_69 hl (k := 1) rfl (iI_add _ _) (by decide) rfl (fun ls hl => ?_)
              refine lv_goto (tgt := 10) hx hb dqFo_fit_72 (by decide) ?_
              exact ih_10 v9 pu (k + 1) H locs ls (by omega) (by omega) (by omega) hP hD hS (lv_sub hl [0, 2, 1, 3, 4, 5, 6, 7, 8] rfl)
            · refine lv_lload hx hb dqFo_fit_48 (lv_at hl 1 rfl) ?_
              refine lv_aload_n hx hb dqFo_fit_50 rfl (lv_at hl 5 rfl) ?_
              refine lv_iload hx hb dqFo_fit_51 (lv_at hl 0 rfl) ?_
              refine q_lald (i := k) hx hb hK hP 2 1 rfl rfl (by omega) (by omega) (by omega) dqFo_fit_53 ?_
              refine hv_l (fun v10 v10a v10b => ?_)
              refine q_ladd hx hb dqFo_fit_54 ?_
              refine hv_l (fun v11 v11a v11b => ?_)
              refine lv_lstore (lv' := [(9, .long (lI v11)), (11, .int (iI k)), (7, .long (lI re)), (0, .ref fo), (1, .ref sa), (2, .ref sb), (3, .int (iI f)), (4, .int (iI g)), (5, .long (lI wi))]) hx hb dqFo_fit_55 hl (by decide) rfl (fun ls hl => ?_)
              refine lv_goto (tgt := 69) hx hb dqFo_fit_57 (by decide) ?_
              refine lv_iinc (v := iI (k + 1)) (lv' := [(11, .int (iI (k + 1))), (9, .long (lI v11)), (7, .long (lI re)), (0, .ref fo), (1, .ref sa), (2, .ref sb), (3, .int (iI f)), (4, .int (iI g)), (5, .long (lI wi))]) hx hb dqFo_fit_69 hl (k := 1) rfl (iI_add _ _) (by decide) rfl (fun ls hl => ?_)
              refine lv_goto (tgt := 10) hx hb dqFo_fit_72 (by decide) ?_
              exact ih_10 re v11 (k + 1) H locs ls (by omega) (by omega) (by omega) hP hD hS (lv_sub hl [0, 1, 2, 3, 4, 5, 6, 7, 8] rfl)
    exact loop_10 (Int.toNat (g - f) + 1) wi 0 f H locs ls (by omega) (by omega) (by omega) hP hD hS (lv_sub hl [0, 1, 2, 3, 4, 5, 6, 7, 8] rfl)
  rw [hH0, hL0] at goal
  exact goal
def rm_Fo_find : Room := { frames := 1, cells := 0, slots := 0, locals := 31 }
set_option maxHeartbeats 4000000 in
set_option maxRecDepth 100000 in
theorem c_Fo_find (l : Launch) (D : va_G) (cI cJ cZ : ClassId) (fo : Nat) (sa : Nat) (sb : Nat) (f : Int) (g : Int) (wi : Int) (fa : Int) (fb : Int) (sf : Int → Int) (pf : Int → Int) (h1 : 0 ≤ f) (h2 : f ≤ 24) (h3 : -2147483648 ≤ g) (h4 : g ≤ 24) : Mi l yqFo_find wsqFo_find rm_Fo_find D cI cJ cZ [.ref fo, .ref sa, .ref sb, .int (iI f), .int (iI g), .long (lI wi)] [(fo, .inr (5, [.long (lI fa), .long (lI fb)])), (sa, .inl (cJ, 24, .inr (.inl (al sf)))), (sb, .inl (cJ, 24, .inr (.inl (al pf))))] (S := Int × Int) (fun z u => z = 0 ∨ z = 1) (fun u => [(fo, .inr (5, [.long (lI u.1), .long (lI u.2)])), (sa, .inl (cJ, 24, .inr (.inl (al sf)))), (sb, .inl (cJ, 24, .inr (.inl (al pf))))]) 0 0 := by
  refine en_i (cc := cqFo_find) (maxL := 11) (ty := .boolean) (by decide +kernel) rfl (Nat.le_of_ble_eq_true rfl) ?_
  intro p e s m args below meth c A Q hx hb hml hin hts hown hA hP hK hD hN hS hret ls hl
  have hl : lv_has ls 11 [(0, .ref fo), (1, .ref sa), (2, .ref sb), (3, .int (iI f)), (4, .int (iI g)), (5, .long (lI wi))] := hl
  obtain ⟨H, hH0⟩ : ∃ H, H = s.heap := ⟨_, rfl⟩
  obtain ⟨locs, hL0⟩ : ∃ locs : List Loc, locs = [] := ⟨_, rfl⟩
  rw [← hH0] at hP
  have hS : va_S A s.heap H locs := by rw [hH0, hL0]; exact hS
  have goal : W p l e rm_Fo_find s m args below meth c H locs 0 0 Q (F0 m 0 ls []) := by
    refine lv_aload_n hx hb dqFo_find_0 rfl (lv_at hl 0 rfl) ?_
    refine lv_lconst (v := lI 0) hx hb dqFo_find_1 (by decide +kernel) ?_
    refine va_put (D := D) (ci := 5) (v := .long (lI 0)) (ty := .long) (C := RqFo) (T := TqFo) (N := 2) hx hb hts (in_c inqFo) tyqFo tyqFo_ok nmqFo hown hK hP hD hS 0 rfl rfl 0 (by decide) (hts (.fieldLink RqFo 7 "SpringSpaces$Force" "above" "J") (List.mem_cons_of_mem _ tb_142)) (fun _ h9 => h9) rfl (by decide +kernel) rfl rfl (Nat.le_of_ble_eq_true rfl) dqFo_find_2 (fun H locs hP hD hS => ?_)
    have hP : va_P D vwCl [(fo, .inr (5, [.long (lI 0), .long (lI fb)])), (sa, .inl (cJ, 24, .inr (.inl (al sf)))), (sb, .inl (cJ, 24, .inr (.inl (al pf))))] H := hP
    have hD : va_D A [(fo, .inr (5, [.long (lI 0), .long (lI fb)])), (sa, .inl (cJ, 24, .inr (.inl (al sf)))), (sb, .inl (cJ, 24, .inr (.inl (al pf))))] := hD
    refine lv_aload_n hx hb dqFo_find_5 rfl (lv_at hl 0 rfl) ?_
    refine lv_lconst (v := lI 1) hx hb dqFo_find_6 (by decide +kernel) ?_
    refine va_put (D := D) (ci := 5) (v := .long (lI 1)) (ty := .long) (C := RqFo) (T := TqFo) (N := 2) hx hb hts (in_c inqFo) tyqFo tyqFo_ok nmqFo hown hK hP hD hS 0 rfl rfl 1 (by decide) (hts (.fieldLink RqFo 13 "SpringSpaces$Force" "below" "J") (List.mem_cons_of_mem _ tb_143)) (fun _ h9 => h9) rfl (by decide +kernel) rfl rfl (Nat.le_of_ble_eq_true rfl) dqFo_find_7 (fun H locs hP hD hS => ?_)
    have hP : va_P D vwCl [(fo, .inr (5, [.long (lI 0), .long (lI 1)])), (sa, .inl (cJ, 24, .inr (.inl (al sf)))), (sb, .inl (cJ, 24, .inr (.inl (al pf))))] H := hP
    have hD : va_D A [(fo, .inr (5, [.long (lI 0), .long (lI 1)])), (sa, .inl (cJ, 24, .inr (.inl (al sf)))), (sb, .inl (cJ, 24, .inr (.inl (al pf))))] := hD
    refine lv_aload_n hx hb dqFo_find_10 rfl (lv_at hl 1 rfl) ?_
    refine lv_iload_n hx hb dqFo_find_11 rfl (lv_at hl 3 rfl) ?_
    refine lv_iload hx hb dqFo_find_12 (lv_at hl 4 rfl) ?_
    refine af_l (wr := [(fo, .inr (5, [.long (lI 0), .long (lI 1)])), (sb, .inl (cJ, 24, .inr (.inl (al pf))))]) (va_runSN (As := [.ref sa, .int (iI f), .int (iI g)]) (rest := []) ⟨hx, hb, hml, hown, hts⟩ (c_X_sumOf l D cI cJ cZ sa f g sf (by omega) (by omega) (by omega) (by omega) H.size) ⟨va_cnB 3 hts (gi_0 tb_445) rfl rfl rfl (hN _ nl_Fo_find_16) (hts _ (List.mem_cons_of_mem _ tb_25)) (by decide +kernel) ⟨Nat.le_of_ble_eq_true rfl, Nat.le_of_ble_eq_true rfl⟩, (hts _ (List.mem_cons_of_mem _ tb_444)), trivial⟩ (pre_S hK hN hP hD [1] rfl rfl) rfl rfl hl.1 rfl (lv_room (Nat.le_of_ble_eq_true rfl)) dqFo_find_14 ⟨by first | omega | decide, by first | omega | decide⟩) hA hP hD hS [1] [0, 2] rfl rfl (by decide +kernel) (by decide +kernel) (fun z1 u2 H locs hw_z1 hP hD hS => ?_)
    have hP : va_P D vwCl [(fo, .inr (5, [.long (lI 0), .long (lI 1)])), (sa, .inl (cJ, 24, .inr (.inl (al sf)))), (sb, .inl (cJ, 24, .inr (.inl (al pf))))] H := hP.sub [0, 2, 1] rfl
    have hD : va_D A [(fo, .inr (5, [.long (lI 0), .long (lI 1)])), (sa, .inl (cJ, 24, .inr (.inl (al sf)))), (sb, .inl (cJ, 24, .inr (.inl (al pf))))] := hD.sub [0, 2, 1] (by decide +kernel) rfl
    have hw_z1 : True := hw_z1
    refine lv_lload hx hb dqFo_find_17 (lv_at hl 5 rfl) ?_
    refine q_lw_lt (tgt := 25) hx hb dqFo_find_19 dqFo_find_20 (by decide) ?_ ?_
    · refine lv_aload_n hx hb dqFo_find_25 rfl (lv_at hl 2 rfl) ?_
      refine lv_iload_n hx hb dqFo_find_26 rfl (lv_at hl 3 rfl) ?_
      refine lv_iload hx hb dqFo_find_27 (lv_at hl 4 rfl) ?_
      refine af_l (wr := [(fo, .inr (5, [.long (lI 0), .long (lI 1)])), (sa, .inl (cJ, 24, .inr (.inl (al sf))))]) (va_runSN (As := [.ref sb, .int (iI f), .int (iI g)]) (rest := []) ⟨hx, hb, hml, hown, hts⟩ (c_X_sumOf l D cI cJ cZ sb f g pf (by omega) (by omega) (by omega) (by omega) H.size) ⟨va_cnB 3 hts (gi_0 tb_445) rfl rfl rfl (hN _ nl_Fo_find_16) (hts _ (List.mem_cons_of_mem _ tb_25)) (by decide +kernel) ⟨Nat.le_of_ble_eq_true rfl, Nat.le_of_ble_eq_true rfl⟩, (hts _ (List.mem_cons_of_mem _ tb_444)), trivial⟩ (pre_S hK hN hP hD [2] rfl rfl) rfl rfl hl.1 rfl (lv_room (Nat.le_of_ble_eq_true rfl)) dqFo_find_29 ⟨by first | omega | decide, by first | omega | decide⟩) hA hP hD hS [2] [0, 1] rfl rfl (by decide +kernel) (by decide +kernel) (fun z3 u4 H locs hw_z3 hP hD hS => ?_)
      have hP : va_P D vwCl [(fo, .inr (5, [.long (lI 0), .long (lI 1)])), (sa, .inl (cJ, 24, .inr (.inl (al sf)))), (sb, .inl (cJ, 24, .inr (.inl (al pf))))] H := hP
      have hD : va_D A [(fo, .inr (5, [.long (lI 0), .long (lI 1)])), (sa, .inl (cJ, 24, .inr (.inl (al sf)))), (sb, .inl (cJ, 24, .inr (.inl (al pf))))] := hD
      have hw_z3 : True := hw_z3
      refine lv_lconst (v := lI 0) hx hb dqFo_find_32 (by decide +kernel) ?_
      refine q_lw_gt (tgt := 39) hx hb dqFo_find_33 dqFo_find_34 (by decide) ?_ ?_
      · refine lv_aload_n hx hb dqFo_find_39 rfl (lv_at hl 0 rfl) ?_
        refine lv_lconst (v := lI 1) hx hb dqFo_find_40 (by decide +kernel) ?_
        refine va_put (D := D) (ci := 5) (v := .long (lI 1)) (ty := .long) (C := RqFo) (T := TqFo) (N := 2) hx hb hts (in_c inqFo) tyqFo tyqFo_ok nmqFo hown hK hP hD hS 0 rfl rfl 0 (by decide) (hts (.fieldLink RqFo 7 "SpringSpaces$Force" "above" "J") (List.mem_cons_of_mem _ tb_142)) (fun _ h9 => h9) rfl (by decide +kernel) rfl rfl (Nat.le_of_ble_eq_true rfl) dqFo_find_41 (fun H locs hP hD hS => ?_)
        have hP : va_P D vwCl [(fo, .inr (5, [.long (lI 1), .long (lI 1)])), (sa, .inl (cJ, 24, .inr (.inl (al sf)))), (sb, .inl (cJ, 24, .inr (.inl (al pf))))] H := hP
        have hD : va_D A [(fo, .inr (5, [.long (lI 1), .long (lI 1)])), (sa, .inl (cJ, 24, .inr (.inl (al sf)))), (sb, .inl (cJ, 24, .inr (.inl (al pf))))] := hD
        refine lv_aload_n hx hb dqFo_find_44 rfl (lv_at hl 0 rfl) ?_
        refine lv_lconst (v := lI 0) hx hb dqFo_find_45 (by decide +kernel) ?_
        refine va_put (D := D) (ci := 5) (v := .long (lI 0)) (ty := .long) (C := RqFo) (T := TqFo) (N := 2) hx hb hts (in_c inqFo) tyqFo tyqFo_ok nmqFo hown hK hP hD hS 0 rfl rfl 1 (by decide) (hts (.fieldLink RqFo 13 "SpringSpaces$Force" "below" "J") (List.mem_cons_of_mem _ tb_143)) (fun _ h9 => h9) rfl (by decide +kernel) rfl rfl (Nat.le_of_ble_eq_true rfl) dqFo_find_46 (fun H locs hP hD hS => ?_)
        have hP : va_P D vwCl [(fo, .inr (5, [.long (lI 1), .long (lI 0)])), (sa, .inl (cJ, 24, .inr (.inl (al sf)))), (sb, .inl (cJ, 24, .inr (.inl (al pf))))] H := hP
        have hD : va_D A [(fo, .inr (5, [.long (lI 1), .long (lI 0)])), (sa, .inl (cJ, 24, .inr (.inl (al sf)))), (sb, .inl (cJ, 24, .inr (.inl (al pf))))] := hD
        refine lv_iconst (v := iI 1) hx hb dqFo_find_49 rfl ?_
        refine lv_istore (lv' := [(7, .int (iI 1)), (0, .ref fo), (1, .ref sa), (2, .ref sb), (3, .int (iI f)), (4, .int (iI g)), (5, .long (lI wi))]) hx hb dqFo_find_50 hl (by decide) rfl (fun ls hl => ?_)
        refine lv_iload_n hx hb dqFo_find_52 rfl (lv_at hl 4 rfl) ?_
        refine lv_istore (lv' := [(8, .int (iI f)), (7, .int (iI 1)), (0, .ref fo), (1, .ref sa), (2, .ref sb), (3, .int (iI f)), (4, .int (iI g)), (5, .long (lI wi))]) hx hb dqFo_find_53 hl (by decide) rfl (fun ls hl => ?_)
        have loop_55 : ∀ (n9 : Nat), ∀ (fl : Int) (k : Int) (fa3 : Int) (fb3 : Int) (H : Heap) (locs : List Loc) (ls : Array Slot), (fl = 0 ∨ fl = 1) → (0 ≤ k) → (k ≤ 24) → ((g - k).toNat < n9) → va_P D vwCl [(fo, .inr (5, [.long (lI fa3), .long (lI fb3)])), (sa, .inl (cJ, 24, .inr (.inl (al sf)))), (sb, .inl (cJ, 24, .inr (.inl (al pf))))] H → va_D A [(fo, .inr (5, [.long (lI fa3), .long (lI fb3)])), (sa, .inl (cJ, 24, .inr (.inl (al sf)))), (sb, .inl (cJ, 24, .inr (.inl (al pf))))] → va_S A s.heap H locs → lv_has ls 11 [(8, .int (iI k)), (7, .int (iI fl)), (0, .ref fo), (1, .ref sa), (2, .ref sb), (3, .int (iI f)), (4, .int (iI g)), (5, .long (lI wi))] → W p l e rm_Fo_find s m args below meth c H locs 0 0 Q (F0 m 55 ls []) := by
          intro n9
          induction n9 with
          | zero =>
            intro fl k fa3 fb3 H locs ls f1 k1 k2 hm9
            exact absurd hm9 (by omega)
          | succ n9 ih_55 =>
            intro fl k fa3 fb3 H locs ls f1 k1 k2 hm9 hP hD hS hl
            refine lv_iload hx hb dqFo_find_55 (lv_at hl 0 rfl) ?_
            refine lv_iload hx hb dqFo_find_57 (lv_at hl 6 rfl) ?_
            refine q_icmp_ge (tgt := 107) hx hb dqFo_find_59 (by decide) (by omega) (by omega) (by omega) (by omega) (fun c_59 => ?_) (fun c_59 => ?_)
            · refine lv_iconst (v := iI 1) hx hb dqFo_find_107 rfl ?_
              exact hret H locs _ ls 1 (fa3, fb3) (narrow_z (by omega)) hS (by first | rfl | trivial | omega | exact bl_y (by (try dsimp only); omega) | exact bl_n (by (try dsimp only); omega) | (apply Or.inl; (and_intros <;> first | rfl | omega)) | (apply Or.inr; apply Or.inl; (and_intros <;> first | rfl | omega)) | (apply Or.inr; (and_intros <;> first | rfl | omega)) | (apply Or.inr; apply Or.inr; apply Or.inl; (and_intros <;> first | rfl | omega)) | (apply Or.inr; apply Or.inr; (and_intros <;> first | rfl | omega)) | (apply Or.inr; apply Or.inr; apply Or.inr; apply Or.inl; (and_intros <;> first | rfl | omega)) | (apply Or.inr; apply Or.inr; apply Or.inr; (and_intros <;> first | rfl | omega)) | (apply Or.inr; apply Or.inr; apply Or.inr; apply Or.inr; apply Or.inl; (and_intros <;> first | rfl | omega)) | (apply Or.inr; apply Or.inr; apply Or.inr; apply Or.inr; (and_intros <;> first | rfl | omega))) hP hD dqFo_find_108
            · refine lv_iload hx hb dqFo_find_62 (lv_at hl 1 rfl) ?_
              refine q_if_eq (tgt := 107) hx hb dqFo_find_64 (by decide) (by omega) (by omega) (fun c_64 => ?_) (fun c_64 => ?_)
              · refine lv_iconst (v := iI 1) hx hb dqFo_find_107 rfl ?_
                exact hret H locs _ ls 1 (fa3, fb3) (narrow_z (by omega)) hS (by first | rfl | trivial | omega | exact bl_y (by (try dsimp only); omega) | exact bl_n (by (try dsimp only); omega) | (apply Or.inl; (and_intros <;> first | rfl | omega)) | (apply Or.inr; apply Or.inl; (and_intros <;> first | rfl | omega)) | (apply Or.inr; (and_intros <;> first | rfl | omega)) | (apply Or.inr; apply Or.inr; apply Or.inl; (and_intros <;> first | rfl | omega)) | (apply Or.inr; apply Or.inr; (and_intros <;> first | rfl | omega)) | (apply Or.inr; apply Or.inr; apply Or.inr; apply Or.inl; (and_intros <;> first | rfl | omega)) | (apply Or.inr; apply Or.inr; apply Or.inr; (and_intros <;> first | rfl | omega)) | (apply Or.inr; apply Or.inr; apply Or.inr; apply Or.inr; apply Or.inl; (and_intros <;> first | rfl | omega)) | (apply Or.inr; apply Or.inr; apply Or.inr; apply Or.inr; (and_intros <;> first | rfl | omega))) hP hD dqFo_find_108
              · refine lv_aload_n hx hb dqFo_find_67 rfl (lv_at hl 2 rfl) ?_
                refine va_get (D := D) (ci := 5) (v := .long (lI fb3)) (C := RqFo) (T := TqFo) (N := 2) hx hb hts (in_c inqFo) hown hK hP 0 rfl rfl 1 (by decide) (hts (.fieldLink RqFo 13 "SpringSpaces$Force" "below" "J") (List.mem_cons_of_mem _ tb_143)) (fun _ h9 => h9) rfl dqFo_find_68 ?_
                refine lv_lstore (lv' := [(9, .long (lI fb3)), (8, .int (iI k)), (7, .int (iI fl)), (0, .ref fo), (1, .ref sa), (2, .ref sb), (3, .int (iI f)), (4, .int (iI g)), (5, .long (lI wi))]) hx hb dqFo_find_71 hl (by decide) rfl (fun ls hl => ?_)
                refine lv_aload_n hx hb dqFo_find_73 rfl (lv_at hl 3 rfl) ?_
                refine lv_aload_n hx hb dqFo_find_74 rfl (lv_at hl 4 rfl) ?_
                refine lv_aload_n hx hb dqFo_find_75 rfl (lv_at hl 5 rfl) ?_
                refine lv_iload_n hx hb dqFo_find_76 rfl (lv_at hl 6 rfl) ?_
                refine lv_iload hx hb dqFo_find_77 (lv_at hl 7 rfl) ?_
                refine lv_lload hx hb dqFo_find_79 (lv_at hl 8 rfl) ?_
                refine af_v (wr := []) (va_runV (As := [.ref sa, .ref sb, .int (iI f), .int (iI g), .long (lI wi)]) (rest := []) ⟨hx, hb, hml, hown, hts⟩ (c_Fo_fit l D cI cJ cZ fo sa sb f g wi fa3 fb3 sf pf (by omega) (by omega) (by omega) (by omega) H.size) (cwV 5 hts (gi_V tb_451 tb_453 tb_5 tb_31 tb_454) rfl rfl rfl (by decide +kernel) ⟨Nat.le_of_ble_eq_true rfl, Nat.le_of_ble_eq_true rfl⟩) (pre_V (ci := 5) (q0 := 0) hK hN hP hD [0, 1, 2] rfl rfl rfl rfl) rfl rfl hl.1 rfl (lv_room (Nat.le_of_ble_eq_true rfl)) dqFo_find_81 ⟨by first | omega | decide, by first | omega | decide⟩) hA hP hD hS [0, 1, 2] [] rfl rfl (by decide +kernel) (by decide +kernel) (fun u6 H locs hw_z5 hP hD hS => ?_)
                obtain ⟨fa2_7, fb2_8⟩ := u6
                have hP : va_P D vwCl [(fo, .inr (5, [.long (lI fa2_7), .long (lI fb2_8)])), (sa, .inl (cJ, 24, .inr (.inl (al sf)))), (sb, .inl (cJ, 24, .inr (.inl (al pf))))] H := hP
                have hD : va_D A [(fo, .inr (5, [.long (lI fa2_7), .long (lI fb2_8)])), (sa, .inl (cJ, 24, .inr (.inl (al sf)))), (sb, .inl (cJ, 24, .inr (.inl (al pf))))] := hD
                refine lv_aload_n hx hb dqFo_find_84 rfl (lv_at hl 3 rfl) ?_
                refine va_get (D := D) (ci := 5) (v := .long (lI fb2_8)) (C := RqFo) (T := TqFo) (N := 2) hx hb hts (in_c inqFo) hown hK hP 0 rfl rfl 1 (by decide) (hts (.fieldLink RqFo 13 "SpringSpaces$Force" "below" "J") (List.mem_cons_of_mem _ tb_143)) (fun _ h9 => h9) rfl dqFo_find_85 ?_
                refine lv_lload hx hb dqFo_find_88 (lv_at hl 0 rfl) ?_
                refine q_lw_eq (tgt := 98) hx hb dqFo_find_90 dqFo_find_91 (by decide) ?_ ?_
                · refine lv_iconst (v := iI 0) hx hb dqFo_find_98 rfl ?_
                  refine lv_istore (lv' := [(7, .int (iI 0)), (9, .long (lI fb3)), (8, .int (iI k)), (0, .ref fo), (1, .ref sa), (2, .ref sb), (3, .int (iI f)), (4, .int (iI g)), (5, .long (lI wi))]) hx hb dqFo_find_99 hl (by decide) rfl (fun ls hl => ?_)
                  refine lv_iinc (v := iI (k + 1)) (lv' := [(8, .int (iI (k + 1))), (7, .int (iI 0)), (9, .long (lI fb3)), (0, .ref fo), (1, .ref sa), (2, .ref sb), (3, .int (iI f)), (4, .int (iI g)), (5, .long (lI wi))]) hx hb dqFo_find_101 hl (k := 2) rfl (iI_add _ _) (by decide) rfl (fun ls hl => ?_)
                  refine lv_goto (tgt := 55) hx hb dqFo_find_104 (by decide) ?_
                  exact ih_55 0 (k + 1) fa2_7 fb2_8 H locs ls (by omega) (by omega) (by omega) (by omega) hP hD hS (lv_sub hl [0, 1, 3, 4, 5, 6, 7, 8] rfl)
                · refine lv_iconst (v := iI 1) hx hb dqFo_find_94 rfl ?_
                  refine lv_goto (tgt := 99) hx hb dqFo_find_95 (by decide) ?_
                  refine lv_istore (lv' := [(7, .int (iI 1)), (9, .long (lI fb3)), (8, .int (iI k)), (0, .ref fo), (1, .ref sa), (2, .ref sb), (3, .int (iI f)), (4, .int (iI g)), (5, .long (lI wi))]) hx hb dqFo_find_99 hl (by decide) rfl (fun ls hl => ?_)
                  refine lv_iinc (v := iI (k + 1)) (lv' := [(8, .int (iI (k + 1))), (7, .int (iI 1)), (9, .long (lI fb3)), (0, .ref fo), (1, .ref sa), (2, .ref sb), (3, .int (iI f)), (4, .int (iI g)), (5, .long (lI wi))]) hx hb dqFo_find_101 hl (k := 2) rfl (iI_add _ _) (by decide) rfl (fun ls hl => ?_)
                  refine lv_goto (tgt := 55) hx hb dqFo_find_104 (by decide) ?_
                  exact ih_55 1 (k + 1) fa2_7 fb2_8 H locs ls (by omega) (by omega) (by omega) (by omega) hP hD hS (lv_sub hl [0, 1, 3, 4, 5, 6, 7, 8] rfl)
        exact loop_55 (Int.toNat (g - f) + 1) 1 f 1 0 H locs ls (by omega) (by omega) (by omega) (by omega) hP hD hS (lv_sub hl [0, 1, 2, 3, 4, 5, 6, 7] rfl)
      · refine lv_iconst (v := iI 0) hx hb dqFo_find_37 rfl ?_
        exact hret H locs _ ls 0 (0, 1) (narrow_z (by omega)) hS (by first | rfl | trivial | omega | exact bl_y (by (try dsimp only); omega) | exact bl_n (by (try dsimp only); omega) | (apply Or.inl; (and_intros <;> first | rfl | omega)) | (apply Or.inr; apply Or.inl; (and_intros <;> first | rfl | omega)) | (apply Or.inr; (and_intros <;> first | rfl | omega)) | (apply Or.inr; apply Or.inr; apply Or.inl; (and_intros <;> first | rfl | omega)) | (apply Or.inr; apply Or.inr; (and_intros <;> first | rfl | omega)) | (apply Or.inr; apply Or.inr; apply Or.inr; apply Or.inl; (and_intros <;> first | rfl | omega)) | (apply Or.inr; apply Or.inr; apply Or.inr; (and_intros <;> first | rfl | omega)) | (apply Or.inr; apply Or.inr; apply Or.inr; apply Or.inr; apply Or.inl; (and_intros <;> first | rfl | omega)) | (apply Or.inr; apply Or.inr; apply Or.inr; apply Or.inr; (and_intros <;> first | rfl | omega))) hP hD dqFo_find_38
    · refine lv_iconst (v := iI 1) hx hb dqFo_find_23 rfl ?_
      exact hret H locs _ ls 1 (0, 1) (narrow_z (by omega)) hS (by first | rfl | trivial | omega | exact bl_y (by (try dsimp only); omega) | exact bl_n (by (try dsimp only); omega) | (apply Or.inl; (and_intros <;> first | rfl | omega)) | (apply Or.inr; apply Or.inl; (and_intros <;> first | rfl | omega)) | (apply Or.inr; (and_intros <;> first | rfl | omega)) | (apply Or.inr; apply Or.inr; apply Or.inl; (and_intros <;> first | rfl | omega)) | (apply Or.inr; apply Or.inr; (and_intros <;> first | rfl | omega)) | (apply Or.inr; apply Or.inr; apply Or.inr; apply Or.inl; (and_intros <;> first | rfl | omega)) | (apply Or.inr; apply Or.inr; apply Or.inr; (and_intros <;> first | rfl | omega)) | (apply Or.inr; apply Or.inr; apply Or.inr; apply Or.inr; apply Or.inl; (and_intros <;> first | rfl | omega)) | (apply Or.inr; apply Or.inr; apply Or.inr; apply Or.inr; (and_intros <;> first | rfl | omega))) hP hD dqFo_find_24
  rw [hH0, hL0] at goal
  exact goal
def rm_Fo_bringToLowestTerms : Room := { frames := 2, cells := 0, slots := 0, locals := 45 }
set_option maxHeartbeats 4000000 in
set_option maxRecDepth 100000 in
theorem c_Fo_bringToLowestTerms (l : Launch) (D : va_G) (cI cJ cZ : ClassId) (fo : Nat) (fa : Int) (fb : Int)  : Mv l yqFo_bringToLowestTerms wsqFo_bringToLowestTerms rm_Fo_bringToLowestTerms D cI cJ cZ [.ref fo] [(fo, .inr (5, [.long (lI fa), .long (lI fb)]))] (S := Int × Int) (fun u => True) (fun u => [(fo, .inr (5, [.long (lI u.1), .long (lI u.2)]))]) 0 0 := by
  refine en_v (cc := cqFo_bringToLowestTerms) (maxL := 3) (by decide +kernel) rfl (Nat.le_of_ble_eq_true rfl) ?_
  intro p e s m args below meth c A Q hx hb hml hin hts hown hA hP hK hD hN hS hret ls hl
  have hl : lv_has ls 3 [(0, .ref fo)] := hl
  obtain ⟨H, hH0⟩ : ∃ H, H = s.heap := ⟨_, rfl⟩
  obtain ⟨locs, hL0⟩ : ∃ locs : List Loc, locs = [] := ⟨_, rfl⟩
  rw [← hH0] at hP
  have hS : va_S A s.heap H locs := by rw [hH0, hL0]; exact hS
  have goal : W p l e rm_Fo_bringToLowestTerms s m args below meth c H locs 0 0 Q (F0 m 0 ls []) := by
    refine lv_aload_n hx hb dqFo_bringToLowestTerms_0 rfl (lv_at hl 0 rfl) ?_
    refine va_get (D := D) (ci := 5) (v := .long (lI fa)) (C := RqFo) (T := TqFo) (N := 2) hx hb hts (in_c inqFo) hown hK hP 0 rfl rfl 0 (by decide) (hts (.fieldLink RqFo 7 "SpringSpaces$Force" "above" "J") (List.mem_cons_of_mem _ tb_142)) (fun _ h9 => h9) rfl dqFo_bringToLowestTerms_1 ?_
    refine lv_aload_n hx hb dqFo_bringToLowestTerms_4 rfl (lv_at hl 0 rfl) ?_
    refine va_get (D := D) (ci := 5) (v := .long (lI fb)) (C := RqFo) (T := TqFo) (N := 2) hx hb hts (in_c inqFo) hown hK hP 0 rfl rfl 1 (by decide) (hts (.fieldLink RqFo 13 "SpringSpaces$Force" "below" "J") (List.mem_cons_of_mem _ tb_143)) (fun _ h9 => h9) rfl dqFo_bringToLowestTerms_5 ?_
    refine af_l (wr := [(fo, .inr (5, [.long (lI fa), .long (lI fb)]))]) (va_runSN (As := [.long (lI fa), .long (lI fb)]) (rest := []) ⟨hx, hb, hml, hown, hts⟩ (c_X_commonDivisor l D cI cJ cZ fa fb H.size) ⟨va_cnB 2 hts (gi_0 tb_485) rfl rfl rfl (hN _ nl_Fo_bringToLowestTerms_26) (hts _ (List.mem_cons_of_mem _ tb_25)) (by decide +kernel) ⟨Nat.le_of_ble_eq_true rfl, Nat.le_of_ble_eq_true rfl⟩, (hts _ (List.mem_cons_of_mem _ tb_484)), trivial⟩ (pre_S hK hN hP hD [] rfl rfl) rfl rfl hl.1 rfl (lv_room (Nat.le_of_ble_eq_true rfl)) dqFo_bringToLowestTerms_8 ⟨by first | omega | decide, by first | omega | decide⟩) hA hP hD hS [] [0] rfl rfl (by decide +kernel) (by decide +kernel) (fun z1 u2 H locs hw_z1 hP hD hS => ?_)
    have hP : va_P D vwCl [(fo, .inr (5, [.long (lI fa), .long (lI fb)]))] H := hP
    have hD : va_D A [(fo, .inr (5, [.long (lI fa), .long (lI fb)]))] := hD
    have hw_z1 : 1 ≤ z1 ∧ z1 ≤ 9223372036854775807 := hw_z1
    refine lv_lstore_n (lv' := [(1, .long (lI z1)), (0, .ref fo)]) hx hb dqFo_bringToLowestTerms_11 rfl hl (by decide) rfl (fun ls hl => ?_)
    refine lv_aload_n hx hb dqFo_bringToLowestTerms_12 rfl (lv_at hl 1 rfl) ?_
    refine lv_dup hx hb dqFo_bringToLowestTerms_13 rfl ?_
    refine va_get (D := D) (ci := 5) (v := .long (lI fa)) (C := RqFo) (T := TqFo) (N := 2) hx hb hts (in_c inqFo) hown hK hP 0 rfl rfl 0 (by decide) (hts (.fieldLink RqFo 7 "SpringSpaces$Force" "above" "J") (List.mem_cons_of_mem _ tb_142)) (fun _ h9 => h9) rfl dqFo_bringToLowestTerms_14 ?_
    refine lv_lload_n hx hb dqFo_bringToLowestTerms_17 rfl (lv_at hl 0 rfl) ?_
    refine q_ldiv_w hx hb dqFo_bringToLowestTerms_18 (by omega) (by omega) (by omega) (fun v3 v3a v3b => ?_)
    refine va_put (D := D) (ci := 5) (v := .long (lI v3)) (ty := .long) (C := RqFo) (T := TqFo) (N := 2) hx hb hts (in_c inqFo) tyqFo tyqFo_ok nmqFo hown hK hP hD hS 0 rfl rfl 0 (by decide) (hts (.fieldLink RqFo 7 "SpringSpaces$Force" "above" "J") (List.mem_cons_of_mem _ tb_142)) (fun _ h9 => h9) rfl (by decide +kernel) rfl rfl (Nat.le_of_ble_eq_true rfl) dqFo_bringToLowestTerms_19 (fun H locs hP hD hS => ?_)
    have hP : va_P D vwCl [(fo, .inr (5, [.long (lI v3), .long (lI fb)]))] H := hP
    have hD : va_D A [(fo, .inr (5, [.long (lI v3), .long (lI fb)]))] := hD
    refine lv_aload_n hx hb dqFo_bringToLowestTerms_22 rfl (lv_at hl 1 rfl) ?_
    refine lv_dup hx hb dqFo_bringToLowestTerms_23 rfl ?_
    refine va_get (D := D) (ci := 5) (v := .long (lI fb)) (C := RqFo) (T := TqFo) (N := 2) hx hb hts (in_c inqFo) hown hK hP 0 rfl rfl 1 (by decide) (hts (.fieldLink RqFo 13 "SpringSpaces$Force" "below" "J") (List.mem_cons_of_mem _ tb_143)) (fun _ h9 => h9) rfl dqFo_bringToLowestTerms_24 ?_
    refine lv_lload_n hx hb dqFo_bringToLowestTerms_27 rfl (lv_at hl 0 rfl) ?_
    refine q_ldiv_w hx hb dqFo_bringToLowestTerms_28 (by omega) (by omega) (by omega) (fun v4 v4a v4b => ?_)
    refine va_put (D := D) (ci := 5) (v := .long (lI v4)) (ty := .long) (C := RqFo) (T := TqFo) (N := 2) hx hb hts (in_c inqFo) tyqFo tyqFo_ok nmqFo hown hK hP hD hS 0 rfl rfl 1 (by decide) (hts (.fieldLink RqFo 13 "SpringSpaces$Force" "below" "J") (List.mem_cons_of_mem _ tb_143)) (fun _ h9 => h9) rfl (by decide +kernel) rfl rfl (Nat.le_of_ble_eq_true rfl) dqFo_bringToLowestTerms_29 (fun H locs hP hD hS => ?_)
    have hP : va_P D vwCl [(fo, .inr (5, [.long (lI v3), .long (lI v4)]))] H := hP
    have hD : va_D A [(fo, .inr (5, [.long (lI v3), .long (lI v4)]))] := hD
    exact hret H locs _ ls (v3, v4) hS (by first | rfl | trivial | omega | exact bl_y (by (try dsimp only); omega) | exact bl_n (by (try dsimp only); omega) | (apply Or.inl; (and_intros <;> first | rfl | omega)) | (apply Or.inr; apply Or.inl; (and_intros <;> first | rfl | omega)) | (apply Or.inr; (and_intros <;> first | rfl | omega)) | (apply Or.inr; apply Or.inr; apply Or.inl; (and_intros <;> first | rfl | omega)) | (apply Or.inr; apply Or.inr; (and_intros <;> first | rfl | omega)) | (apply Or.inr; apply Or.inr; apply Or.inr; apply Or.inl; (and_intros <;> first | rfl | omega)) | (apply Or.inr; apply Or.inr; apply Or.inr; (and_intros <;> first | rfl | omega)) | (apply Or.inr; apply Or.inr; apply Or.inr; apply Or.inr; apply Or.inl; (and_intros <;> first | rfl | omega)) | (apply Or.inr; apply Or.inr; apply Or.inr; apply Or.inr; (and_intros <;> first | rfl | omega))) hP hD dqFo_bringToLowestTerms_32
  rw [hH0, hL0] at goal
  exact goal
