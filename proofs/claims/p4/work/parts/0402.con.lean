def rm_It_take : Room := { frames := 1, cells := 0, slots := 0, locals := 21 }
set_option maxHeartbeats 4000000 in
set_option maxRecDepth 100000 in
theorem c_It_take (l : Launch) (D : va_G) (cI cJ cZ : ClassId) (it : Nat) (st : Int) (x : Int) (ia : Nat) (ib : Nat) (ic : Nat) (hf : Int → Int) (h1 : 0 ≤ st) (h2 : st ≤ 3) (h3 : 0 ≤ x) (h4 : x ≤ 23) : Mv l yqIt_take wsqIt_take rm_It_take D cI cJ cZ [.ref it, .int (iI st), .int (iI x)] [(it, .inr (2, [.ref ia, .ref ib, .ref ic])), (ia, .inl (cZ, 96, .inl (ai hf)))] (S := Unit) (fun _ => True) (fun _ => [(it, .inr (2, [.ref ia, .ref ib, .ref ic])), (ia, .inl (cZ, 96, .inl (ai (up hf (st * 24 + x) 0))))]) 0 0 := by
  refine en_v (cc := cqIt_take) (maxL := 3) (by decide +kernel) rfl (Nat.le_of_ble_eq_true rfl) ?_
  intro p e s m args below meth c A Q hx hb hml hin hts hown hA hP hK hD hN hS hret ls hl
  have hl : lv_has ls 3 [(0, .ref it), (1, .int (iI st)), (2, .int (iI x))] := hl
  obtain ⟨H, hH0⟩ : ∃ H, H = s.heap := ⟨_, rfl⟩
  obtain ⟨locs, hL0⟩ : ∃ locs : List Loc, locs = [] := ⟨_, rfl⟩
  rw [← hH0] at hP
  have hS : va_S A s.heap H locs := by rw [hH0, hL0]; exact hS
  have goal : W p l e rm_It_take s m args below meth c H locs 0 0 Q (F0 m 0 ls []) := by
    refine lv_aload_n hx hb dqIt_take_0 rfl (lv_at hl 0 rfl) ?_
    refine va_get (D := D) (ci := 2) (v := .ref ia) (C := RqIt) (T := TqIt) (N := 3) hx hb hts (in_c inqIt) hown hK hP 0 rfl rfl 0 (by decide) (hts (.fieldLink RqIt 9 "SpringSpaces$Items" "there" "[Z") (List.mem_cons_of_mem _ tb_76)) (fun _ h9 => h9) rfl dqIt_take_1 ?_
    refine lv_iload_n hx hb dqIt_take_4 rfl (lv_at hl 1 rfl) ?_
    refine lv_iload_n hx hb dqIt_take_5 rfl (lv_at hl 2 rfl) ?_
    refine af_i (wr := [(it, .inr (2, [.ref ia, .ref ib, .ref ic])), (ia, .inl (cZ, 96, .inl (ai hf)))]) (va_runS (As := [.int (iI st), .int (iI x)]) (rest := [.ref ia]) ⟨hx, hb, hml, hown, hts⟩ (c_It_seat l D cI cJ cZ st x H.size) (va_cwS 2 hts (gi_S tb_305 tb_306 tb_27 tb_307) rfl rfl rfl (by decide +kernel) ⟨Nat.le_of_ble_eq_true rfl, Nat.le_of_ble_eq_true rfl⟩) (pre_S hK hN hP hD [] rfl rfl) rfl rfl hl.1 rfl (lv_room (Nat.le_of_ble_eq_true rfl)) dqIt_take_6 ⟨by first | omega | decide, by first | omega | decide⟩) hA hP hD hS [] [0, 1] rfl rfl (by decide +kernel) (by decide +kernel) (fun z1 u2 H locs hw_z1 hP hD hS => ?_)
    have hP : va_P D vwCl [(it, .inr (2, [.ref ia, .ref ib, .ref ic])), (ia, .inl (cZ, 96, .inl (ai hf)))] H := hP
    have hD : va_D A [(it, .inr (2, [.ref ia, .ref ib, .ref ic])), (ia, .inl (cZ, 96, .inl (ai hf)))] := hD
    have hw_z1 : st * 24 + x = z1 := Eq.symm hw_z1
    subst hw_z1
    refine lv_iconst (v := iI 0) hx hb dqIt_take_9 rfl ?_
    refine q_zast (i := st * 24 + x) (x := 0) hx hb hK hP hD hS 1 2 rfl rfl (by omega) (by omega) (by omega) (by omega) dqIt_take_10 (fun H locs hP hD hS => ?_)
    have hP : va_P D vwCl [(it, .inr (2, [.ref ia, .ref ib, .ref ic])), (ia, .inl (cZ, 96, .inl (ai (up hf (st * 24 + x) 0))))] H := hP
    have hD : va_D A [(it, .inr (2, [.ref ia, .ref ib, .ref ic])), (ia, .inl (cZ, 96, .inl (ai (up hf (st * 24 + x) 0))))] := hD
    exact hret H locs _ ls () hS (by first | rfl | trivial | omega | exact bl_y (by omega) | exact bl_n (by omega) | (apply Or.inl; (and_intros <;> first | rfl | omega)) | (apply Or.inr; apply Or.inl; (and_intros <;> first | rfl | omega)) | (apply Or.inr; (and_intros <;> first | rfl | omega)) | (apply Or.inr; apply Or.inr; apply Or.inl; (and_intros <;> first | rfl | omega)) | (apply Or.inr; apply Or.inr; (and_intros <;> first | rfl | omega)) | (apply Or.inr; apply Or.inr; apply Or.inr; apply Or.inl; (and_intros <;> first | rfl | omega)) | (apply Or.inr; apply Or.inr; apply Or.inr; (and_intros <;> first | rfl | omega)) | (apply Or.inr; apply Or.inr; apply Or.inr; apply Or.inr; apply Or.inl; (and_intros <;> first | rfl | omega)) | (apply Or.inr; apply Or.inr; apply Or.inr; apply Or.inr; (and_intros <;> first | rfl | omega))) hP hD dqIt_take_11
  rw [hH0, hL0] at goal
  exact goal
def rm_It_takeAll : Room := { frames := 0, cells := 0, slots := 0, locals := 0 }
set_option maxHeartbeats 4000000 in
set_option maxRecDepth 100000 in
theorem c_It_takeAll (l : Launch) (D : va_G) (cI cJ cZ : ClassId) (it : Nat) (ia : Nat) (ib : Nat) (ic : Nat) (hf : Int → Int)  : Mv l yqIt_takeAll wsqIt_takeAll rm_It_takeAll D cI cJ cZ [.ref it] [(it, .inr (2, [.ref ia, .ref ib, .ref ic])), (ia, .inl (cZ, 96, .inl (ai hf)))] (S := (Int → Int)) (fun u => ZR 96 u) (fun u => [(it, .inr (2, [.ref ia, .ref ib, .ref ic])), (ia, .inl (cZ, 96, .inl (ai u)))]) 0 0 := by
  refine en_v (cc := cqIt_takeAll) (maxL := 2) (by decide +kernel) rfl (Nat.le_of_ble_eq_true rfl) ?_
  intro p e s m args below meth c A Q hx hb hml hin hts hown hA hP hK hD hN hS hret ls hl
  have hl : lv_has ls 2 [(0, .ref it)] := hl
  obtain ⟨H, hH0⟩ : ∃ H, H = s.heap := ⟨_, rfl⟩
  obtain ⟨locs, hL0⟩ : ∃ locs : List Loc, locs = [] := ⟨_, rfl⟩
  rw [← hH0] at hP
  have hS : va_S A s.heap H locs := by rw [hH0, hL0]; exact hS
  have goal : W p l e rm_It_takeAll s m args below meth c H locs 0 0 Q (F0 m 0 ls []) := by
    refine lv_iconst (v := iI 0) hx hb dqIt_takeAll_0 rfl ?_
    refine lv_istore_n (lv' := [(1, .int (iI 0)), (0, .ref it)]) hx hb dqIt_takeAll_1 rfl hl (by decide) rfl (fun ls hl => ?_)
    have loop_2 : ∀ (n9 : Nat), ∀ (k : Int) (h3 : Int → Int) (H : Heap) (locs : List Loc) (ls : Array Slot), (0 ≤ k) → (k ≤ 96) → (ZR k h3) → ((96 - k).toNat < n9) → va_P D vwCl [(it, .inr (2, [.ref ia, .ref ib, .ref ic])), (ia, .inl (cZ, 96, .inl (ai h3)))] H → va_D A [(it, .inr (2, [.ref ia, .ref ib, .ref ic])), (ia, .inl (cZ, 96, .inl (ai h3)))] → va_S A s.heap H locs → lv_has ls 2 [(1, .int (iI k)), (0, .ref it)] → W p l e rm_It_takeAll s m args below meth c H locs 0 0 Q (F0 m 2 ls []) := by
      intro n9
      induction n9 with
      | zero =>
        intro k h3 H locs ls k1 k2 hz hm9
        exact absurd hm9 (by omega)
      | succ n9 ih_2 =>
        intro k h3 H locs ls k1 k2 hz hm9 hP hD hS hl
        refine lv_iload_n hx hb dqIt_takeAll_2 rfl (lv_at hl 0 rfl) ?_
        refine lv_aload_n hx hb dqIt_takeAll_3 rfl (lv_at hl 1 rfl) ?_
        refine va_get (D := D) (ci := 2) (v := .ref ia) (C := RqIt) (T := TqIt) (N := 3) hx hb hts (in_c inqIt) hown hK hP 0 rfl rfl 0 (by decide) (hts (.fieldLink RqIt 9 "SpringSpaces$Items" "there" "[Z") (List.mem_cons_of_mem _ tb_76)) (fun _ h9 => h9) rfl dqIt_takeAll_4 ?_
        refine va_alen (v := iI 96) hx hb hK hP 1 2 rfl rfl (show Int32.ofNat 96 = iI 96 by decide +kernel) dqIt_takeAll_7 ?_
        refine q_icmp_ge (tgt := 24) hx hb dqIt_takeAll_8 (by decide) (by omega) (by omega) (by omega) (by omega) (fun c_8 => ?_) (fun c_8 => ?_)
        · exact hret H locs _ ls h3 hS ((show k = 96 by omega) ▸ hz) hP hD dqIt_takeAll_24
        · refine lv_aload_n hx hb dqIt_takeAll_11 rfl (lv_at hl 1 rfl) ?_
          refine va_get (D := D) (ci := 2) (v := .ref ia) (C := RqIt) (T := TqIt) (N := 3) hx hb hts (in_c inqIt) hown hK hP 0 rfl rfl 0 (by decide) (hts (.fieldLink RqIt 9 "SpringSpaces$Items" "there" "[Z") (List.mem_cons_of_mem _ tb_76)) (fun _ h9 => h9) rfl dqIt_takeAll_12 ?_
          refine lv_iload_n hx hb dqIt_takeAll_15 rfl (lv_at hl 0 rfl) ?_
          refine lv_iconst (v := iI 0) hx hb dqIt_takeAll_16 rfl ?_
          refine q_zast (i := k) (x := 0) hx hb hK hP hD hS 1 2 rfl rfl (by omega) (by omega) (by omega) (by omega) dqIt_takeAll_17 (fun H locs hP hD hS => ?_)
          have hP : va_P D vwCl [(it, .inr (2, [.ref ia, .ref ib, .ref ic])), (ia, .inl (cZ, 96, .inl (ai (up h3 k 0))))] H := hP
          have hD : va_D A [(it, .inr (2, [.ref ia, .ref ib, .ref ic])), (ia, .inl (cZ, 96, .inl (ai (up h3 k 0))))] := hD
          refine lv_iinc (v := iI (k + 1)) (lv' := [(1, .int (iI (k + 1))), (0, .ref it)]) hx hb dqIt_takeAll_18 hl (k := 0) rfl (iI_add _ _) (by decide) rfl (fun ls hl => ?_)
          refine lv_goto (tgt := 2) hx hb dqIt_takeAll_21 (by decide) ?_
          exact ih_2 (k + 1) (up h3 k 0) H locs ls (by omega) (by omega) hz.up (by omega) hP hD hS (lv_sub hl [0, 1] rfl)
    exact loop_2 (Int.toNat (96 - 0) + 1) 0 hf H locs ls (by omega) (by omega) ZR.nil (by omega) hP hD hS (lv_sub hl [0, 1] rfl)
  rw [hH0, hL0] at goal
  exact goal
def rm_Ro_areUsedUp : Room := { frames := 0, cells := 0, slots := 0, locals := 0 }
set_option maxHeartbeats 4000000 in
set_option maxRecDepth 100000 in
theorem c_Ro_areUsedUp (l : Launch) (D : va_G) (cI cJ cZ : ClassId) (ro : Nat) (ra : Nat) (rb : Nat) (rc : Nat) (rd : Nat) (nu : Int) (ct : Int) (h1 : 0 ≤ nu) (h2 : nu ≤ 20) : Mi l yqRo_areUsedUp wsqRo_areUsedUp rm_Ro_areUsedUp D cI cJ cZ [.ref ro] [(ro, .inr (3, [.ref ra, .ref rb, .ref rc, .ref rd, .int (iI nu), .int (iI ct)]))] (S := Unit) (fun z _ => bl z (20 ≤ nu)) (fun _ => [(ro, .inr (3, [.ref ra, .ref rb, .ref rc, .ref rd, .int (iI nu), .int (iI ct)]))]) 0 0 := by
  refine en_i (cc := cqRo_areUsedUp) (maxL := 1) (ty := .boolean) (by decide +kernel) rfl (Nat.le_of_ble_eq_true rfl) ?_
  intro p e s m args below meth c A Q hx hb hml hin hts hown hA hP hK hD hN hS hret ls hl
  have hl : lv_has ls 1 [(0, .ref ro)] := hl
  obtain ⟨H, hH0⟩ : ∃ H, H = s.heap := ⟨_, rfl⟩
  obtain ⟨locs, hL0⟩ : ∃ locs : List Loc, locs = [] := ⟨_, rfl⟩
  rw [← hH0] at hP
  have hS : va_S A s.heap H locs := by rw [hH0, hL0]; exact hS
  have goal : W p l e rm_Ro_areUsedUp s m args below meth c H locs 0 0 Q (F0 m 0 ls []) := by
    refine lv_aload_n hx hb dqRo_areUsedUp_0 rfl (lv_at hl 0 rfl) ?_
    refine va_get (D := D) (ci := 3) (v := .int (iI nu)) (C := RqRo) (T := TqRo) (N := 6) hx hb hts (in_c inqRo) hown hK hP 0 rfl rfl 4 (by decide) (hts (.fieldLink RqRo 25 "SpringSpaces$Rods" "numbers" "I") (List.mem_cons_of_mem _ tb_96)) (fun _ h9 => h9) rfl dqRo_areUsedUp_1 ?_
    refine lv_bipush (v := iI 20) hx hb dqRo_areUsedUp_4 (by decide +kernel) ?_
    refine q_icmp_lt (tgt := 13) hx hb dqRo_areUsedUp_6 (by decide) (by omega) (by omega) (by omega) (by omega) (fun c_6 => ?_) (fun c_6 => ?_)
    · refine lv_iconst (v := iI 0) hx hb dqRo_areUsedUp_13 rfl ?_
      exact hret H locs _ ls 0 () (narrow_z (by omega)) hS (by first | rfl | trivial | omega | exact bl_y (by omega) | exact bl_n (by omega) | (apply Or.inl; (and_intros <;> first | rfl | omega)) | (apply Or.inr; apply Or.inl; (and_intros <;> first | rfl | omega)) | (apply Or.inr; (and_intros <;> first | rfl | omega)) | (apply Or.inr; apply Or.inr; apply Or.inl; (and_intros <;> first | rfl | omega)) | (apply Or.inr; apply Or.inr; (and_intros <;> first | rfl | omega)) | (apply Or.inr; apply Or.inr; apply Or.inr; apply Or.inl; (and_intros <;> first | rfl | omega)) | (apply Or.inr; apply Or.inr; apply Or.inr; (and_intros <;> first | rfl | omega)) | (apply Or.inr; apply Or.inr; apply Or.inr; apply Or.inr; apply Or.inl; (and_intros <;> first | rfl | omega)) | (apply Or.inr; apply Or.inr; apply Or.inr; apply Or.inr; (and_intros <;> first | rfl | omega))) hP hD dqRo_areUsedUp_14
    · refine lv_iconst (v := iI 1) hx hb dqRo_areUsedUp_9 rfl ?_
      refine lv_goto (tgt := 14) hx hb dqRo_areUsedUp_10 (by decide) ?_
      exact hret H locs _ ls 1 () (narrow_z (by omega)) hS (by first | rfl | trivial | omega | exact bl_y (by omega) | exact bl_n (by omega) | (apply Or.inl; (and_intros <;> first | rfl | omega)) | (apply Or.inr; apply Or.inl; (and_intros <;> first | rfl | omega)) | (apply Or.inr; (and_intros <;> first | rfl | omega)) | (apply Or.inr; apply Or.inr; apply Or.inl; (and_intros <;> first | rfl | omega)) | (apply Or.inr; apply Or.inr; (and_intros <;> first | rfl | omega)) | (apply Or.inr; apply Or.inr; apply Or.inr; apply Or.inl; (and_intros <;> first | rfl | omega)) | (apply Or.inr; apply Or.inr; apply Or.inr; (and_intros <;> first | rfl | omega)) | (apply Or.inr; apply Or.inr; apply Or.inr; apply Or.inr; apply Or.inl; (and_intros <;> first | rfl | omega)) | (apply Or.inr; apply Or.inr; apply Or.inr; apply Or.inr; (and_intros <;> first | rfl | omega))) hP hD dqRo_areUsedUp_14
  rw [hH0, hL0] at goal
  exact goal
def rm_Ro_numbersGiven : Room := { frames := 0, cells := 0, slots := 0, locals := 0 }
set_option maxHeartbeats 4000000 in
set_option maxRecDepth 100000 in
theorem c_Ro_numbersGiven (l : Launch) (D : va_G) (cI cJ cZ : ClassId) (ro : Nat) (ra : Nat) (rb : Nat) (rc : Nat) (rd : Nat) (nu : Int) (ct : Int)  : Mi l yqRo_numbersGiven wsqRo_numbersGiven rm_Ro_numbersGiven D cI cJ cZ [.ref ro] [(ro, .inr (3, [.ref ra, .ref rb, .ref rc, .ref rd, .int (iI nu), .int (iI ct)]))] (S := Unit) (fun z _ => z = nu) (fun _ => [(ro, .inr (3, [.ref ra, .ref rb, .ref rc, .ref rd, .int (iI nu), .int (iI ct)]))]) 0 0 := by
  refine en_i (cc := cqRo_numbersGiven) (maxL := 1) (ty := .int) (by decide +kernel) rfl (Nat.le_of_ble_eq_true rfl) ?_
  intro p e s m args below meth c A Q hx hb hml hin hts hown hA hP hK hD hN hS hret ls hl
  have hl : lv_has ls 1 [(0, .ref ro)] := hl
  obtain ⟨H, hH0⟩ : ∃ H, H = s.heap := ⟨_, rfl⟩
  obtain ⟨locs, hL0⟩ : ∃ locs : List Loc, locs = [] := ⟨_, rfl⟩
  rw [← hH0] at hP
  have hS : va_S A s.heap H locs := by rw [hH0, hL0]; exact hS
  have goal : W p l e rm_Ro_numbersGiven s m args below meth c H locs 0 0 Q (F0 m 0 ls []) := by
    refine lv_aload_n hx hb dqRo_numbersGiven_0 rfl (lv_at hl 0 rfl) ?_
    refine va_get (D := D) (ci := 3) (v := .int (iI nu)) (C := RqRo) (T := TqRo) (N := 6) hx hb hts (in_c inqRo) hown hK hP 0 rfl rfl 4 (by decide) (hts (.fieldLink RqRo 25 "SpringSpaces$Rods" "numbers" "I") (List.mem_cons_of_mem _ tb_96)) (fun _ h9 => h9) rfl dqRo_numbersGiven_1 ?_
    exact hret H locs _ ls nu () rfl hS (by first | rfl | trivial | omega | exact bl_y (by omega) | exact bl_n (by omega) | (apply Or.inl; (and_intros <;> first | rfl | omega)) | (apply Or.inr; apply Or.inl; (and_intros <;> first | rfl | omega)) | (apply Or.inr; (and_intros <;> first | rfl | omega)) | (apply Or.inr; apply Or.inr; apply Or.inl; (and_intros <;> first | rfl | omega)) | (apply Or.inr; apply Or.inr; (and_intros <;> first | rfl | omega)) | (apply Or.inr; apply Or.inr; apply Or.inr; apply Or.inl; (and_intros <;> first | rfl | omega)) | (apply Or.inr; apply Or.inr; apply Or.inr; (and_intros <;> first | rfl | omega)) | (apply Or.inr; apply Or.inr; apply Or.inr; apply Or.inr; apply Or.inl; (and_intros <;> first | rfl | omega)) | (apply Or.inr; apply Or.inr; apply Or.inr; apply Or.inr; (and_intros <;> first | rfl | omega))) hP hD dqRo_numbersGiven_4
  rw [hH0, hL0] at goal
  exact goal
def rm_Ro_have : Room := { frames := 1, cells := 0, slots := 0, locals := 22 }
set_option maxHeartbeats 4000000 in
set_option maxRecDepth 100000 in
theorem c_Ro_have (l : Launch) (D : va_G) (cI cJ cZ : ClassId) (ro : Nat) (x : Int) (ra : Nat) (rb : Nat) (rc : Nat) (rd : Nat) (nu : Int) (ct : Int) (rt : Int → Int) (h1 : 0 ≤ nu) (h2 : nu ≤ 20) (h3 : -2147483648 ≤ x) (h4 : x ≤ 2147483647) : Mi l yqRo_have wsqRo_have rm_Ro_have D cI cJ cZ [.ref ro, .int (iI x)] [(ro, .inr (3, [.ref ra, .ref rb, .ref rc, .ref rd, .int (iI nu), .int (iI ct)])), (ra, .inl (cZ, 20, .inl (ai rt)))] (S := Unit) (fun z _ => (z = 0 ∨ z = 1) ∧ (z = 1 → 0 ≤ x ∧ x < nu)) (fun _ => [(ro, .inr (3, [.ref ra, .ref rb, .ref rc, .ref rd, .int (iI nu), .int (iI ct)])), (ra, .inl (cZ, 20, .inl (ai rt)))]) 0 0 := by
  refine en_i (cc := cqRo_have) (maxL := 2) (ty := .boolean) (by decide +kernel) rfl (Nat.le_of_ble_eq_true rfl) ?_
  intro p e s m args below meth c A Q hx hb hml hin hts hown hA hP hK hD hN hS hret ls hl
  have hl : lv_has ls 2 [(0, .ref ro), (1, .int (iI x))] := hl
  obtain ⟨H, hH0⟩ : ∃ H, H = s.heap := ⟨_, rfl⟩
  obtain ⟨locs, hL0⟩ : ∃ locs : List Loc, locs = [] := ⟨_, rfl⟩
  rw [← hH0] at hP
  have hS : va_S A s.heap H locs := by rw [hH0, hL0]; exact hS
  have goal : W p l e rm_Ro_have s m args below meth c H locs 0 0 Q (F0 m 0 ls []) := by
    refine lv_iload_n hx hb dqRo_have_0 rfl (lv_at hl 1 rfl) ?_
    refine lv_iconst (v := iI 0) hx hb dqRo_have_1 rfl ?_
    refine lv_aload_n hx hb dqRo_have_2 rfl (lv_at hl 0 rfl) ?_
    refine va_get (D := D) (ci := 3) (v := .int (iI nu)) (C := RqRo) (T := TqRo) (N := 6) hx hb hts (in_c inqRo) hown hK hP 0 rfl rfl 4 (by decide) (hts (.fieldLink RqRo 25 "SpringSpaces$Rods" "numbers" "I") (List.mem_cons_of_mem _ tb_96)) (fun _ h9 => h9) rfl dqRo_have_3 ?_
    refine lv_iconst (v := iI 1) hx hb dqRo_have_6 rfl ?_
    refine q_isub hx hb dqRo_have_7 ?_
    refine af_i (wr := [(ro, .inr (3, [.ref ra, .ref rb, .ref rc, .ref rd, .int (iI nu), .int (iI ct)])), (ra, .inl (cZ, 20, .inl (ai rt)))]) (va_runSN (As := [.int (iI x), .int (iI 0), .int (iI (nu - 1))]) (rest := []) ⟨hx, hb, hml, hown, hts⟩ (c_X_within l D cI cJ cZ x 0 (nu - 1) (by omega) (by omega) (by omega) (by omega) (by omega) (by omega) H.size) ⟨va_cnB 3 hts (gi_0 tb_225) rfl rfl rfl (hN _ nl_Ro_have_32) (hts _ (List.mem_cons_of_mem _ tb_25)) (by decide +kernel) ⟨Nat.le_of_ble_eq_true rfl, Nat.le_of_ble_eq_true rfl⟩, (hts _ (List.mem_cons_of_mem _ tb_224)), trivial⟩ (pre_S hK hN hP hD [] rfl rfl) rfl rfl hl.1 rfl (lv_room (Nat.le_of_ble_eq_true rfl)) dqRo_have_8 ⟨by first | omega | decide, by first | omega | decide⟩) hA hP hD hS [] [0, 1] rfl rfl (by decide +kernel) (by decide +kernel) (fun z1 u2 H locs hw_z1 hP hD hS => ?_)
    have hP : va_P D vwCl [(ro, .inr (3, [.ref ra, .ref rb, .ref rc, .ref rd, .int (iI nu), .int (iI ct)])), (ra, .inl (cZ, 20, .inl (ai rt)))] H := hP
    have hD : va_D A [(ro, .inr (3, [.ref ra, .ref rb, .ref rc, .ref rd, .int (iI nu), .int (iI ct)])), (ra, .inl (cZ, 20, .inl (ai rt)))] := hD
    have hw_z1 : bl z1 ((0 : Int) ≤ x ∧ x ≤ (nu - 1)) := hw_z1
    refine q_if_eq (tgt := 27) hx hb dqRo_have_11 (by decide) (bl_1 hw_z1) (bl_2 hw_z1) (fun c_11 => ?_) (fun c_11 => ?_)
    · have c_11 := bl_f hw_z1 c_11
      refine lv_iconst (v := iI 0) hx hb dqRo_have_27 rfl ?_
      exact hret H locs _ ls 0 () (narrow_z (by omega)) hS (by first | rfl | trivial | omega | exact bl_y (by omega) | exact bl_n (by omega) | (apply Or.inl; (and_intros <;> first | rfl | omega)) | (apply Or.inr; apply Or.inl; (and_intros <;> first | rfl | omega)) | (apply Or.inr; (and_intros <;> first | rfl | omega)) | (apply Or.inr; apply Or.inr; apply Or.inl; (and_intros <;> first | rfl | omega)) | (apply Or.inr; apply Or.inr; (and_intros <;> first | rfl | omega)) | (apply Or.inr; apply Or.inr; apply Or.inr; apply Or.inl; (and_intros <;> first | rfl | omega)) | (apply Or.inr; apply Or.inr; apply Or.inr; (and_intros <;> first | rfl | omega)) | (apply Or.inr; apply Or.inr; apply Or.inr; apply Or.inr; apply Or.inl; (and_intros <;> first | rfl | omega)) | (apply Or.inr; apply Or.inr; apply Or.inr; apply Or.inr; (and_intros <;> first | rfl | omega))) hP hD dqRo_have_28
    · have c_11 := bl_t hw_z1 c_11
      refine lv_aload_n hx hb dqRo_have_14 rfl (lv_at hl 0 rfl) ?_
      refine va_get (D := D) (ci := 3) (v := .ref ra) (C := RqRo) (T := TqRo) (N := 6) hx hb hts (in_c inqRo) hown hK hP 0 rfl rfl 0 (by decide) (hts (.fieldLink RqRo 9 "SpringSpaces$Rods" "there" "[Z") (List.mem_cons_of_mem _ tb_92)) (fun _ h9 => h9) rfl dqRo_have_15 ?_
      refine lv_iload_n hx hb dqRo_have_18 rfl (lv_at hl 1 rfl) ?_
      refine q_zald (i := x) hx hb hK hP 1 2 rfl rfl (by omega) (by omega) (by omega) dqRo_have_19 ?_
      refine q_ifw_eq (tgt := 27) hx hb dqRo_have_20 (by decide) ?_ ?_
      · refine lv_iconst (v := iI 0) hx hb dqRo_have_27 rfl ?_
        exact hret H locs _ ls 0 () (narrow_z (by omega)) hS (by first | rfl | trivial | omega | exact bl_y (by omega) | exact bl_n (by omega) | (apply Or.inl; (and_intros <;> first | rfl | omega)) | (apply Or.inr; apply Or.inl; (and_intros <;> first | rfl | omega)) | (apply Or.inr; (and_intros <;> first | rfl | omega)) | (apply Or.inr; apply Or.inr; apply Or.inl; (and_intros <;> first | rfl | omega)) | (apply Or.inr; apply Or.inr; (and_intros <;> first | rfl | omega)) | (apply Or.inr; apply Or.inr; apply Or.inr; apply Or.inl; (and_intros <;> first | rfl | omega)) | (apply Or.inr; apply Or.inr; apply Or.inr; (and_intros <;> first | rfl | omega)) | (apply Or.inr; apply Or.inr; apply Or.inr; apply Or.inr; apply Or.inl; (and_intros <;> first | rfl | omega)) | (apply Or.inr; apply Or.inr; apply Or.inr; apply Or.inr; (and_intros <;> first | rfl | omega))) hP hD dqRo_have_28
      · refine lv_iconst (v := iI 1) hx hb dqRo_have_23 rfl ?_
        refine lv_goto (tgt := 28) hx hb dqRo_have_24 (by decide) ?_
        exact hret H locs _ ls 1 () (narrow_z (by omega)) hS (by first | rfl | trivial | omega | exact bl_y (by omega) | exact bl_n (by omega) | (apply Or.inl; (and_intros <;> first | rfl | omega)) | (apply Or.inr; apply Or.inl; (and_intros <;> first | rfl | omega)) | (apply Or.inr; (and_intros <;> first | rfl | omega)) | (apply Or.inr; apply Or.inr; apply Or.inl; (and_intros <;> first | rfl | omega)) | (apply Or.inr; apply Or.inr; (and_intros <;> first | rfl | omega)) | (apply Or.inr; apply Or.inr; apply Or.inr; apply Or.inl; (and_intros <;> first | rfl | omega)) | (apply Or.inr; apply Or.inr; apply Or.inr; (and_intros <;> first | rfl | omega)) | (apply Or.inr; apply Or.inr; apply Or.inr; apply Or.inr; apply Or.inl; (and_intros <;> first | rfl | omega)) | (apply Or.inr; apply Or.inr; apply Or.inr; apply Or.inr; (and_intros <;> first | rfl | omega))) hP hD dqRo_have_28
  rw [hH0, hL0] at goal
  exact goal
def rm_Ro_put : Room := { frames := 0, cells := 0, slots := 0, locals := 0 }
set_option maxHeartbeats 4000000 in
set_option maxRecDepth 100000 in
theorem c_Ro_put (l : Launch) (D : va_G) (cI cJ cZ : ClassId) (ro : Nat) (f : Int) (g : Int) (x : Int) (ra : Nat) (rb : Nat) (rc : Nat) (rd : Nat) (nu : Int) (ct : Int) (rt : Int → Int) (rff : Int → Int) (rg : Int → Int) (rh : Int → Int) (h1 : 0 ≤ nu) (h2 : nu < 20) : Mi l yqRo_put wsqRo_put rm_Ro_put D cI cJ cZ [.ref ro, .int (iI f), .int (iI g), .int (iI x)] [(ro, .inr (3, [.ref ra, .ref rb, .ref rc, .ref rd, .int (iI nu), .int (iI ct)])), (ra, .inl (cZ, 20, .inl (ai rt))), (rb, .inl (cI, 20, .inl (ai rff))), (rc, .inl (cI, 20, .inl (ai rg))), (rd, .inl (cI, 20, .inl (ai rh)))] (S := Unit) (fun z _ => z = nu) (fun _ => [(ro, .inr (3, [.ref ra, .ref rb, .ref rc, .ref rd, .int (iI (nu + 1)), .int (iI (ct + 1))])), (ra, .inl (cZ, 20, .inl (ai (up rt nu 1)))), (rb, .inl (cI, 20, .inl (ai (up rff nu f)))), (rc, .inl (cI, 20, .inl (ai (up rg nu g)))), (rd, .inl (cI, 20, .inl (ai (up rh nu x))))]) 0 0 := by
  refine en_i (cc := cqRo_put) (maxL := 5) (ty := .int) (by decide +kernel) rfl (Nat.le_of_ble_eq_true rfl) ?_
  intro p e s m args below meth c A Q hx hb hml hin hts hown hA hP hK hD hN hS hret ls hl
  have hl : lv_has ls 5 [(0, .ref ro), (1, .int (iI f)), (2, .int (iI g)), (3, .int (iI x))] := hl
  obtain ⟨H, hH0⟩ : ∃ H, H = s.heap := ⟨_, rfl⟩
  obtain ⟨locs, hL0⟩ : ∃ locs : List Loc, locs = [] := ⟨_, rfl⟩
  rw [← hH0] at hP
  have hS : va_S A s.heap H locs := by rw [hH0, hL0]; exact hS
  have goal : W p l e rm_Ro_put s m args below meth c H locs 0 0 Q (F0 m 0 ls []) := by
    refine lv_aload_n hx hb dqRo_put_0 rfl (lv_at hl 0 rfl) ?_
    refine va_get (D := D) (ci := 3) (v := .int (iI nu)) (C := RqRo) (T := TqRo) (N := 6) hx hb hts (in_c inqRo) hown hK hP 0 rfl rfl 4 (by decide) (hts (.fieldLink RqRo 25 "SpringSpaces$Rods" "numbers" "I") (List.mem_cons_of_mem _ tb_96)) (fun _ h9 => h9) rfl dqRo_put_1 ?_
    refine lv_istore (lv' := [(4, .int (iI nu)), (0, .ref ro), (1, .int (iI f)), (2, .int (iI g)), (3, .int (iI x))]) hx hb dqRo_put_4 hl (by decide) rfl (fun ls hl => ?_)
    refine lv_aload_n hx hb dqRo_put_6 rfl (lv_at hl 1 rfl) ?_
    refine va_get (D := D) (ci := 3) (v := .ref ra) (C := RqRo) (T := TqRo) (N := 6) hx hb hts (in_c inqRo) hown hK hP 0 rfl rfl 0 (by decide) (hts (.fieldLink RqRo 9 "SpringSpaces$Rods" "there" "[Z") (List.mem_cons_of_mem _ tb_92)) (fun _ h9 => h9) rfl dqRo_put_7 ?_
    refine lv_iload hx hb dqRo_put_10 (lv_at hl 0 rfl) ?_
    refine lv_iconst (v := iI 1) hx hb dqRo_put_12 rfl ?_
    refine q_zast (i := nu) (x := 1) hx hb hK hP hD hS 1 2 rfl rfl (by omega) (by omega) (by omega) (by omega) dqRo_put_13 (fun H locs hP hD hS => ?_)
    have hP : va_P D vwCl [(ro, .inr (3, [.ref ra, .ref rb, .ref rc, .ref rd, .int (iI nu), .int (iI ct)])), (ra, .inl (cZ, 20, .inl (ai (up rt nu 1)))), (rb, .inl (cI, 20, .inl (ai rff))), (rc, .inl (cI, 20, .inl (ai rg))), (rd, .inl (cI, 20, .inl (ai rh)))] H := hP
    have hD : va_D A [(ro, .inr (3, [.ref ra, .ref rb, .ref rc, .ref rd, .int (iI nu), .int (iI ct)])), (ra, .inl (cZ, 20, .inl (ai (up rt nu 1)))), (rb, .inl (cI, 20, .inl (ai rff))), (rc, .inl (cI, 20, .inl (ai rg))), (rd, .inl (cI, 20, .inl (ai rh)))] := hD
    refine lv_aload_n hx hb dqRo_put_14 rfl (lv_at hl 1 rfl) ?_
    refine va_get (D := D) (ci := 3) (v := .ref rb) (C := RqRo) (T := TqRo) (N := 6) hx hb hts (in_c inqRo) hown hK hP 0 rfl rfl 1 (by decide) (hts (.fieldLink RqRo 15 "SpringSpaces$Rods" "froms" "[I") (List.mem_cons_of_mem _ tb_93)) (fun _ h9 => h9) rfl dqRo_put_15 ?_
    refine lv_iload hx hb dqRo_put_18 (lv_at hl 0 rfl) ?_
    refine lv_iload_n hx hb dqRo_put_20 rfl (lv_at hl 2 rfl) ?_
    refine q_iast (i := nu) (x := f) hx hb hK hP hD hS 2 0 rfl rfl (by omega) (by omega) (by omega) dqRo_put_21 (fun H locs hP hD hS => ?_)
    have hP : va_P D vwCl [(ro, .inr (3, [.ref ra, .ref rb, .ref rc, .ref rd, .int (iI nu), .int (iI ct)])), (ra, .inl (cZ, 20, .inl (ai (up rt nu 1)))), (rb, .inl (cI, 20, .inl (ai (up rff nu f)))), (rc, .inl (cI, 20, .inl (ai rg))), (rd, .inl (cI, 20, .inl (ai rh)))] H := hP
    have hD : va_D A [(ro, .inr (3, [.ref ra, .ref rb, .ref rc, .ref rd, .int (iI nu), .int (iI ct)])), (ra, .inl (cZ, 20, .inl (ai (up rt nu 1)))), (rb, .inl (cI, 20, .inl (ai (up rff nu f)))), (rc, .inl (cI, 20, .inl (ai rg))), (rd, .inl (cI, 20, .inl (ai rh)))] := hD
    refine lv_aload_n hx hb dqRo_put_22 rfl (lv_at hl 1 rfl) ?_
    refine va_get (D := D) (ci := 3) (v := .ref rc) (C := RqRo) (T := TqRo) (N := 6) hx hb hts (in_c inqRo) hown hK hP 0 rfl rfl 2 (by decide) (hts (.fieldLink RqRo 19 "SpringSpaces$Rods" "tos" "[I") (List.mem_cons_of_mem _ tb_94)) (fun _ h9 => h9) rfl dqRo_put_23 ?_
    refine lv_iload hx hb dqRo_put_26 (lv_at hl 0 rfl) ?_
    refine lv_iload_n hx hb dqRo_put_28 rfl (lv_at hl 3 rfl) ?_
    refine q_iast (i := nu) (x := g) hx hb hK hP hD hS 3 0 rfl rfl (by omega) (by omega) (by omega) dqRo_put_29 (fun H locs hP hD hS => ?_)
    have hP : va_P D vwCl [(ro, .inr (3, [.ref ra, .ref rb, .ref rc, .ref rd, .int (iI nu), .int (iI ct)])), (ra, .inl (cZ, 20, .inl (ai (up rt nu 1)))), (rb, .inl (cI, 20, .inl (ai (up rff nu f)))), (rc, .inl (cI, 20, .inl (ai (up rg nu g)))), (rd, .inl (cI, 20, .inl (ai rh)))] H := hP
    have hD : va_D A [(ro, .inr (3, [.ref ra, .ref rb, .ref rc, .ref rd, .int (iI nu), .int (iI ct)])), (ra, .inl (cZ, 20, .inl (ai (up rt nu 1)))), (rb, .inl (cI, 20, .inl (ai (up rff nu f)))), (rc, .inl (cI, 20, .inl (ai (up rg nu g)))), (rd, .inl (cI, 20, .inl (ai rh)))] := hD
    refine lv_aload_n hx hb dqRo_put_30 rfl (lv_at hl 1 rfl) ?_
    refine va_get (D := D) (ci := 3) (v := .ref rd) (C := RqRo) (T := TqRo) (N := 6) hx hb hts (in_c inqRo) hown hK hP 0 rfl rfl 3 (by decide) (hts (.fieldLink RqRo 22 "SpringSpaces$Rods" "widths" "[I") (List.mem_cons_of_mem _ tb_95)) (fun _ h9 => h9) rfl dqRo_put_31 ?_
    refine lv_iload hx hb dqRo_put_34 (lv_at hl 0 rfl) ?_
    refine lv_iload_n hx hb dqRo_put_36 rfl (lv_at hl 4 rfl) ?_
    refine q_iast (i := nu) (x := x) hx hb hK hP hD hS 4 0 rfl rfl (by omega) (by omega) (by omega) dqRo_put_37 (fun H locs hP hD hS => ?_)
    have hP : va_P D vwCl [(ro, .inr (3, [.ref ra, .ref rb, .ref rc, .ref rd, .int (iI nu), .int (iI ct)])), (ra, .inl (cZ, 20, .inl (ai (up rt nu 1)))), (rb, .inl (cI, 20, .inl (ai (up rff nu f)))), (rc, .inl (cI, 20, .inl (ai (up rg nu g)))), (rd, .inl (cI, 20, .inl (ai (up rh nu x))))] H := hP
    have hD : va_D A [(ro, .inr (3, [.ref ra, .ref rb, .ref rc, .ref rd, .int (iI nu), .int (iI ct)])), (ra, .inl (cZ, 20, .inl (ai (up rt nu 1)))), (rb, .inl (cI, 20, .inl (ai (up rff nu f)))), (rc, .inl (cI, 20, .inl (ai (up rg nu g)))), (rd, .inl (cI, 20, .inl (ai (up rh nu x))))] := hD
    refine lv_aload_n hx hb dqRo_put_38 rfl (lv_at hl 1 rfl) ?_
    refine lv_dup hx hb dqRo_put_39 rfl ?_
    refine va_get (D := D) (ci := 3) (v := .int (iI nu)) (C := RqRo) (T := TqRo) (N := 6) hx hb hts (in_c inqRo) hown hK hP 0 rfl rfl 4 (by decide) (hts (.fieldLink RqRo 25 "SpringSpaces$Rods" "numbers" "I") (List.mem_cons_of_mem _ tb_96)) (fun _ h9 => h9) rfl dqRo_put_40 ?_
    refine lv_iconst (v := iI 1) hx hb dqRo_put_43 rfl ?_
    refine q_iadd hx hb dqRo_put_44 ?_
    refine va_put (D := D) (ci := 3) (v := .int (iI (nu + 1))) (ty := .int) (C := RqRo) (T := TqRo) (N := 6) hx hb hts (in_c inqRo) tyqRo tyqRo_ok nmqRo hown hK hP hD hS 0 rfl rfl 4 (by decide) (hts (.fieldLink RqRo 25 "SpringSpaces$Rods" "numbers" "I") (List.mem_cons_of_mem _ tb_96)) (fun _ h9 => h9) rfl (by decide +kernel) rfl rfl (Nat.le_of_ble_eq_true rfl) dqRo_put_45 (fun H locs hP hD hS => ?_)
    have hP : va_P D vwCl [(ro, .inr (3, [.ref ra, .ref rb, .ref rc, .ref rd, .int (iI (nu + 1)), .int (iI ct)])), (ra, .inl (cZ, 20, .inl (ai (up rt nu 1)))), (rb, .inl (cI, 20, .inl (ai (up rff nu f)))), (rc, .inl (cI, 20, .inl (ai (up rg nu g)))), (rd, .inl (cI, 20, .inl (ai (up rh nu x))))] H := hP
    have hD : va_D A [(ro, .inr (3, [.ref ra, .ref rb, .ref rc, .ref rd, .int (iI (nu + 1)), .int (iI ct)])), (ra, .inl (cZ, 20, .inl (ai (up rt nu 1)))), (rb, .inl (cI, 20, .inl (ai (up rff nu f)))), (rc, .inl (cI, 20, .inl (ai (up rg nu g)))), (rd, .inl (cI, 20, .inl (ai (up rh nu x))))] := hD
    refine lv_aload_n hx hb dqRo_put_48 rfl (lv_at hl 1 rfl) ?_
    refine lv_dup hx hb dqRo_put_49 rfl ?_
    refine va_get (D := D) (ci := 3) (v := .int (iI ct)) (C := RqRo) (T := TqRo) (N := 6) hx hb hts (in_c inqRo) hown hK hP 0 rfl rfl 5 (by decide) (hts (.fieldLink RqRo 29 "SpringSpaces$Rods" "count" "I") (List.mem_cons_of_mem _ tb_97)) (fun _ h9 => h9) rfl dqRo_put_50 ?_
    refine lv_iconst (v := iI 1) hx hb dqRo_put_53 rfl ?_
    refine q_iadd hx hb dqRo_put_54 ?_
    refine va_put (D := D) (ci := 3) (v := .int (iI (ct + 1))) (ty := .int) (C := RqRo) (T := TqRo) (N := 6) hx hb hts (in_c inqRo) tyqRo tyqRo_ok nmqRo hown hK hP hD hS 0 rfl rfl 5 (by decide) (hts (.fieldLink RqRo 29 "SpringSpaces$Rods" "count" "I") (List.mem_cons_of_mem _ tb_97)) (fun _ h9 => h9) rfl (by decide +kernel) rfl rfl (Nat.le_of_ble_eq_true rfl) dqRo_put_55 (fun H locs hP hD hS => ?_)
    have hP : va_P D vwCl [(ro, .inr (3, [.ref ra, .ref rb, .ref rc, .ref rd, .int (iI (nu + 1)), .int (iI (ct + 1))])), (ra, .inl (cZ, 20, .inl (ai (up rt nu 1)))), (rb, .inl (cI, 20, .inl (ai (up rff nu f)))), (rc, .inl (cI, 20, .inl (ai (up rg nu g)))), (rd, .inl (cI, 20, .inl (ai (up rh nu x))))] H := hP
    have hD : va_D A [(ro, .inr (3, [.ref ra, .ref rb, .ref rc, .ref rd, .int (iI (nu + 1)), .int (iI (ct + 1))])), (ra, .inl (cZ, 20, .inl (ai (up rt nu 1)))), (rb, .inl (cI, 20, .inl (ai (up rff nu f)))), (rc, .inl (cI, 20, .inl (ai (up rg nu g)))), (rd, .inl (cI, 20, .inl (ai (up rh nu x))))] := hD
    refine lv_iload hx hb dqRo_put_58 (lv_at hl 0 rfl) ?_
    exact hret H locs _ ls nu () rfl hS (by first | rfl | trivial | omega | exact bl_y (by omega) | exact bl_n (by omega) | (apply Or.inl; (and_intros <;> first | rfl | omega)) | (apply Or.inr; apply Or.inl; (and_intros <;> first | rfl | omega)) | (apply Or.inr; (and_intros <;> first | rfl | omega)) | (apply Or.inr; apply Or.inr; apply Or.inl; (and_intros <;> first | rfl | omega)) | (apply Or.inr; apply Or.inr; (and_intros <;> first | rfl | omega)) | (apply Or.inr; apply Or.inr; apply Or.inr; apply Or.inl; (and_intros <;> first | rfl | omega)) | (apply Or.inr; apply Or.inr; apply Or.inr; (and_intros <;> first | rfl | omega)) | (apply Or.inr; apply Or.inr; apply Or.inr; apply Or.inr; apply Or.inl; (and_intros <;> first | rfl | omega)) | (apply Or.inr; apply Or.inr; apply Or.inr; apply Or.inr; (and_intros <;> first | rfl | omega))) hP hD dqRo_put_60
  rw [hH0, hL0] at goal
  exact goal
def rm_Ro_take : Room := { frames := 0, cells := 0, slots := 0, locals := 0 }
set_option maxHeartbeats 4000000 in
set_option maxRecDepth 100000 in
theorem c_Ro_take (l : Launch) (D : va_G) (cI cJ cZ : ClassId) (ro : Nat) (x : Int) (ra : Nat) (rb : Nat) (rc : Nat) (rd : Nat) (nu : Int) (ct : Int) (rt : Int → Int) (h1 : 0 ≤ x) (h2 : x < 20) : Mi l yqRo_take wsqRo_take rm_Ro_take D cI cJ cZ [.ref ro, .int (iI x)] [(ro, .inr (3, [.ref ra, .ref rb, .ref rc, .ref rd, .int (iI nu), .int (iI ct)])), (ra, .inl (cZ, 20, .inl (ai rt)))] (S := Unit) (fun z _ => True) (fun _ => [(ro, .inr (3, [.ref ra, .ref rb, .ref rc, .ref rd, .int (iI nu), .int (iI (ct - 1))])), (ra, .inl (cZ, 20, .inl (ai (up rt x 0))))]) 0 0 := by
  refine en_i (cc := cqRo_take) (maxL := 2) (ty := .int) (by decide +kernel) rfl (Nat.le_of_ble_eq_true rfl) ?_
  intro p e s m args below meth c A Q hx hb hml hin hts hown hA hP hK hD hN hS hret ls hl
  have hl : lv_has ls 2 [(0, .ref ro), (1, .int (iI x))] := hl
  obtain ⟨H, hH0⟩ : ∃ H, H = s.heap := ⟨_, rfl⟩
  obtain ⟨locs, hL0⟩ : ∃ locs : List Loc, locs = [] := ⟨_, rfl⟩
  rw [← hH0] at hP
  have hS : va_S A s.heap H locs := by rw [hH0, hL0]; exact hS
  have goal : W p l e rm_Ro_take s m args below meth c H locs 0 0 Q (F0 m 0 ls []) := by
    refine lv_aload_n hx hb dqRo_take_0 rfl (lv_at hl 0 rfl) ?_
    refine va_get (D := D) (ci := 3) (v := .ref ra) (C := RqRo) (T := TqRo) (N := 6) hx hb hts (in_c inqRo) hown hK hP 0 rfl rfl 0 (by decide) (hts (.fieldLink RqRo 9 "SpringSpaces$Rods" "there" "[Z") (List.mem_cons_of_mem _ tb_92)) (fun _ h9 => h9) rfl dqRo_take_1 ?_
    refine lv_iload_n hx hb dqRo_take_4 rfl (lv_at hl 1 rfl) ?_
    refine lv_iconst (v := iI 0) hx hb dqRo_take_5 rfl ?_
    refine q_zast (i := x) (x := 0) hx hb hK hP hD hS 1 2 rfl rfl (by omega) (by omega) (by omega) (by omega) dqRo_take_6 (fun H locs hP hD hS => ?_)
    have hP : va_P D vwCl [(ro, .inr (3, [.ref ra, .ref rb, .ref rc, .ref rd, .int (iI nu), .int (iI ct)])), (ra, .inl (cZ, 20, .inl (ai (up rt x 0))))] H := hP
    have hD : va_D A [(ro, .inr (3, [.ref ra, .ref rb, .ref rc, .ref rd, .int (iI nu), .int (iI ct)])), (ra, .inl (cZ, 20, .inl (ai (up rt x 0))))] := hD
    refine lv_aload_n hx hb dqRo_take_7 rfl (lv_at hl 0 rfl) ?_
    refine lv_dup hx hb dqRo_take_8 rfl ?_
    refine va_get (D := D) (ci := 3) (v := .int (iI ct)) (C := RqRo) (T := TqRo) (N := 6) hx hb hts (in_c inqRo) hown hK hP 0 rfl rfl 5 (by decide) (hts (.fieldLink RqRo 29 "SpringSpaces$Rods" "count" "I") (List.mem_cons_of_mem _ tb_97)) (fun _ h9 => h9) rfl dqRo_take_9 ?_
    refine lv_iconst (v := iI 1) hx hb dqRo_take_12 rfl ?_
    refine q_isub hx hb dqRo_take_13 ?_
    refine va_put (D := D) (ci := 3) (v := .int (iI (ct - 1))) (ty := .int) (C := RqRo) (T := TqRo) (N := 6) hx hb hts (in_c inqRo) tyqRo tyqRo_ok nmqRo hown hK hP hD hS 0 rfl rfl 5 (by decide) (hts (.fieldLink RqRo 29 "SpringSpaces$Rods" "count" "I") (List.mem_cons_of_mem _ tb_97)) (fun _ h9 => h9) rfl (by decide +kernel) rfl rfl (Nat.le_of_ble_eq_true rfl) dqRo_take_14 (fun H locs hP hD hS => ?_)
    have hP : va_P D vwCl [(ro, .inr (3, [.ref ra, .ref rb, .ref rc, .ref rd, .int (iI nu), .int (iI (ct - 1))])), (ra, .inl (cZ, 20, .inl (ai (up rt x 0))))] H := hP
    have hD : va_D A [(ro, .inr (3, [.ref ra, .ref rb, .ref rc, .ref rd, .int (iI nu), .int (iI (ct - 1))])), (ra, .inl (cZ, 20, .inl (ai (up rt x 0))))] := hD
    refine lv_aload_n hx hb dqRo_take_17 rfl (lv_at hl 0 rfl) ?_
    refine va_get (D := D) (ci := 3) (v := .int (iI (ct - 1))) (C := RqRo) (T := TqRo) (N := 6) hx hb hts (in_c inqRo) hown hK hP 0 rfl rfl 5 (by decide) (hts (.fieldLink RqRo 29 "SpringSpaces$Rods" "count" "I") (List.mem_cons_of_mem _ tb_97)) (fun _ h9 => h9) rfl dqRo_take_18 ?_
    exact hret H locs _ ls (ct - 1) () rfl hS (by first | rfl | trivial | omega | exact bl_y (by omega) | exact bl_n (by omega) | (apply Or.inl; (and_intros <;> first | rfl | omega)) | (apply Or.inr; apply Or.inl; (and_intros <;> first | rfl | omega)) | (apply Or.inr; (and_intros <;> first | rfl | omega)) | (apply Or.inr; apply Or.inr; apply Or.inl; (and_intros <;> first | rfl | omega)) | (apply Or.inr; apply Or.inr; (and_intros <;> first | rfl | omega)) | (apply Or.inr; apply Or.inr; apply Or.inr; apply Or.inl; (and_intros <;> first | rfl | omega)) | (apply Or.inr; apply Or.inr; apply Or.inr; (and_intros <;> first | rfl | omega)) | (apply Or.inr; apply Or.inr; apply Or.inr; apply Or.inr; apply Or.inl; (and_intros <;> first | rfl | omega)) | (apply Or.inr; apply Or.inr; apply Or.inr; apply Or.inr; (and_intros <;> first | rfl | omega))) hP hD dqRo_take_21
  rw [hH0, hL0] at goal
  exact goal
def rm_Ro_takeAll : Room := { frames := 0, cells := 0, slots := 0, locals := 0 }
set_option maxHeartbeats 4000000 in
set_option maxRecDepth 100000 in
theorem c_Ro_takeAll (l : Launch) (D : va_G) (cI cJ cZ : ClassId) (ro : Nat) (ra : Nat) (rb : Nat) (rc : Nat) (rd : Nat) (nu : Int) (ct : Int) (rt : Int → Int) (h1 : 0 ≤ nu) (h2 : nu ≤ 20) : Mv l yqRo_takeAll wsqRo_takeAll rm_Ro_takeAll D cI cJ cZ [.ref ro] [(ro, .inr (3, [.ref ra, .ref rb, .ref rc, .ref rd, .int (iI nu), .int (iI ct)])), (ra, .inl (cZ, 20, .inl (ai rt)))] (S := (Int → Int)) (fun u => True) (fun u => [(ro, .inr (3, [.ref ra, .ref rb, .ref rc, .ref rd, .int (iI nu), .int (iI 0)])), (ra, .inl (cZ, 20, .inl (ai u)))]) 0 0 := by
  refine en_v (cc := cqRo_takeAll) (maxL := 2) (by decide +kernel) rfl (Nat.le_of_ble_eq_true rfl) ?_
  intro p e s m args below meth c A Q hx hb hml hin hts hown hA hP hK hD hN hS hret ls hl
  have hl : lv_has ls 2 [(0, .ref ro)] := hl
  obtain ⟨H, hH0⟩ : ∃ H, H = s.heap := ⟨_, rfl⟩
  obtain ⟨locs, hL0⟩ : ∃ locs : List Loc, locs = [] := ⟨_, rfl⟩
  rw [← hH0] at hP
  have hS : va_S A s.heap H locs := by rw [hH0, hL0]; exact hS
  have goal : W p l e rm_Ro_takeAll s m args below meth c H locs 0 0 Q (F0 m 0 ls []) := by
    refine lv_iconst (v := iI 0) hx hb dqRo_takeAll_0 rfl ?_
    refine lv_istore_n (lv' := [(1, .int (iI 0)), (0, .ref ro)]) hx hb dqRo_takeAll_1 rfl hl (by decide) rfl (fun ls hl => ?_)
    have loop_2 : ∀ (n9 : Nat), ∀ (k : Int) (r3 : Int → Int) (H : Heap) (locs : List Loc) (ls : Array Slot), (0 ≤ k) → (k ≤ 20) → ((20 - k).toNat < n9) → va_P D vwCl [(ro, .inr (3, [.ref ra, .ref rb, .ref rc, .ref rd, .int (iI nu), .int (iI ct)])), (ra, .inl (cZ, 20, .inl (ai r3)))] H → va_D A [(ro, .inr (3, [.ref ra, .ref rb, .ref rc, .ref rd, .int (iI nu), .int (iI ct)])), (ra, .inl (cZ, 20, .inl (ai r3)))] → va_S A s.heap H locs → lv_has ls 2 [(1, .int (iI k)), (0, .ref ro)] → W p l e rm_Ro_takeAll s m args below meth c H locs 0 0 Q (F0 m 2 ls []) := by
      intro n9
      induction n9 with
      | zero =>
        intro k r3 H locs ls k1 k2 hm9
        exact absurd hm9 (by omega)
      | succ n9 ih_2 =>
        intro k r3 H locs ls k1 k2 hm9 hP hD hS hl
        refine lv_iload_n hx hb dqRo_takeAll_2 rfl (lv_at hl 0 rfl) ?_
        refine lv_aload_n hx hb dqRo_takeAll_3 rfl (lv_at hl 1 rfl) ?_
        refine va_get (D := D) (ci := 3) (v := .int (iI nu)) (C := RqRo) (T := TqRo) (N := 6) hx hb hts (in_c inqRo) hown hK hP 0 rfl rfl 4 (by decide) (hts (.fieldLink RqRo 25 "SpringSpaces$Rods" "numbers" "I") (List.mem_cons_of_mem _ tb_96)) (fun _ h9 => h9) rfl dqRo_takeAll_4 ?_
        refine q_icmp_ge (tgt := 23) hx hb dqRo_takeAll_7 (by decide) (by omega) (by omega) (by omega) (by omega) (fun c_7 => ?_) (fun c_7 => ?_)
        · refine lv_aload_n hx hb dqRo_takeAll_23 rfl (lv_at hl 1 rfl) ?_
          refine lv_iconst (v := iI 0) hx hb dqRo_takeAll_24 rfl ?_
          refine va_put (D := D) (ci := 3) (v := .int (iI 0)) (ty := .int) (C := RqRo) (T := TqRo) (N := 6) hx hb hts (in_c inqRo) tyqRo tyqRo_ok nmqRo hown hK hP hD hS 0 rfl rfl 5 (by decide) (hts (.fieldLink RqRo 29 "SpringSpaces$Rods" "count" "I") (List.mem_cons_of_mem _ tb_97)) (fun _ h9 => h9) rfl (by decide +kernel) rfl rfl (Nat.le_of_ble_eq_true rfl) dqRo_takeAll_25 (fun H locs hP hD hS => ?_)
          have hP : va_P D vwCl [(ro, .inr (3, [.ref ra, .ref rb, .ref rc, .ref rd, .int (iI nu), .int (iI 0)])), (ra, .inl (cZ, 20, .inl (ai r3)))] H := hP
          have hD : va_D A [(ro, .inr (3, [.ref ra, .ref rb, .ref rc, .ref rd, .int (iI nu), .int (iI 0)])), (ra, .inl (cZ, 20, .inl (ai r3)))] := hD
          exact hret H locs _ ls r3 hS (by first | rfl | trivial | omega | exact bl_y (by omega) | exact bl_n (by omega) | (apply Or.inl; (and_intros <;> first | rfl | omega)) | (apply Or.inr; apply Or.inl; (and_intros <;> first | rfl | omega)) | (apply Or.inr; (and_intros <;> first | rfl | omega)) | (apply Or.inr; apply Or.inr; apply Or.inl; (and_intros <;> first | rfl | omega)) | (apply Or.inr; apply Or.inr; (and_intros <;> first | rfl | omega)) | (apply Or.inr; apply Or.inr; apply Or.inr; apply Or.inl; (and_intros <;> first | rfl | omega)) | (apply Or.inr; apply Or.inr; apply Or.inr; (and_intros <;> first | rfl | omega)) | (apply Or.inr; apply Or.inr; apply Or.inr; apply Or.inr; apply Or.inl; (and_intros <;> first | rfl | omega)) | (apply Or.inr; apply Or.inr; apply Or.inr; apply Or.inr; (and_intros <;> first | rfl | omega))) hP hD dqRo_takeAll_28
        · refine lv_aload_n hx hb dqRo_takeAll_10 rfl (lv_at hl 1 rfl) ?_
          refine va_get (D := D) (ci := 3) (v := .ref ra) (C := RqRo) (T := TqRo) (N := 6) hx hb hts (in_c inqRo) hown hK hP 0 rfl rfl 0 (by decide) (hts (.fieldLink RqRo 9 "SpringSpaces$Rods" "there" "[Z") (List.mem_cons_of_mem _ tb_92)) (fun _ h9 => h9) rfl dqRo_takeAll_11 ?_
          refine lv_iload_n hx hb dqRo_takeAll_14 rfl (lv_at hl 0 rfl) ?_
          refine lv_iconst (v := iI 0) hx hb dqRo_takeAll_15 rfl ?_
          refine q_zast (i := k) (x := 0) hx hb hK hP hD hS 1 2 rfl rfl (by omega) (by omega) (by omega) (by omega) dqRo_takeAll_16 (fun H locs hP hD hS => ?_)
          have hP : va_P D vwCl [(ro, .inr (3, [.ref ra, .ref rb, .ref rc, .ref rd, .int (iI nu), .int (iI ct)])), (ra, .inl (cZ, 20, .inl (ai (up r3 k 0))))] H := hP
          have hD : va_D A [(ro, .inr (3, [.ref ra, .ref rb, .ref rc, .ref rd, .int (iI nu), .int (iI ct)])), (ra, .inl (cZ, 20, .inl (ai (up r3 k 0))))] := hD
          refine lv_iinc (v := iI (k + 1)) (lv' := [(1, .int (iI (k + 1))), (0, .ref ro)]) hx hb dqRo_takeAll_17 hl (k := 0) rfl (iI_add _ _) (by decide) rfl (fun ls hl => ?_)
          refine lv_goto (tgt := 2) hx hb dqRo_takeAll_20 (by decide) ?_
          exact ih_2 (k + 1) (up r3 k 0) H locs ls (by omega) (by omega) (by omega) hP hD hS (lv_sub hl [0, 1] rfl)
    exact loop_2 (Int.toNat (20 - 0) + 1) 0 rt H locs ls (by omega) (by omega) (by omega) hP hD hS (lv_sub hl [0, 1] rfl)
  rw [hH0, hL0] at goal
  exact goal
def rm_Ro_fromOf : Room := { frames := 0, cells := 0, slots := 0, locals := 0 }
set_option maxHeartbeats 4000000 in
set_option maxRecDepth 100000 in
theorem c_Ro_fromOf (l : Launch) (D : va_G) (cI cJ cZ : ClassId) (ro : Nat) (x : Int) (ra : Nat) (rb : Nat) (rc : Nat) (rd : Nat) (nu : Int) (ct : Int) (rff : Int → Int) (h1 : 0 ≤ x) (h2 : x < 20) : Mi l yqRo_fromOf wsqRo_fromOf rm_Ro_fromOf D cI cJ cZ [.ref ro, .int (iI x)] [(ro, .inr (3, [.ref ra, .ref rb, .ref rc, .ref rd, .int (iI nu), .int (iI ct)])), (rb, .inl (cI, 20, .inl (ai rff)))] (S := Unit) (fun z _ => z = rff x) (fun _ => [(ro, .inr (3, [.ref ra, .ref rb, .ref rc, .ref rd, .int (iI nu), .int (iI ct)])), (rb, .inl (cI, 20, .inl (ai rff)))]) 0 0 := by
  refine en_i (cc := cqRo_fromOf) (maxL := 2) (ty := .int) (by decide +kernel) rfl (Nat.le_of_ble_eq_true rfl) ?_
  intro p e s m args below meth c A Q hx hb hml hin hts hown hA hP hK hD hN hS hret ls hl
  have hl : lv_has ls 2 [(0, .ref ro), (1, .int (iI x))] := hl
  obtain ⟨H, hH0⟩ : ∃ H, H = s.heap := ⟨_, rfl⟩
  obtain ⟨locs, hL0⟩ : ∃ locs : List Loc, locs = [] := ⟨_, rfl⟩
  rw [← hH0] at hP
  have hS : va_S A s.heap H locs := by rw [hH0, hL0]; exact hS
  have goal : W p l e rm_Ro_fromOf s m args below meth c H locs 0 0 Q (F0 m 0 ls []) := by
    refine lv_aload_n hx hb dqRo_fromOf_0 rfl (lv_at hl 0 rfl) ?_
    refine va_get (D := D) (ci := 3) (v := .ref rb) (C := RqRo) (T := TqRo) (N := 6) hx hb hts (in_c inqRo) hown hK hP 0 rfl rfl 1 (by decide) (hts (.fieldLink RqRo 15 "SpringSpaces$Rods" "froms" "[I") (List.mem_cons_of_mem _ tb_93)) (fun _ h9 => h9) rfl dqRo_fromOf_1 ?_
    refine lv_iload_n hx hb dqRo_fromOf_4 rfl (lv_at hl 1 rfl) ?_
    refine q_iald (i := x) hx hb hK hP 1 0 rfl rfl (by omega) (by omega) (by omega) dqRo_fromOf_5 ?_
    exact hret H locs _ ls (rff x) () rfl hS (by first | rfl | trivial | omega | exact bl_y (by omega) | exact bl_n (by omega) | (apply Or.inl; (and_intros <;> first | rfl | omega)) | (apply Or.inr; apply Or.inl; (and_intros <;> first | rfl | omega)) | (apply Or.inr; (and_intros <;> first | rfl | omega)) | (apply Or.inr; apply Or.inr; apply Or.inl; (and_intros <;> first | rfl | omega)) | (apply Or.inr; apply Or.inr; (and_intros <;> first | rfl | omega)) | (apply Or.inr; apply Or.inr; apply Or.inr; apply Or.inl; (and_intros <;> first | rfl | omega)) | (apply Or.inr; apply Or.inr; apply Or.inr; (and_intros <;> first | rfl | omega)) | (apply Or.inr; apply Or.inr; apply Or.inr; apply Or.inr; apply Or.inl; (and_intros <;> first | rfl | omega)) | (apply Or.inr; apply Or.inr; apply Or.inr; apply Or.inr; (and_intros <;> first | rfl | omega))) hP hD dqRo_fromOf_6
  rw [hH0, hL0] at goal
  exact goal
def rm_Ro_toOf : Room := { frames := 0, cells := 0, slots := 0, locals := 0 }
set_option maxHeartbeats 4000000 in
set_option maxRecDepth 100000 in
theorem c_Ro_toOf (l : Launch) (D : va_G) (cI cJ cZ : ClassId) (ro : Nat) (x : Int) (ra : Nat) (rb : Nat) (rc : Nat) (rd : Nat) (nu : Int) (ct : Int) (rg : Int → Int) (h1 : 0 ≤ x) (h2 : x < 20) : Mi l yqRo_toOf wsqRo_toOf rm_Ro_toOf D cI cJ cZ [.ref ro, .int (iI x)] [(ro, .inr (3, [.ref ra, .ref rb, .ref rc, .ref rd, .int (iI nu), .int (iI ct)])), (rc, .inl (cI, 20, .inl (ai rg)))] (S := Unit) (fun z _ => z = rg x) (fun _ => [(ro, .inr (3, [.ref ra, .ref rb, .ref rc, .ref rd, .int (iI nu), .int (iI ct)])), (rc, .inl (cI, 20, .inl (ai rg)))]) 0 0 := by
  refine en_i (cc := cqRo_toOf) (maxL := 2) (ty := .int) (by decide +kernel) rfl (Nat.le_of_ble_eq_true rfl) ?_
  intro p e s m args below meth c A Q hx hb hml hin hts hown hA hP hK hD hN hS hret ls hl
  have hl : lv_has ls 2 [(0, .ref ro), (1, .int (iI x))] := hl
  obtain ⟨H, hH0⟩ : ∃ H, H = s.heap := ⟨_, rfl⟩
  obtain ⟨locs, hL0⟩ : ∃ locs : List Loc, locs = [] := ⟨_, rfl⟩
  rw [← hH0] at hP
  have hS : va_S A s.heap H locs := by rw [hH0, hL0]; exact hS
  have goal : W p l e rm_Ro_toOf s m args below meth c H locs 0 0 Q (F0 m 0 ls []) := by
    refine lv_aload_n hx hb dqRo_toOf_0 rfl (lv_at hl 0 rfl) ?_
    refine va_get (D := D) (ci := 3) (v := .ref rc) (C := RqRo) (T := TqRo) (N := 6) hx hb hts (in_c inqRo) hown hK hP 0 rfl rfl 2 (by decide) (hts (.fieldLink RqRo 19 "SpringSpaces$Rods" "tos" "[I") (List.mem_cons_of_mem _ tb_94)) (fun _ h9 => h9) rfl dqRo_toOf_1 ?_
    refine lv_iload_n hx hb dqRo_toOf_4 rfl (lv_at hl 1 rfl) ?_
    refine q_iald (i := x) hx hb hK hP 1 0 rfl rfl (by omega) (by omega) (by omega) dqRo_toOf_5 ?_
    exact hret H locs _ ls (rg x) () rfl hS (by first | rfl | trivial | omega | exact bl_y (by omega) | exact bl_n (by omega) | (apply Or.inl; (and_intros <;> first | rfl | omega)) | (apply Or.inr; apply Or.inl; (and_intros <;> first | rfl | omega)) | (apply Or.inr; (and_intros <;> first | rfl | omega)) | (apply Or.inr; apply Or.inr; apply Or.inl; (and_intros <;> first | rfl | omega)) | (apply Or.inr; apply Or.inr; (and_intros <;> first | rfl | omega)) | (apply Or.inr; apply Or.inr; apply Or.inr; apply Or.inl; (and_intros <;> first | rfl | omega)) | (apply Or.inr; apply Or.inr; apply Or.inr; (and_intros <;> first | rfl | omega)) | (apply Or.inr; apply Or.inr; apply Or.inr; apply Or.inr; apply Or.inl; (and_intros <;> first | rfl | omega)) | (apply Or.inr; apply Or.inr; apply Or.inr; apply Or.inr; (and_intros <;> first | rfl | omega))) hP hD dqRo_toOf_6
  rw [hH0, hL0] at goal
  exact goal
def rm_Ro_widthOf : Room := { frames := 0, cells := 0, slots := 0, locals := 0 }
set_option maxHeartbeats 4000000 in
set_option maxRecDepth 100000 in
theorem c_Ro_widthOf (l : Launch) (D : va_G) (cI cJ cZ : ClassId) (ro : Nat) (x : Int) (ra : Nat) (rb : Nat) (rc : Nat) (rd : Nat) (nu : Int) (ct : Int) (rh : Int → Int) (h1 : 0 ≤ x) (h2 : x < 20) : Mi l yqRo_widthOf wsqRo_widthOf rm_Ro_widthOf D cI cJ cZ [.ref ro, .int (iI x)] [(ro, .inr (3, [.ref ra, .ref rb, .ref rc, .ref rd, .int (iI nu), .int (iI ct)])), (rd, .inl (cI, 20, .inl (ai rh)))] (S := Unit) (fun z _ => z = rh x) (fun _ => [(ro, .inr (3, [.ref ra, .ref rb, .ref rc, .ref rd, .int (iI nu), .int (iI ct)])), (rd, .inl (cI, 20, .inl (ai rh)))]) 0 0 := by
  refine en_i (cc := cqRo_widthOf) (maxL := 2) (ty := .int) (by decide +kernel) rfl (Nat.le_of_ble_eq_true rfl) ?_
  intro p e s m args below meth c A Q hx hb hml hin hts hown hA hP hK hD hN hS hret ls hl
  have hl : lv_has ls 2 [(0, .ref ro), (1, .int (iI x))] := hl
  obtain ⟨H, hH0⟩ : ∃ H, H = s.heap := ⟨_, rfl⟩
  obtain ⟨locs, hL0⟩ : ∃ locs : List Loc, locs = [] := ⟨_, rfl⟩
  rw [← hH0] at hP
  have hS : va_S A s.heap H locs := by rw [hH0, hL0]; exact hS
  have goal : W p l e rm_Ro_widthOf s m args below meth c H locs 0 0 Q (F0 m 0 ls []) := by
    refine lv_aload_n hx hb dqRo_widthOf_0 rfl (lv_at hl 0 rfl) ?_
    refine va_get (D := D) (ci := 3) (v := .ref rd) (C := RqRo) (T := TqRo) (N := 6) hx hb hts (in_c inqRo) hown hK hP 0 rfl rfl 3 (by decide) (hts (.fieldLink RqRo 22 "SpringSpaces$Rods" "widths" "[I") (List.mem_cons_of_mem _ tb_95)) (fun _ h9 => h9) rfl dqRo_widthOf_1 ?_
    refine lv_iload_n hx hb dqRo_widthOf_4 rfl (lv_at hl 1 rfl) ?_
    refine q_iald (i := x) hx hb hK hP 1 0 rfl rfl (by omega) (by omega) (by omega) dqRo_widthOf_5 ?_
    exact hret H locs _ ls (rh x) () rfl hS (by first | rfl | trivial | omega | exact bl_y (by omega) | exact bl_n (by omega) | (apply Or.inl; (and_intros <;> first | rfl | omega)) | (apply Or.inr; apply Or.inl; (and_intros <;> first | rfl | omega)) | (apply Or.inr; (and_intros <;> first | rfl | omega)) | (apply Or.inr; apply Or.inr; apply Or.inl; (and_intros <;> first | rfl | omega)) | (apply Or.inr; apply Or.inr; (and_intros <;> first | rfl | omega)) | (apply Or.inr; apply Or.inr; apply Or.inr; apply Or.inl; (and_intros <;> first | rfl | omega)) | (apply Or.inr; apply Or.inr; apply Or.inr; (and_intros <;> first | rfl | omega)) | (apply Or.inr; apply Or.inr; apply Or.inr; apply Or.inr; apply Or.inl; (and_intros <;> first | rfl | omega)) | (apply Or.inr; apply Or.inr; apply Or.inr; apply Or.inr; (and_intros <;> first | rfl | omega))) hP hD dqRo_widthOf_6
  rw [hH0, hL0] at goal
  exact goal
def rm_Ne_note : Room := { frames := 0, cells := 0, slots := 0, locals := 0 }
set_option maxHeartbeats 4000000 in
set_option maxRecDepth 100000 in
theorem c_Ne_note (l : Launch) (D : va_G) (cI cJ cZ : ClassId) (ne : Nat) (f : Int) (g : Int) (x : Int) (na : Nat) (nb : Nat) (nc : Nat) (nk : Int) (nf : Int → Int) (ng : Int → Int) (nw : Int → Int) (h1 : 0 ≤ nk) (h2 : nk ≤ 112) (hN9 : ND nk nf ng) (h4 : 0 ≤ f) (h5 : f < g) (h6 : g ≤ 23) : Mv l yqNe_note wsqNe_note rm_Ne_note D cI cJ cZ [.ref ne, .int (iI f), .int (iI g), .int (iI x)] [(ne, .inr (4, [.ref na, .ref nb, .ref nc, .int (iI nk)])), (na, .inl (cI, 112, .inl (ai nf))), (nb, .inl (cI, 112, .inl (ai ng))), (nc, .inl (cI, 112, .inl (ai nw)))] (S := Int × (Int → Int) × (Int → Int) × (Int → Int)) (fun u => 0 ≤ u.1 ∧ u.1 ≤ 112 ∧ ND u.1 u.2.1 u.2.2.1) (fun u => [(ne, .inr (4, [.ref na, .ref nb, .ref nc, .int (iI u.1)])), (na, .inl (cI, 112, .inl (ai u.2.1))), (nb, .inl (cI, 112, .inl (ai u.2.2.1))), (nc, .inl (cI, 112, .inl (ai u.2.2.2)))]) 0 0 := by
  refine en_v (cc := cqNe_note) (maxL := 4) (by decide +kernel) rfl (Nat.le_of_ble_eq_true rfl) ?_
  intro p e s m args below meth c A Q hx hb hml hin hts hown hA hP hK hD hN hS hret ls hl
  have hl : lv_has ls 4 [(0, .ref ne), (1, .int (iI f)), (2, .int (iI g)), (3, .int (iI x))] := hl
  obtain ⟨H, hH0⟩ : ∃ H, H = s.heap := ⟨_, rfl⟩
  obtain ⟨locs, hL0⟩ : ∃ locs : List Loc, locs = [] := ⟨_, rfl⟩
  rw [← hH0] at hP
  have hS : va_S A s.heap H locs := by rw [hH0, hL0]; exact hS
  have goal : W p l e rm_Ne_note s m args below meth c H locs 0 0 Q (F0 m 0 ls []) := by
    refine lv_aload_n hx hb dqNe_note_0 rfl (lv_at hl 0 rfl) ?_
    refine va_get (D := D) (ci := 4) (v := .int (iI nk)) (C := RqNe) (T := TqNe) (N := 4) hx hb hts (in_c inqNe) hown hK hP 0 rfl rfl 3 (by decide) (hts (.fieldLink RqNe 21 "SpringSpaces$Needs" "count" "I") (List.mem_cons_of_mem _ tb_120)) (fun _ h9 => h9) rfl dqNe_note_1 ?_
    refine lv_bipush (v := iI 112) hx hb dqNe_note_4 (by decide +kernel) ?_
    refine q_icmp_ge (tgt := 49) hx hb dqNe_note_6 (by decide) (by omega) (by omega) (by omega) (by omega) (fun c_6 => ?_) (fun c_6 => ?_)
    · exact hret H locs _ ls (nk, nf, ng, nw) hS (by first | exact ⟨by (try dsimp only); omega, by (try dsimp only); omega, hN9⟩ | exact ⟨by (try dsimp only); omega, by (try dsimp only); omega, hN9.up (by (try dsimp only); omega) (by (try dsimp only); omega) (by (try dsimp only); omega)⟩) hP hD dqNe_note_49
    · refine lv_aload_n hx hb dqNe_note_9 rfl (lv_at hl 0 rfl) ?_
      refine va_get (D := D) (ci := 4) (v := .ref na) (C := RqNe) (T := TqNe) (N := 4) hx hb hts (in_c inqNe) hown hK hP 0 rfl rfl 0 (by decide) (hts (.fieldLink RqNe 9 "SpringSpaces$Needs" "froms" "[I") (List.mem_cons_of_mem _ tb_117)) (fun _ h9 => h9) rfl dqNe_note_10 ?_
      refine lv_aload_n hx hb dqNe_note_13 rfl (lv_at hl 0 rfl) ?_
      refine va_get (D := D) (ci := 4) (v := .int (iI nk)) (C := RqNe) (T := TqNe) (N := 4) hx hb hts (in_c inqNe) hown hK hP 0 rfl rfl 3 (by decide) (hts (.fieldLink RqNe 21 "SpringSpaces$Needs" "count" "I") (List.mem_cons_of_mem _ tb_120)) (fun _ h9 => h9) rfl dqNe_note_14 ?_
      refine lv_iload_n hx hb dqNe_note_17 rfl (lv_at hl 1 rfl) ?_
      refine q_iast (i := nk) (x := f) hx hb hK hP hD hS 1 0 rfl rfl (by omega) (by omega) (by omega) dqNe_note_18 (fun H locs hP hD hS => ?_)
      have hP : va_P D vwCl [(ne, .inr (4, [.ref na, .ref nb, .ref nc, .int (iI nk)])), (na, .inl (cI, 112, .inl (ai (up nf nk f)))), (nb, .inl (cI, 112, .inl (ai ng))), (nc, .inl (cI, 112, .inl (ai nw)))] H := hP
      have hD : va_D A [(ne, .inr (4, [.ref na, .ref nb, .ref nc, .int (iI nk)])), (na, .inl (cI, 112, .inl (ai (up nf nk f)))), (nb, .inl (cI, 112, .inl (ai ng))), (nc, .inl (cI, 112, .inl (ai nw)))] := hD
      refine lv_aload_n hx hb dqNe_note_19 rfl (lv_at hl 0 rfl) ?_
      refine va_get (D := D) (ci := 4) (v := .ref nb) (C := RqNe) (T := TqNe) (N := 4) hx hb hts (in_c inqNe) hown hK hP 0 rfl rfl 1 (by decide) (hts (.fieldLink RqNe 15 "SpringSpaces$Needs" "tos" "[I") (List.mem_cons_of_mem _ tb_118)) (fun _ h9 => h9) rfl dqNe_note_20 ?_
      refine lv_aload_n hx hb dqNe_note_23 rfl (lv_at hl 0 rfl) ?_
      refine va_get (D := D) (ci := 4) (v := .int (iI nk)) (C := RqNe) (T := TqNe) (N := 4) hx hb hts (in_c inqNe) hown hK hP 0 rfl rfl 3 (by decide) (hts (.fieldLink RqNe 21 "SpringSpaces$Needs" "count" "I") (List.mem_cons_of_mem _ tb_120)) (fun _ h9 => h9) rfl dqNe_note_24 ?_
      refine lv_iload_n hx hb dqNe_note_27 rfl (lv_at hl 2 rfl) ?_
      refine q_iast (i := nk) (x := g) hx hb hK hP hD hS 2 0 rfl rfl (by omega) (by omega) (by omega) dqNe_note_28 (fun H locs hP hD hS => ?_)
      have hP : va_P D vwCl [(ne, .inr (4, [.ref na, .ref nb, .ref nc, .int (iI nk)])), (na, .inl (cI, 112, .inl (ai (up nf nk f)))), (nb, .inl (cI, 112, .inl (ai (up ng nk g)))), (nc, .inl (cI, 112, .inl (ai nw)))] H := hP
      have hD : va_D A [(ne, .inr (4, [.ref na, .ref nb, .ref nc, .int (iI nk)])), (na, .inl (cI, 112, .inl (ai (up nf nk f)))), (nb, .inl (cI, 112, .inl (ai (up ng nk g)))), (nc, .inl (cI, 112, .inl (ai nw)))] := hD
      refine lv_aload_n hx hb dqNe_note_29 rfl (lv_at hl 0 rfl) ?_
      refine va_get (D := D) (ci := 4) (v := .ref nc) (C := RqNe) (T := TqNe) (N := 4) hx hb hts (in_c inqNe) hown hK hP 0 rfl rfl 2 (by decide) (hts (.fieldLink RqNe 18 "SpringSpaces$Needs" "widths" "[I") (List.mem_cons_of_mem _ tb_119)) (fun _ h9 => h9) rfl dqNe_note_30 ?_
      refine lv_aload_n hx hb dqNe_note_33 rfl (lv_at hl 0 rfl) ?_
      refine va_get (D := D) (ci := 4) (v := .int (iI nk)) (C := RqNe) (T := TqNe) (N := 4) hx hb hts (in_c inqNe) hown hK hP 0 rfl rfl 3 (by decide) (hts (.fieldLink RqNe 21 "SpringSpaces$Needs" "count" "I") (List.mem_cons_of_mem _ tb_120)) (fun _ h9 => h9) rfl dqNe_note_34 ?_
      refine lv_iload_n hx hb dqNe_note_37 rfl (lv_at hl 3 rfl) ?_
      refine q_iast (i := nk) (x := x) hx hb hK hP hD hS 3 0 rfl rfl (by omega) (by omega) (by omega) dqNe_note_38 (fun H locs hP hD hS => ?_)
      have hP : va_P D vwCl [(ne, .inr (4, [.ref na, .ref nb, .ref nc, .int (iI nk)])), (na, .inl (cI, 112, .inl (ai (up nf nk f)))), (nb, .inl (cI, 112, .inl (ai (up ng nk g)))), (nc, .inl (cI, 112, .inl (ai (up nw nk x))))] H := hP
      have hD : va_D A [(ne, .inr (4, [.ref na, .ref nb, .ref nc, .int (iI nk)])), (na, .inl (cI, 112, .inl (ai (up nf nk f)))), (nb, .inl (cI, 112, .inl (ai (up ng nk g)))), (nc, .inl (cI, 112, .inl (ai (up nw nk x))))] := hD
      refine lv_aload_n hx hb dqNe_note_39 rfl (lv_at hl 0 rfl) ?_
      refine lv_dup hx hb dqNe_note_40 rfl ?_
      refine va_get (D := D) (ci := 4) (v := .int (iI nk)) (C := RqNe) (T := TqNe) (N := 4) hx hb hts (in_c inqNe) hown hK hP 0 rfl rfl 3 (by decide) (hts (.fieldLink RqNe 21 "SpringSpaces$Needs" "count" "I") (List.mem_cons_of_mem _ tb_120)) (fun _ h9 => h9) rfl dqNe_note_41 ?_
      refine lv_iconst (v := iI 1) hx hb dqNe_note_44 rfl ?_
      refine q_iadd hx hb dqNe_note_45 ?_
      refine va_put (D := D) (ci := 4) (v := .int (iI (nk + 1))) (ty := .int) (C := RqNe) (T := TqNe) (N := 4) hx hb hts (in_c inqNe) tyqNe tyqNe_ok nmqNe hown hK hP hD hS 0 rfl rfl 3 (by decide) (hts (.fieldLink RqNe 21 "SpringSpaces$Needs" "count" "I") (List.mem_cons_of_mem _ tb_120)) (fun _ h9 => h9) rfl (by decide +kernel) rfl rfl (Nat.le_of_ble_eq_true rfl) dqNe_note_46 (fun H locs hP hD hS => ?_)
      have hP : va_P D vwCl [(ne, .inr (4, [.ref na, .ref nb, .ref nc, .int (iI (nk + 1))])), (na, .inl (cI, 112, .inl (ai (up nf nk f)))), (nb, .inl (cI, 112, .inl (ai (up ng nk g)))), (nc, .inl (cI, 112, .inl (ai (up nw nk x))))] H := hP
      have hD : va_D A [(ne, .inr (4, [.ref na, .ref nb, .ref nc, .int (iI (nk + 1))])), (na, .inl (cI, 112, .inl (ai (up nf nk f)))), (nb, .inl (cI, 112, .inl (ai (up ng nk g)))), (nc, .inl (cI, 112, .inl (ai (up nw nk x))))] := hD
      exact hret H locs _ ls (nk + 1, up nf nk f, up ng nk g, up nw nk x) hS (by first | exact ⟨by (try dsimp only); omega, by (try dsimp only); omega, hN9⟩ | exact ⟨by (try dsimp only); omega, by (try dsimp only); omega, hN9.up (by (try dsimp only); omega) (by (try dsimp only); omega) (by (try dsimp only); omega)⟩) hP hD dqNe_note_49
  rw [hH0, hL0] at goal
  exact goal
def rm_Ne_gatherStaff : Room := { frames := 2, cells := 0, slots := 0, locals := 43 }
set_option maxHeartbeats 4000000 in
set_option maxRecDepth 100000 in
theorem c_Ne_gatherStaff (l : Launch) (D : va_G) (cI cJ cZ : ClassId) (ne : Nat) (it : Nat) (st : Int) (cs : Int) (na : Nat) (nb : Nat) (nc : Nat) (nk : Int) (nf : Int → Int) (ng : Int → Int) (nw : Int → Int) (ia : Nat) (ib : Nat) (ic : Nat) (hf : Int → Int) (ef : Int → Int) (gf : Int → Int) (h1 : 0 ≤ nk) (h2 : nk ≤ 112) (hN9 : ND nk nf ng) (h4 : 0 ≤ st) (h5 : st ≤ 3) (h6 : 0 ≤ cs) (h7 : cs ≤ 24) (hB : B01 96 hf) : Mv l yqNe_gatherStaff wsqNe_gatherStaff rm_Ne_gatherStaff D cI cJ cZ [.ref ne, .ref it, .int (iI st), .int (iI cs)] [(ne, .inr (4, [.ref na, .ref nb, .ref nc, .int (iI nk)])), (na, .inl (cI, 112, .inl (ai nf))), (nb, .inl (cI, 112, .inl (ai ng))), (nc, .inl (cI, 112, .inl (ai nw))), (it, .inr (2, [.ref ia, .ref ib, .ref ic])), (ia, .inl (cZ, 96, .inl (ai hf))), (ib, .inl (cI, 96, .inl (ai ef))), (ic, .inl (cI, 96, .inl (ai gf)))] (S := Int × (Int → Int) × (Int → Int) × (Int → Int)) (fun u => 0 ≤ u.1 ∧ u.1 ≤ 112 ∧ ND u.1 u.2.1 u.2.2.1) (fun u => [(ne, .inr (4, [.ref na, .ref nb, .ref nc, .int (iI u.1)])), (na, .inl (cI, 112, .inl (ai u.2.1))), (nb, .inl (cI, 112, .inl (ai u.2.2.1))), (nc, .inl (cI, 112, .inl (ai u.2.2.2))), (it, .inr (2, [.ref ia, .ref ib, .ref ic])), (ia, .inl (cZ, 96, .inl (ai hf))), (ib, .inl (cI, 96, .inl (ai ef))), (ic, .inl (cI, 96, .inl (ai gf)))]) 0 0 := by
  refine en_v (cc := cqNe_gatherStaff) (maxL := 7) (by decide +kernel) rfl (Nat.le_of_ble_eq_true rfl) ?_
  intro p e s m args below meth c A Q hx hb hml hin hts hown hA hP hK hD hN hS hret ls hl
  have hl : lv_has ls 7 [(0, .ref ne), (1, .ref it), (2, .int (iI st)), (3, .int (iI cs))] := hl
  obtain ⟨H, hH0⟩ : ∃ H, H = s.heap := ⟨_, rfl⟩
  obtain ⟨locs, hL0⟩ : ∃ locs : List Loc, locs = [] := ⟨_, rfl⟩
  rw [← hH0] at hP
  have hS : va_S A s.heap H locs := by rw [hH0, hL0]; exact hS
  have goal : W p l e rm_Ne_gatherStaff s m args below meth c H locs 0 0 Q (F0 m 0 ls []) := by
    refine lv_iconst (v := iI (-1)) hx hb dqNe_gatherStaff_0 rfl ?_
    refine lv_istore (lv' := [(4, .int (iI (-1))), (0, .ref ne), (1, .ref it), (2, .int (iI st)), (3, .int (iI cs))]) hx hb dqNe_gatherStaff_1 hl (by decide) rfl (fun ls hl => ?_)
    refine lv_iconst (v := iI 0) hx hb dqNe_gatherStaff_3 rfl ?_
    refine lv_istore (lv' := [(5, .int (iI 0)), (4, .int (iI (-1))), (0, .ref ne), (1, .ref it), (2, .int (iI st)), (3, .int (iI cs))]) hx hb dqNe_gatherStaff_4 hl (by decide) rfl (fun ls hl => ?_)
    have loop_6 : ∀ (n9 : Nat), ∀ (bf0 : Int) (k : Int) (nk3 : Int) (nf3 : Int → Int) (ng3 : Int → Int) (nw3 : Int → Int) (H : Heap) (locs : List Loc) (ls : Array Slot), (-1 ≤ bf0) → (bf0 < k) → (0 ≤ k) → (k ≤ 24) → (0 ≤ nk3) → (nk3 ≤ 112) → (ND nk3 nf3 ng3) → ((cs - k).toNat < n9) → va_P D vwCl [(ne, .inr (4, [.ref na, .ref nb, .ref nc, .int (iI nk3)])), (na, .inl (cI, 112, .inl (ai nf3))), (nb, .inl (cI, 112, .inl (ai ng3))), (nc, .inl (cI, 112, .inl (ai nw3))), (it, .inr (2, [.ref ia, .ref ib, .ref ic])), (ia, .inl (cZ, 96, .inl (ai hf))), (ib, .inl (cI, 96, .inl (ai ef))), (ic, .inl (cI, 96, .inl (ai gf)))] H → va_D A [(ne, .inr (4, [.ref na, .ref nb, .ref nc, .int (iI nk3)])), (na, .inl (cI, 112, .inl (ai nf3))), (nb, .inl (cI, 112, .inl (ai ng3))), (nc, .inl (cI, 112, .inl (ai nw3))), (it, .inr (2, [.ref ia, .ref ib, .ref ic])), (ia, .inl (cZ, 96, .inl (ai hf))), (ib, .inl (cI, 96, .inl (ai ef))), (ic, .inl (cI, 96, .inl (ai gf)))] → va_S A s.heap H locs → lv_has ls 7 [(5, .int (iI k)), (4, .int (iI bf0)), (0, .ref ne), (1, .ref it), (2, .int (iI st)), (3, .int (iI cs))] → W p l e rm_Ne_gatherStaff s m args below meth c H locs 0 0 Q (F0 m 6 ls []) := by
      intro n9
      induction n9 with
      | zero =>
        intro bf0 k nk3 nf3 ng3 nw3 H locs ls q1 q2 k1 k2 q3 q4 q5 hm9
        exact absurd hm9 (by omega)
      | succ n9 ih_6 =>
        intro bf0 k nk3 nf3 ng3 nw3 H locs ls q1 q2 k1 k2 q3 q4 q5 hm9 hP hD hS hl
        refine lv_iload hx hb dqNe_gatherStaff_6 (lv_at hl 0 rfl) ?_
        refine lv_iload_n hx hb dqNe_gatherStaff_8 rfl (lv_at hl 5 rfl) ?_
        refine q_icmp_ge (tgt := 64) hx hb dqNe_gatherStaff_9 (by decide) (by omega) (by omega) (by omega) (by omega) (fun c_9 => ?_) (fun c_9 => ?_)
        · exact hret H locs _ ls (nk3, nf3, ng3, nw3) hS (⟨q3, q4, q5⟩) hP hD dqNe_gatherStaff_64
        · refine lv_aload_n hx hb dqNe_gatherStaff_12 rfl (lv_at hl 3 rfl) ?_
          refine lv_iload_n hx hb dqNe_gatherStaff_13 rfl (lv_at hl 4 rfl) ?_
          refine lv_iload hx hb dqNe_gatherStaff_14 (lv_at hl 0 rfl) ?_
          refine af_i (wr := [(ne, .inr (4, [.ref na, .ref nb, .ref nc, .int (iI nk3)])), (na, .inl (cI, 112, .inl (ai nf3))), (nb, .inl (cI, 112, .inl (ai ng3))), (nc, .inl (cI, 112, .inl (ai nw3))), (ib, .inl (cI, 96, .inl (ai ef))), (ic, .inl (cI, 96, .inl (ai gf)))]) (va_runV (As := [.int (iI st), .int (iI k)]) (rest := []) ⟨hx, hb, hml, hown, hts⟩ (c_It_have l D cI cJ cZ it st k ia ib ic hf (by omega) (by omega) (by omega) (by omega) hB H.size) (cwV 2 hts (gi_V tb_380 tb_313 tb_314 tb_27 tb_315) rfl rfl rfl (by decide +kernel) ⟨Nat.le_of_ble_eq_true rfl, Nat.le_of_ble_eq_true rfl⟩) (pre_V (ci := 2) (q0 := 4) hK hN hP hD [4, 5] rfl rfl rfl rfl) rfl rfl hl.1 rfl (lv_room (Nat.le_of_ble_eq_true rfl)) dqNe_gatherStaff_16 ⟨by first | omega | decide, by first | omega | decide⟩) hA hP hD hS [4, 5] [0, 1, 2, 3, 6, 7] rfl rfl (by decide +kernel) (by decide +kernel) (fun z1 u2 H locs hw_z1 hP hD hS => ?_)
          have hP : va_P D vwCl [(ne, .inr (4, [.ref na, .ref nb, .ref nc, .int (iI nk3)])), (na, .inl (cI, 112, .inl (ai nf3))), (nb, .inl (cI, 112, .inl (ai ng3))), (nc, .inl (cI, 112, .inl (ai nw3))), (it, .inr (2, [.ref ia, .ref ib, .ref ic])), (ia, .inl (cZ, 96, .inl (ai hf))), (ib, .inl (cI, 96, .inl (ai ef))), (ic, .inl (cI, 96, .inl (ai gf)))] H := hP.sub [0, 1, 2, 3, 6, 7, 4, 5] rfl
          have hD : va_D A [(ne, .inr (4, [.ref na, .ref nb, .ref nc, .int (iI nk3)])), (na, .inl (cI, 112, .inl (ai nf3))), (nb, .inl (cI, 112, .inl (ai ng3))), (nc, .inl (cI, 112, .inl (ai nw3))), (it, .inr (2, [.ref ia, .ref ib, .ref ic])), (ia, .inl (cZ, 96, .inl (ai hf))), (ib, .inl (cI, 96, .inl (ai ef))), (ic, .inl (cI, 96, .inl (ai gf)))] := hD.sub [0, 1, 2, 3, 6, 7, 4, 5] (by decide +kernel) rfl
          have hw_z1 : hf (st * 24 + k) = z1 := Eq.symm hw_z1
          subst hw_z1
          refine q_ifw_eq (tgt := 58) hx hb dqNe_gatherStaff_19 (by decide) ?_ ?_
          · refine lv_iinc (v := iI (k + 1)) (lv' := [(5, .int (iI (k + 1))), (4, .int (iI bf0)), (0, .ref ne), (1, .ref it), (2, .int (iI st)), (3, .int (iI cs))]) hx hb dqNe_gatherStaff_58 hl (k := 0) rfl (iI_add _ _) (by decide) rfl (fun ls hl => ?_)
            refine lv_goto (tgt := 6) hx hb dqNe_gatherStaff_61 (by decide) ?_
            exact ih_6 bf0 (k + 1) nk3 nf3 ng3 nw3 H locs ls (by omega) (by omega) (by omega) (by omega) (by omega) (by omega) (by first | exact q5 | assumption) (by omega) hP hD hS (lv_sub hl [0, 1, 2, 3, 4, 5] rfl)
          · refine lv_iload hx hb dqNe_gatherStaff_22 (lv_at hl 1 rfl) ?_
            refine q_if_lt (tgt := 54) hx hb dqNe_gatherStaff_24 (by decide) (by omega) (by omega) (fun c_24 => ?_) (fun c_24 => ?_)
            · refine lv_iload hx hb dqNe_gatherStaff_54 (lv_at hl 0 rfl) ?_
              refine lv_istore (lv' := [(4, .int (iI k)), (5, .int (iI k)), (0, .ref ne), (1, .ref it), (2, .int (iI st)), (3, .int (iI cs))]) hx hb dqNe_gatherStaff_56 hl (by decide) rfl (fun ls hl => ?_)
              refine lv_iinc (v := iI (k + 1)) (lv' := [(5, .int (iI (k + 1))), (4, .int (iI k)), (0, .ref ne), (1, .ref it), (2, .int (iI st)), (3, .int (iI cs))]) hx hb dqNe_gatherStaff_58 hl (k := 1) rfl (iI_add _ _) (by decide) rfl (fun ls hl => ?_)
              refine lv_goto (tgt := 6) hx hb dqNe_gatherStaff_61 (by decide) ?_
              exact ih_6 k (k + 1) nk3 nf3 ng3 nw3 H locs ls (by omega) (by omega) (by omega) (by omega) (by omega) (by omega) (by first | exact q5 | assumption) (by omega) hP hD hS (lv_sub hl [0, 1, 2, 3, 4, 5] rfl)
            · refine lv_aload_n hx hb dqNe_gatherStaff_27 rfl (lv_at hl 3 rfl) ?_
              refine lv_iload_n hx hb dqNe_gatherStaff_28 rfl (lv_at hl 4 rfl) ?_
              refine lv_iload hx hb dqNe_gatherStaff_29 (lv_at hl 1 rfl) ?_
              refine af_i (wr := [(ne, .inr (4, [.ref na, .ref nb, .ref nc, .int (iI nk3)])), (na, .inl (cI, 112, .inl (ai nf3))), (nb, .inl (cI, 112, .inl (ai ng3))), (nc, .inl (cI, 112, .inl (ai nw3))), (ia, .inl (cZ, 96, .inl (ai hf))), (ib, .inl (cI, 96, .inl (ai ef)))]) (va_runV (As := [.int (iI st), .int (iI bf0)]) (rest := []) ⟨hx, hb, hml, hown, hts⟩ (c_It_rightOf l D cI cJ cZ it st bf0 ia ib ic gf (by omega) (by omega) (by omega) (by omega) H.size) (cwV 2 hts (gi_V tb_381 tb_382 tb_383 tb_27 tb_384) rfl rfl rfl (by decide +kernel) ⟨Nat.le_of_ble_eq_true rfl, Nat.le_of_ble_eq_true rfl⟩) (pre_V (ci := 2) (q0 := 4) hK hN hP hD [4, 7] rfl rfl rfl rfl) rfl rfl hl.1 rfl (lv_room (Nat.le_of_ble_eq_true rfl)) dqNe_gatherStaff_31 ⟨by first | omega | decide, by first | omega | decide⟩) hA hP hD hS [4, 7] [0, 1, 2, 3, 5, 6] rfl rfl (by decide +kernel) (by decide +kernel) (fun z3 u4 H locs hw_z3 hP hD hS => ?_)
              have hP : va_P D vwCl [(ne, .inr (4, [.ref na, .ref nb, .ref nc, .int (iI nk3)])), (na, .inl (cI, 112, .inl (ai nf3))), (nb, .inl (cI, 112, .inl (ai ng3))), (nc, .inl (cI, 112, .inl (ai nw3))), (it, .inr (2, [.ref ia, .ref ib, .ref ic])), (ia, .inl (cZ, 96, .inl (ai hf))), (ib, .inl (cI, 96, .inl (ai ef))), (ic, .inl (cI, 96, .inl (ai gf)))] H := hP.sub [0, 1, 2, 3, 6, 4, 5, 7] rfl
              have hD : va_D A [(ne, .inr (4, [.ref na, .ref nb, .ref nc, .int (iI nk3)])), (na, .inl (cI, 112, .inl (ai nf3))), (nb, .inl (cI, 112, .inl (ai ng3))), (nc, .inl (cI, 112, .inl (ai nw3))), (it, .inr (2, [.ref ia, .ref ib, .ref ic])), (ia, .inl (cZ, 96, .inl (ai hf))), (ib, .inl (cI, 96, .inl (ai ef))), (ic, .inl (cI, 96, .inl (ai gf)))] := hD.sub [0, 1, 2, 3, 6, 4, 5, 7] (by decide +kernel) rfl
              have hw_z3 : gf (st * 24 + bf0) = z3 := Eq.symm hw_z3
              subst hw_z3
              refine lv_aload_n hx hb dqNe_gatherStaff_34 rfl (lv_at hl 3 rfl) ?_
              refine lv_iload_n hx hb dqNe_gatherStaff_35 rfl (lv_at hl 4 rfl) ?_
              refine lv_iload hx hb dqNe_gatherStaff_36 (lv_at hl 0 rfl) ?_
              refine af_i (wr := [(ne, .inr (4, [.ref na, .ref nb, .ref nc, .int (iI nk3)])), (na, .inl (cI, 112, .inl (ai nf3))), (nb, .inl (cI, 112, .inl (ai ng3))), (nc, .inl (cI, 112, .inl (ai nw3))), (ia, .inl (cZ, 96, .inl (ai hf))), (ic, .inl (cI, 96, .inl (ai gf)))]) (va_runV (As := [.int (iI st), .int (iI k)]) (rest := [.int (iI (gf (st * 24 + bf0)))]) ⟨hx, hb, hml, hown, hts⟩ (c_It_leftOf l D cI cJ cZ it st k ia ib ic ef (by omega) (by omega) (by omega) (by omega) H.size) (cwV 2 hts (gi_V tb_385 tb_386 tb_387 tb_27 tb_388) rfl rfl rfl (by decide +kernel) ⟨Nat.le_of_ble_eq_true rfl, Nat.le_of_ble_eq_true rfl⟩) (pre_V (ci := 2) (q0 := 4) hK hN hP hD [4, 6] rfl rfl rfl rfl) rfl rfl hl.1 rfl (lv_room (Nat.le_of_ble_eq_true rfl)) dqNe_gatherStaff_38 ⟨by first | omega | decide, by first | omega | decide⟩) hA hP hD hS [4, 6] [0, 1, 2, 3, 5, 7] rfl rfl (by decide +kernel) (by decide +kernel) (fun z5 u6 H locs hw_z5 hP hD hS => ?_)
              have hP : va_P D vwCl [(ne, .inr (4, [.ref na, .ref nb, .ref nc, .int (iI nk3)])), (na, .inl (cI, 112, .inl (ai nf3))), (nb, .inl (cI, 112, .inl (ai ng3))), (nc, .inl (cI, 112, .inl (ai nw3))), (it, .inr (2, [.ref ia, .ref ib, .ref ic])), (ia, .inl (cZ, 96, .inl (ai hf))), (ib, .inl (cI, 96, .inl (ai ef))), (ic, .inl (cI, 96, .inl (ai gf)))] H := hP.sub [0, 1, 2, 3, 6, 4, 7, 5] rfl
              have hD : va_D A [(ne, .inr (4, [.ref na, .ref nb, .ref nc, .int (iI nk3)])), (na, .inl (cI, 112, .inl (ai nf3))), (nb, .inl (cI, 112, .inl (ai ng3))), (nc, .inl (cI, 112, .inl (ai nw3))), (it, .inr (2, [.ref ia, .ref ib, .ref ic])), (ia, .inl (cZ, 96, .inl (ai hf))), (ib, .inl (cI, 96, .inl (ai ef))), (ic, .inl (cI, 96, .inl (ai gf)))] := hD.sub [0, 1, 2, 3, 6, 4, 7, 5] (by decide +kernel) rfl
              have hw_z5 : ef (st * 24 + k) = z5 := Eq.symm hw_z5
              subst hw_z5
              refine q_iadd hx hb dqNe_gatherStaff_41 ?_
              refine lv_istore (lv' := [(6, .int (iI ((gf (st * 24 + bf0)) + (ef (st * 24 + k))))), (5, .int (iI k)), (4, .int (iI bf0)), (0, .ref ne), (1, .ref it), (2, .int (iI st)), (3, .int (iI cs))]) hx hb dqNe_gatherStaff_42 hl (by decide) rfl (fun ls hl => ?_)
              refine lv_aload_n hx hb dqNe_gatherStaff_44 rfl (lv_at hl 3 rfl) ?_
              refine lv_iload hx hb dqNe_gatherStaff_45 (lv_at hl 2 rfl) ?_
              refine lv_iload hx hb dqNe_gatherStaff_47 (lv_at hl 1 rfl) ?_
              refine lv_iload hx hb dqNe_gatherStaff_49 (lv_at hl 0 rfl) ?_
              refine af_v (wr := [(it, .inr (2, [.ref ia, .ref ib, .ref ic])), (ia, .inl (cZ, 96, .inl (ai hf))), (ib, .inl (cI, 96, .inl (ai ef))), (ic, .inl (cI, 96, .inl (ai gf)))]) (va_runV (As := [.int (iI bf0), .int (iI k), .int (iI ((gf (st * 24 + bf0)) + (ef (st * 24 + k))))]) (rest := []) ⟨hx, hb, hml, hown, hts⟩ (c_Ne_note l D cI cJ cZ ne bf0 k ((gf (st * 24 + bf0)) + (ef (st * 24 + k))) na nb nc nk3 nf3 ng3 nw3 (by omega) (by omega) q5 (by omega) (by omega) (by omega) H.size) (cwV 3 hts (gi_V tb_389 tb_391 tb_3 tb_29 tb_392) rfl rfl rfl (by decide +kernel) ⟨Nat.le_of_ble_eq_true rfl, Nat.le_of_ble_eq_true rfl⟩) (pre_V (ci := 4) (q0 := 0) hK hN hP hD [0, 1, 2, 3] rfl rfl rfl rfl) rfl rfl hl.1 rfl (lv_room (Nat.le_of_ble_eq_true rfl)) dqNe_gatherStaff_51 ⟨by first | omega | decide, by first | omega | decide⟩) hA hP hD hS [0, 1, 2, 3] [4, 5, 6, 7] rfl rfl (by decide +kernel) (by decide +kernel) (fun u8 H locs hw_z7 hP hD hS => ?_)
              obtain ⟨nk2_9, nf2_10, ng2_11, nw2_12⟩ := u8
              have hP : va_P D vwCl [(ne, .inr (4, [.ref na, .ref nb, .ref nc, .int (iI nk2_9)])), (na, .inl (cI, 112, .inl (ai nf2_10))), (nb, .inl (cI, 112, .inl (ai ng2_11))), (nc, .inl (cI, 112, .inl (ai nw2_12))), (it, .inr (2, [.ref ia, .ref ib, .ref ic])), (ia, .inl (cZ, 96, .inl (ai hf))), (ib, .inl (cI, 96, .inl (ai ef))), (ic, .inl (cI, 96, .inl (ai gf)))] H := hP.sub [4, 5, 6, 7, 0, 1, 2, 3] rfl
              have hD : va_D A [(ne, .inr (4, [.ref na, .ref nb, .ref nc, .int (iI nk2_9)])), (na, .inl (cI, 112, .inl (ai nf2_10))), (nb, .inl (cI, 112, .inl (ai ng2_11))), (nc, .inl (cI, 112, .inl (ai nw2_12))), (it, .inr (2, [.ref ia, .ref ib, .ref ic])), (ia, .inl (cZ, 96, .inl (ai hf))), (ib, .inl (cI, 96, .inl (ai ef))), (ic, .inl (cI, 96, .inl (ai gf)))] := hD.sub [4, 5, 6, 7, 0, 1, 2, 3] (by decide +kernel) rfl
              have hw_z7 : 0 ≤ nk2_9 ∧ nk2_9 ≤ 112 ∧ ND nk2_9 nf2_10 ng2_11 := hw_z7
              obtain ⟨o1, o2, o3⟩ := hw_z7
              refine lv_iload hx hb dqNe_gatherStaff_54 (lv_at hl 1 rfl) ?_
              refine lv_istore (lv' := [(4, .int (iI k)), (6, .int (iI ((gf (st * 24 + bf0)) + (ef (st * 24 + k))))), (5, .int (iI k)), (0, .ref ne), (1, .ref it), (2, .int (iI st)), (3, .int (iI cs))]) hx hb dqNe_gatherStaff_56 hl (by decide) rfl (fun ls hl => ?_)
              refine lv_iinc (v := iI (k + 1)) (lv' := [(5, .int (iI (k + 1))), (4, .int (iI k)), (6, .int (iI ((gf (st * 24 + bf0)) + (ef (st * 24 + k))))), (0, .ref ne), (1, .ref it), (2, .int (iI st)), (3, .int (iI cs))]) hx hb dqNe_gatherStaff_58 hl (k := 2) rfl (iI_add _ _) (by decide) rfl (fun ls hl => ?_)
              refine lv_goto (tgt := 6) hx hb dqNe_gatherStaff_61 (by decide) ?_
              exact ih_6 k (k + 1) nk2_9 nf2_10 ng2_11 nw2_12 H locs ls (by omega) (by omega) (by omega) (by omega) (by omega) (by omega) (by first | exact q5 | assumption) (by omega) hP hD hS (lv_sub hl [0, 1, 3, 4, 5, 6] rfl)
    exact loop_6 (Int.toNat (cs - 0) + 1) (-1) 0 nk nf ng nw H locs ls (by omega) (by omega) (by omega) (by omega) (by omega) (by omega) hN9 (by omega) hP hD hS (lv_sub hl [0, 1, 2, 3, 4, 5] rfl)
  rw [hH0, hL0] at goal
  exact goal
