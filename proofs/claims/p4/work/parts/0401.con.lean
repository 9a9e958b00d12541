def rm_Co_append : Room := { frames := 0, cells := 0, slots := 0, locals := 0 }
set_option maxHeartbeats 4000000 in
set_option maxRecDepth 100000 in
theorem c_Co_append (l : Launch) (D : va_G) (cI cJ cZ : ClassId) (co : Nat) (x : Int) (tm : Nat) (lw : Nat) (br : Nat) (n : Int) (b : Int) (mo : Int) (tf : Int → Int) (lf : Int → Int) (bf : Int → Int) (h1 : 0 ≤ n) (h2 : n < 24) : Mi l yqCo_append wsqCo_append rm_Co_append D cI cJ cZ [.ref co, .int (iI x)] [(co, .inr (1, [.ref tm, .ref lw, .ref br, .int (iI n), .int (iI b), .int (iI mo)])), (tm, .inl (cI, 24, .inl (ai tf))), (lw, .inl (cI, 24, .inl (ai lf))), (br, .inl (cZ, 24, .inl (ai bf)))] (S := Unit) (fun z _ => z = n) (fun _ => [(co, .inr (1, [.ref tm, .ref lw, .ref br, .int (iI (n + 1)), .int (iI b), .int (iI mo)])), (tm, .inl (cI, 24, .inl (ai (up tf n x)))), (lw, .inl (cI, 24, .inl (ai (up lf n 0)))), (br, .inl (cZ, 24, .inl (ai (up bf n 0))))]) 0 0 := by
  refine en_i (cc := cqCo_append) (maxL := 3) (ty := .int) (by decide +kernel) rfl (Nat.le_of_ble_eq_true rfl) ?_
  intro p e s m args below meth c A Q hx hb hml hin hts hown hA hP hK hD hN hS hret ls hl
  have hl : lv_has ls 3 [(0, .ref co), (1, .int (iI x))] := hl
  obtain ⟨H, hH0⟩ : ∃ H, H = s.heap := ⟨_, rfl⟩
  obtain ⟨locs, hL0⟩ : ∃ locs : List Loc, locs = [] := ⟨_, rfl⟩
  rw [← hH0] at hP
  have hS : va_S A s.heap H locs := by rw [hH0, hL0]; exact hS
  have goal : W p l e rm_Co_append s m args below meth c H locs 0 0 Q (F0 m 0 ls []) := by
    refine lv_aload_n hx hb dqCo_append_0 rfl (lv_at hl 0 rfl) ?_
    refine va_get (D := D) (ci := 1) (v := .int (iI n)) (C := RqCo) (T := TqCo) (N := 6) hx hb hts (in_c inqCo) hown hK hP 0 rfl rfl 3 (by decide) (hts (.fieldLink RqCo 22 "SpringSpaces$Columns" "count" "I") (List.mem_cons_of_mem _ tb_52)) (fun _ h9 => h9) rfl dqCo_append_1 ?_
    refine lv_istore_n (lv' := [(2, .int (iI n)), (0, .ref co), (1, .int (iI x))]) hx hb dqCo_append_4 rfl hl (by decide) rfl (fun ls hl => ?_)
    refine lv_aload_n hx hb dqCo_append_5 rfl (lv_at hl 1 rfl) ?_
    refine va_get (D := D) (ci := 1) (v := .ref tm) (C := RqCo) (T := TqCo) (N := 6) hx hb hts (in_c inqCo) hown hK hP 0 rfl rfl 0 (by decide) (hts (.fieldLink RqCo 9 "SpringSpaces$Columns" "times" "[I") (List.mem_cons_of_mem _ tb_49)) (fun _ h9 => h9) rfl dqCo_append_6 ?_
    refine lv_iload_n hx hb dqCo_append_9 rfl (lv_at hl 0 rfl) ?_
    refine lv_iload_n hx hb dqCo_append_10 rfl (lv_at hl 2 rfl) ?_
    refine q_iast (i := n) (x := x) hx hb hK hP hD hS 1 0 rfl rfl (by omega) (by omega) (by omega) dqCo_append_11 (fun H locs hP hD hS => ?_)
    have hP : va_P D vwCl [(co, .inr (1, [.ref tm, .ref lw, .ref br, .int (iI n), .int (iI b), .int (iI mo)])), (tm, .inl (cI, 24, .inl (ai (up tf n x)))), (lw, .inl (cI, 24, .inl (ai lf))), (br, .inl (cZ, 24, .inl (ai bf)))] H := hP
    have hD : va_D A [(co, .inr (1, [.ref tm, .ref lw, .ref br, .int (iI n), .int (iI b), .int (iI mo)])), (tm, .inl (cI, 24, .inl (ai (up tf n x)))), (lw, .inl (cI, 24, .inl (ai lf))), (br, .inl (cZ, 24, .inl (ai bf)))] := hD
    refine lv_aload_n hx hb dqCo_append_12 rfl (lv_at hl 1 rfl) ?_
    refine va_get (D := D) (ci := 1) (v := .ref lw) (C := RqCo) (T := TqCo) (N := 6) hx hb hts (in_c inqCo) hown hK hP 0 rfl rfl 1 (by decide) (hts (.fieldLink RqCo 15 "SpringSpaces$Columns" "leasts" "[I") (List.mem_cons_of_mem _ tb_50)) (fun _ h9 => h9) rfl dqCo_append_13 ?_
    refine lv_iload_n hx hb dqCo_append_16 rfl (lv_at hl 0 rfl) ?_
    refine lv_iconst (v := iI 0) hx hb dqCo_append_17 rfl ?_
    refine q_iast (i := n) (x := 0) hx hb hK hP hD hS 2 0 rfl rfl (by omega) (by omega) (by omega) dqCo_append_18 (fun H locs hP hD hS => ?_)
    have hP : va_P D vwCl [(co, .inr (1, [.ref tm, .ref lw, .ref br, .int (iI n), .int (iI b), .int (iI mo)])), (tm, .inl (cI, 24, .inl (ai (up tf n x)))), (lw, .inl (cI, 24, .inl (ai (up lf n 0)))), (br, .inl (cZ, 24, .inl (ai bf)))] H := hP
    have hD : va_D A [(co, .inr (1, [.ref tm, .ref lw, .ref br, .int (iI n), .int (iI b), .int (iI mo)])), (tm, .inl (cI, 24, .inl (ai (up tf n x)))), (lw, .inl (cI, 24, .inl (ai (up lf n 0)))), (br, .inl (cZ, 24, .inl (ai bf)))] := hD
    refine lv_aload_n hx hb dqCo_append_19 rfl (lv_at hl 1 rfl) ?_
    refine va_get (D := D) (ci := 1) (v := .ref br) (C := RqCo) (T := TqCo) (N := 6) hx hb hts (in_c inqCo) hown hK hP 0 rfl rfl 2 (by decide) (hts (.fieldLink RqCo 18 "SpringSpaces$Columns" "bars" "[Z") (List.mem_cons_of_mem _ tb_51)) (fun _ h9 => h9) rfl dqCo_append_20 ?_
    refine lv_iload_n hx hb dqCo_append_23 rfl (lv_at hl 0 rfl) ?_
    refine lv_iconst (v := iI 0) hx hb dqCo_append_24 rfl ?_
    refine q_zast (i := n) (x := 0) hx hb hK hP hD hS 3 2 rfl rfl (by omega) (by omega) (by omega) (by omega) dqCo_append_25 (fun H locs hP hD hS => ?_)
    have hP : va_P D vwCl [(co, .inr (1, [.ref tm, .ref lw, .ref br, .int (iI n), .int (iI b), .int (iI mo)])), (tm, .inl (cI, 24, .inl (ai (up tf n x)))), (lw, .inl (cI, 24, .inl (ai (up lf n 0)))), (br, .inl (cZ, 24, .inl (ai (up bf n 0))))] H := hP
    have hD : va_D A [(co, .inr (1, [.ref tm, .ref lw, .ref br, .int (iI n), .int (iI b), .int (iI mo)])), (tm, .inl (cI, 24, .inl (ai (up tf n x)))), (lw, .inl (cI, 24, .inl (ai (up lf n 0)))), (br, .inl (cZ, 24, .inl (ai (up bf n 0))))] := hD
    refine lv_aload_n hx hb dqCo_append_26 rfl (lv_at hl 1 rfl) ?_
    refine lv_dup hx hb dqCo_append_27 rfl ?_
    refine va_get (D := D) (ci := 1) (v := .int (iI n)) (C := RqCo) (T := TqCo) (N := 6) hx hb hts (in_c inqCo) hown hK hP 0 rfl rfl 3 (by decide) (hts (.fieldLink RqCo 22 "SpringSpaces$Columns" "count" "I") (List.mem_cons_of_mem _ tb_52)) (fun _ h9 => h9) rfl dqCo_append_28 ?_
    refine lv_iconst (v := iI 1) hx hb dqCo_append_31 rfl ?_
    refine q_iadd hx hb dqCo_append_32 ?_
    refine va_put (D := D) (ci := 1) (v := .int (iI (n + 1))) (ty := .int) (C := RqCo) (T := TqCo) (N := 6) hx hb hts (in_c inqCo) tyqCo tyqCo_ok nmqCo hown hK hP hD hS 0 rfl rfl 3 (by decide) (hts (.fieldLink RqCo 22 "SpringSpaces$Columns" "count" "I") (List.mem_cons_of_mem _ tb_52)) (fun _ h9 => h9) rfl (by decide +kernel) rfl rfl (Nat.le_of_ble_eq_true rfl) dqCo_append_33 (fun H locs hP hD hS => ?_)
    have hP : va_P D vwCl [(co, .inr (1, [.ref tm, .ref lw, .ref br, .int (iI (n + 1)), .int (iI b), .int (iI mo)])), (tm, .inl (cI, 24, .inl (ai (up tf n x)))), (lw, .inl (cI, 24, .inl (ai (up lf n 0)))), (br, .inl (cZ, 24, .inl (ai (up bf n 0))))] H := hP
    have hD : va_D A [(co, .inr (1, [.ref tm, .ref lw, .ref br, .int (iI (n + 1)), .int (iI b), .int (iI mo)])), (tm, .inl (cI, 24, .inl (ai (up tf n x)))), (lw, .inl (cI, 24, .inl (ai (up lf n 0)))), (br, .inl (cZ, 24, .inl (ai (up bf n 0))))] := hD
    refine lv_iload_n hx hb dqCo_append_36 rfl (lv_at hl 0 rfl) ?_
    exact hret H locs _ ls n () rfl hS (by first | rfl | trivial | omega | exact bl_y (by omega) | exact bl_n (by omega) | (apply Or.inl; (and_intros <;> first | rfl | omega)) | (apply Or.inr; apply Or.inl; (and_intros <;> first | rfl | omega)) | (apply Or.inr; (and_intros <;> first | rfl | omega)) | (apply Or.inr; apply Or.inr; apply Or.inl; (and_intros <;> first | rfl | omega)) | (apply Or.inr; apply Or.inr; (and_intros <;> first | rfl | omega)) | (apply Or.inr; apply Or.inr; apply Or.inr; apply Or.inl; (and_intros <;> first | rfl | omega)) | (apply Or.inr; apply Or.inr; apply Or.inr; (and_intros <;> first | rfl | omega)) | (apply Or.inr; apply Or.inr; apply Or.inr; apply Or.inr; apply Or.inl; (and_intros <;> first | rfl | omega)) | (apply Or.inr; apply Or.inr; apply Or.inr; apply Or.inr; (and_intros <;> first | rfl | omega))) hP hD dqCo_append_37
  rw [hH0, hL0] at goal
  exact goal
def rm_Co_takeAll : Room := { frames := 0, cells := 0, slots := 0, locals := 0 }
set_option maxHeartbeats 4000000 in
set_option maxRecDepth 100000 in
theorem c_Co_takeAll (l : Launch) (D : va_G) (cI cJ cZ : ClassId) (co : Nat) (tm : Nat) (lw : Nat) (br : Nat) (n : Int) (b : Int) (mo : Int)  : Mi l yqCo_takeAll wsqCo_takeAll rm_Co_takeAll D cI cJ cZ [.ref co] [(co, .inr (1, [.ref tm, .ref lw, .ref br, .int (iI n), .int (iI b), .int (iI mo)]))] (S := Unit) (fun z _ => z = n) (fun _ => [(co, .inr (1, [.ref tm, .ref lw, .ref br, .int (iI 0), .int (iI b), .int (iI mo)]))]) 0 0 := by
  refine en_i (cc := cqCo_takeAll) (maxL := 2) (ty := .int) (by decide +kernel) rfl (Nat.le_of_ble_eq_true rfl) ?_
  intro p e s m args below meth c A Q hx hb hml hin hts hown hA hP hK hD hN hS hret ls hl
  have hl : lv_has ls 2 [(0, .ref co)] := hl
  obtain ⟨H, hH0⟩ : ∃ H, H = s.heap := ⟨_, rfl⟩
  obtain ⟨locs, hL0⟩ : ∃ locs : List Loc, locs = [] := ⟨_, rfl⟩
  rw [← hH0] at hP
  have hS : va_S A s.heap H locs := by rw [hH0, hL0]; exact hS
  have goal : W p l e rm_Co_takeAll s m args below meth c H locs 0 0 Q (F0 m 0 ls []) := by
    refine lv_aload_n hx hb dqCo_takeAll_0 rfl (lv_at hl 0 rfl) ?_
    refine va_get (D := D) (ci := 1) (v := .int (iI n)) (C := RqCo) (T := TqCo) (N := 6) hx hb hts (in_c inqCo) hown hK hP 0 rfl rfl 3 (by decide) (hts (.fieldLink RqCo 22 "SpringSpaces$Columns" "count" "I") (List.mem_cons_of_mem _ tb_52)) (fun _ h9 => h9) rfl dqCo_takeAll_1 ?_
    refine lv_istore_n (lv' := [(1, .int (iI n)), (0, .ref co)]) hx hb dqCo_takeAll_4 rfl hl (by decide) rfl (fun ls hl => ?_)
    refine lv_aload_n hx hb dqCo_takeAll_5 rfl (lv_at hl 1 rfl) ?_
    refine lv_iconst (v := iI 0) hx hb dqCo_takeAll_6 rfl ?_
    refine va_put (D := D) (ci := 1) (v := .int (iI 0)) (ty := .int) (C := RqCo) (T := TqCo) (N := 6) hx hb hts (in_c inqCo) tyqCo tyqCo_ok nmqCo hown hK hP hD hS 0 rfl rfl 3 (by decide) (hts (.fieldLink RqCo 22 "SpringSpaces$Columns" "count" "I") (List.mem_cons_of_mem _ tb_52)) (fun _ h9 => h9) rfl (by decide +kernel) rfl rfl (Nat.le_of_ble_eq_true rfl) dqCo_takeAll_7 (fun H locs hP hD hS => ?_)
    have hP : va_P D vwCl [(co, .inr (1, [.ref tm, .ref lw, .ref br, .int (iI 0), .int (iI b), .int (iI mo)]))] H := hP
    have hD : va_D A [(co, .inr (1, [.ref tm, .ref lw, .ref br, .int (iI 0), .int (iI b), .int (iI mo)]))] := hD
    refine lv_iload_n hx hb dqCo_takeAll_10 rfl (lv_at hl 0 rfl) ?_
    exact hret H locs _ ls n () rfl hS (by first | rfl | trivial | omega | exact bl_y (by omega) | exact bl_n (by omega) | (apply Or.inl; (and_intros <;> first | rfl | omega)) | (apply Or.inr; apply Or.inl; (and_intros <;> first | rfl | omega)) | (apply Or.inr; (and_intros <;> first | rfl | omega)) | (apply Or.inr; apply Or.inr; apply Or.inl; (and_intros <;> first | rfl | omega)) | (apply Or.inr; apply Or.inr; (and_intros <;> first | rfl | omega)) | (apply Or.inr; apply Or.inr; apply Or.inr; apply Or.inl; (and_intros <;> first | rfl | omega)) | (apply Or.inr; apply Or.inr; apply Or.inr; (and_intros <;> first | rfl | omega)) | (apply Or.inr; apply Or.inr; apply Or.inr; apply Or.inr; apply Or.inl; (and_intros <;> first | rfl | omega)) | (apply Or.inr; apply Or.inr; apply Or.inr; apply Or.inr; (and_intros <;> first | rfl | omega))) hP hD dqCo_takeAll_11
  rw [hH0, hL0] at goal
  exact goal
def rm_Co_setLeast : Room := { frames := 0, cells := 0, slots := 0, locals := 0 }
set_option maxHeartbeats 4000000 in
set_option maxRecDepth 100000 in
theorem c_Co_setLeast (l : Launch) (D : va_G) (cI cJ cZ : ClassId) (co : Nat) (g : Int) (x : Int) (tm : Nat) (lw : Nat) (br : Nat) (n : Int) (b : Int) (mo : Int) (lf : Int → Int) (h1 : 0 ≤ g) (h2 : g < 24) : Mi l yqCo_setLeast wsqCo_setLeast rm_Co_setLeast D cI cJ cZ [.ref co, .int (iI g), .int (iI x)] [(co, .inr (1, [.ref tm, .ref lw, .ref br, .int (iI n), .int (iI b), .int (iI mo)])), (lw, .inl (cI, 24, .inl (ai lf)))] (S := Unit) (fun z _ => z = lf g) (fun _ => [(co, .inr (1, [.ref tm, .ref lw, .ref br, .int (iI n), .int (iI b), .int (iI mo)])), (lw, .inl (cI, 24, .inl (ai (up lf g x))))]) 0 0 := by
  refine en_i (cc := cqCo_setLeast) (maxL := 4) (ty := .int) (by decide +kernel) rfl (Nat.le_of_ble_eq_true rfl) ?_
  intro p e s m args below meth c A Q hx hb hml hin hts hown hA hP hK hD hN hS hret ls hl
  have hl : lv_has ls 4 [(0, .ref co), (1, .int (iI g)), (2, .int (iI x))] := hl
  obtain ⟨H, hH0⟩ : ∃ H, H = s.heap := ⟨_, rfl⟩
  obtain ⟨locs, hL0⟩ : ∃ locs : List Loc, locs = [] := ⟨_, rfl⟩
  rw [← hH0] at hP
  have hS : va_S A s.heap H locs := by rw [hH0, hL0]; exact hS
  have goal : W p l e rm_Co_setLeast s m args below meth c H locs 0 0 Q (F0 m 0 ls []) := by
    refine lv_aload_n hx hb dqCo_setLeast_0 rfl (lv_at hl 0 rfl) ?_
    refine va_get (D := D) (ci := 1) (v := .ref lw) (C := RqCo) (T := TqCo) (N := 6) hx hb hts (in_c inqCo) hown hK hP 0 rfl rfl 1 (by decide) (hts (.fieldLink RqCo 15 "SpringSpaces$Columns" "leasts" "[I") (List.mem_cons_of_mem _ tb_50)) (fun _ h9 => h9) rfl dqCo_setLeast_1 ?_
    refine lv_iload_n hx hb dqCo_setLeast_4 rfl (lv_at hl 1 rfl) ?_
    refine q_iald (i := g) hx hb hK hP 1 0 rfl rfl (by omega) (by omega) (by omega) dqCo_setLeast_5 ?_
    refine lv_istore_n (lv' := [(3, .int (iI (lf g))), (0, .ref co), (1, .int (iI g)), (2, .int (iI x))]) hx hb dqCo_setLeast_6 rfl hl (by decide) rfl (fun ls hl => ?_)
    refine lv_aload_n hx hb dqCo_setLeast_7 rfl (lv_at hl 1 rfl) ?_
    refine va_get (D := D) (ci := 1) (v := .ref lw) (C := RqCo) (T := TqCo) (N := 6) hx hb hts (in_c inqCo) hown hK hP 0 rfl rfl 1 (by decide) (hts (.fieldLink RqCo 15 "SpringSpaces$Columns" "leasts" "[I") (List.mem_cons_of_mem _ tb_50)) (fun _ h9 => h9) rfl dqCo_setLeast_8 ?_
    refine lv_iload_n hx hb dqCo_setLeast_11 rfl (lv_at hl 2 rfl) ?_
    refine lv_iload_n hx hb dqCo_setLeast_12 rfl (lv_at hl 3 rfl) ?_
    refine q_iast (i := g) (x := x) hx hb hK hP hD hS 1 0 rfl rfl (by omega) (by omega) (by omega) dqCo_setLeast_13 (fun H locs hP hD hS => ?_)
    have hP : va_P D vwCl [(co, .inr (1, [.ref tm, .ref lw, .ref br, .int (iI n), .int (iI b), .int (iI mo)])), (lw, .inl (cI, 24, .inl (ai (up lf g x))))] H := hP
    have hD : va_D A [(co, .inr (1, [.ref tm, .ref lw, .ref br, .int (iI n), .int (iI b), .int (iI mo)])), (lw, .inl (cI, 24, .inl (ai (up lf g x))))] := hD
    refine lv_iload_n hx hb dqCo_setLeast_14 rfl (lv_at hl 0 rfl) ?_
    exact hret H locs _ ls (lf g) () rfl hS (by first | rfl | trivial | omega | exact bl_y (by omega) | exact bl_n (by omega) | (apply Or.inl; (and_intros <;> first | rfl | omega)) | (apply Or.inr; apply Or.inl; (and_intros <;> first | rfl | omega)) | (apply Or.inr; (and_intros <;> first | rfl | omega)) | (apply Or.inr; apply Or.inr; apply Or.inl; (and_intros <;> first | rfl | omega)) | (apply Or.inr; apply Or.inr; (and_intros <;> first | rfl | omega)) | (apply Or.inr; apply Or.inr; apply Or.inr; apply Or.inl; (and_intros <;> first | rfl | omega)) | (apply Or.inr; apply Or.inr; apply Or.inr; (and_intros <;> first | rfl | omega)) | (apply Or.inr; apply Or.inr; apply Or.inr; apply Or.inr; apply Or.inl; (and_intros <;> first | rfl | omega)) | (apply Or.inr; apply Or.inr; apply Or.inr; apply Or.inr; (and_intros <;> first | rfl | omega))) hP hD dqCo_setLeast_15
  rw [hH0, hL0] at goal
  exact goal
def rm_Co_setBar : Room := { frames := 0, cells := 0, slots := 0, locals := 0 }
set_option maxHeartbeats 4000000 in
set_option maxRecDepth 100000 in
theorem c_Co_setBar (l : Launch) (D : va_G) (cI cJ cZ : ClassId) (co : Nat) (g : Int) (x : Int) (tm : Nat) (lw : Nat) (br : Nat) (n : Int) (b : Int) (mo : Int) (bf : Int → Int) (h1 : 0 ≤ g) (h2 : g < 24) (h3 : x = 0 ∨ x = 1) (hB : B01 24 bf) : Mi l yqCo_setBar wsqCo_setBar rm_Co_setBar D cI cJ cZ [.ref co, .int (iI g), .int (iI x)] [(co, .inr (1, [.ref tm, .ref lw, .ref br, .int (iI n), .int (iI b), .int (iI mo)])), (br, .inl (cZ, 24, .inl (ai bf)))] (S := Unit) (fun z _ => z = bf g) (fun _ => [(co, .inr (1, [.ref tm, .ref lw, .ref br, .int (iI n), .int (iI b), .int (iI mo)])), (br, .inl (cZ, 24, .inl (ai (up bf g x))))]) 0 0 := by
  refine en_i (cc := cqCo_setBar) (maxL := 4) (ty := .boolean) (by decide +kernel) rfl (Nat.le_of_ble_eq_true rfl) ?_
  intro p e s m args below meth c A Q hx hb hml hin hts hown hA hP hK hD hN hS hret ls hl
  have hl : lv_has ls 4 [(0, .ref co), (1, .int (iI g)), (2, .int (iI x))] := hl
  obtain ⟨H, hH0⟩ : ∃ H, H = s.heap := ⟨_, rfl⟩
  obtain ⟨locs, hL0⟩ : ∃ locs : List Loc, locs = [] := ⟨_, rfl⟩
  rw [← hH0] at hP
  have hS : va_S A s.heap H locs := by rw [hH0, hL0]; exact hS
  have goal : W p l e rm_Co_setBar s m args below meth c H locs 0 0 Q (F0 m 0 ls []) := by
    refine lv_aload_n hx hb dqCo_setBar_0 rfl (lv_at hl 0 rfl) ?_
    refine va_get (D := D) (ci := 1) (v := .ref br) (C := RqCo) (T := TqCo) (N := 6) hx hb hts (in_c inqCo) hown hK hP 0 rfl rfl 2 (by decide) (hts (.fieldLink RqCo 18 "SpringSpaces$Columns" "bars" "[Z") (List.mem_cons_of_mem _ tb_51)) (fun _ h9 => h9) rfl dqCo_setBar_1 ?_
    refine lv_iload_n hx hb dqCo_setBar_4 rfl (lv_at hl 1 rfl) ?_
    refine q_zald (i := g) hx hb hK hP 1 2 rfl rfl (by omega) (by omega) (by omega) dqCo_setBar_5 ?_
    refine lv_istore_n (lv' := [(3, .int (iI (bf g))), (0, .ref co), (1, .int (iI g)), (2, .int (iI x))]) hx hb dqCo_setBar_6 rfl hl (by decide) rfl (fun ls hl => ?_)
    refine lv_aload_n hx hb dqCo_setBar_7 rfl (lv_at hl 1 rfl) ?_
    refine va_get (D := D) (ci := 1) (v := .ref br) (C := RqCo) (T := TqCo) (N := 6) hx hb hts (in_c inqCo) hown hK hP 0 rfl rfl 2 (by decide) (hts (.fieldLink RqCo 18 "SpringSpaces$Columns" "bars" "[Z") (List.mem_cons_of_mem _ tb_51)) (fun _ h9 => h9) rfl dqCo_setBar_8 ?_
    refine lv_iload_n hx hb dqCo_setBar_11 rfl (lv_at hl 2 rfl) ?_
    refine lv_iload_n hx hb dqCo_setBar_12 rfl (lv_at hl 3 rfl) ?_
    refine q_zast (i := g) (x := x) hx hb hK hP hD hS 1 2 rfl rfl (by omega) (by omega) (by omega) (by omega) dqCo_setBar_13 (fun H locs hP hD hS => ?_)
    have hP : va_P D vwCl [(co, .inr (1, [.ref tm, .ref lw, .ref br, .int (iI n), .int (iI b), .int (iI mo)])), (br, .inl (cZ, 24, .inl (ai (up bf g x))))] H := hP
    have hD : va_D A [(co, .inr (1, [.ref tm, .ref lw, .ref br, .int (iI n), .int (iI b), .int (iI mo)])), (br, .inl (cZ, 24, .inl (ai (up bf g x))))] := hD
    refine lv_iload_n hx hb dqCo_setBar_14 rfl (lv_at hl 0 rfl) ?_
    exact hret H locs _ ls (bf g) () (narrow_z (hB _ (by omega) (by omega))) hS (by first | rfl | trivial | omega | exact bl_y (by omega) | exact bl_n (by omega) | (apply Or.inl; (and_intros <;> first | rfl | omega)) | (apply Or.inr; apply Or.inl; (and_intros <;> first | rfl | omega)) | (apply Or.inr; (and_intros <;> first | rfl | omega)) | (apply Or.inr; apply Or.inr; apply Or.inl; (and_intros <;> first | rfl | omega)) | (apply Or.inr; apply Or.inr; (and_intros <;> first | rfl | omega)) | (apply Or.inr; apply Or.inr; apply Or.inr; apply Or.inl; (and_intros <;> first | rfl | omega)) | (apply Or.inr; apply Or.inr; apply Or.inr; (and_intros <;> first | rfl | omega)) | (apply Or.inr; apply Or.inr; apply Or.inr; apply Or.inr; apply Or.inl; (and_intros <;> first | rfl | omega)) | (apply Or.inr; apply Or.inr; apply Or.inr; apply Or.inr; (and_intros <;> first | rfl | omega))) hP hD dqCo_setBar_15
  rw [hH0, hL0] at goal
  exact goal
def rm_Co_timeOf : Room := { frames := 0, cells := 0, slots := 0, locals := 0 }
set_option maxHeartbeats 4000000 in
set_option maxRecDepth 100000 in
theorem c_Co_timeOf (l : Launch) (D : va_G) (cI cJ cZ : ClassId) (co : Nat) (g : Int) (tm : Nat) (lw : Nat) (br : Nat) (n : Int) (b : Int) (mo : Int) (tf : Int → Int) (h1 : 0 ≤ g) (h2 : g < 24) : Mi l yqCo_timeOf wsqCo_timeOf rm_Co_timeOf D cI cJ cZ [.ref co, .int (iI g)] [(co, .inr (1, [.ref tm, .ref lw, .ref br, .int (iI n), .int (iI b), .int (iI mo)])), (tm, .inl (cI, 24, .inl (ai tf)))] (S := Unit) (fun z _ => z = tf g) (fun _ => [(co, .inr (1, [.ref tm, .ref lw, .ref br, .int (iI n), .int (iI b), .int (iI mo)])), (tm, .inl (cI, 24, .inl (ai tf)))]) 0 0 := by
  refine en_i (cc := cqCo_timeOf) (maxL := 2) (ty := .int) (by decide +kernel) rfl (Nat.le_of_ble_eq_true rfl) ?_
  intro p e s m args below meth c A Q hx hb hml hin hts hown hA hP hK hD hN hS hret ls hl
  have hl : lv_has ls 2 [(0, .ref co), (1, .int (iI g))] := hl
  obtain ⟨H, hH0⟩ : ∃ H, H = s.heap := ⟨_, rfl⟩
  obtain ⟨locs, hL0⟩ : ∃ locs : List Loc, locs = [] := ⟨_, rfl⟩
  rw [← hH0] at hP
  have hS : va_S A s.heap H locs := by rw [hH0, hL0]; exact hS
  have goal : W p l e rm_Co_timeOf s m args below meth c H locs 0 0 Q (F0 m 0 ls []) := by
    refine lv_aload_n hx hb dqCo_timeOf_0 rfl (lv_at hl 0 rfl) ?_
    refine va_get (D := D) (ci := 1) (v := .ref tm) (C := RqCo) (T := TqCo) (N := 6) hx hb hts (in_c inqCo) hown hK hP 0 rfl rfl 0 (by decide) (hts (.fieldLink RqCo 9 "SpringSpaces$Columns" "times" "[I") (List.mem_cons_of_mem _ tb_49)) (fun _ h9 => h9) rfl dqCo_timeOf_1 ?_
    refine lv_iload_n hx hb dqCo_timeOf_4 rfl (lv_at hl 1 rfl) ?_
    refine q_iald (i := g) hx hb hK hP 1 0 rfl rfl (by omega) (by omega) (by omega) dqCo_timeOf_5 ?_
    exact hret H locs _ ls (tf g) () rfl hS (by first | rfl | trivial | omega | exact bl_y (by omega) | exact bl_n (by omega) | (apply Or.inl; (and_intros <;> first | rfl | omega)) | (apply Or.inr; apply Or.inl; (and_intros <;> first | rfl | omega)) | (apply Or.inr; (and_intros <;> first | rfl | omega)) | (apply Or.inr; apply Or.inr; apply Or.inl; (and_intros <;> first | rfl | omega)) | (apply Or.inr; apply Or.inr; (and_intros <;> first | rfl | omega)) | (apply Or.inr; apply Or.inr; apply Or.inr; apply Or.inl; (and_intros <;> first | rfl | omega)) | (apply Or.inr; apply Or.inr; apply Or.inr; (and_intros <;> first | rfl | omega)) | (apply Or.inr; apply Or.inr; apply Or.inr; apply Or.inr; apply Or.inl; (and_intros <;> first | rfl | omega)) | (apply Or.inr; apply Or.inr; apply Or.inr; apply Or.inr; (and_intros <;> first | rfl | omega))) hP hD dqCo_timeOf_6
  rw [hH0, hL0] at goal
  exact goal
def rm_Co_toldLeastOf : Room := { frames := 0, cells := 0, slots := 0, locals := 0 }
set_option maxHeartbeats 4000000 in
set_option maxRecDepth 100000 in
theorem c_Co_toldLeastOf (l : Launch) (D : va_G) (cI cJ cZ : ClassId) (co : Nat) (g : Int) (tm : Nat) (lw : Nat) (br : Nat) (n : Int) (b : Int) (mo : Int) (lf : Int → Int) (h1 : 0 ≤ g) (h2 : g < 24) : Mi l yqCo_toldLeastOf wsqCo_toldLeastOf rm_Co_toldLeastOf D cI cJ cZ [.ref co, .int (iI g)] [(co, .inr (1, [.ref tm, .ref lw, .ref br, .int (iI n), .int (iI b), .int (iI mo)])), (lw, .inl (cI, 24, .inl (ai lf)))] (S := Unit) (fun z _ => z = lf g) (fun _ => [(co, .inr (1, [.ref tm, .ref lw, .ref br, .int (iI n), .int (iI b), .int (iI mo)])), (lw, .inl (cI, 24, .inl (ai lf)))]) 0 0 := by
  refine en_i (cc := cqCo_toldLeastOf) (maxL := 2) (ty := .int) (by decide +kernel) rfl (Nat.le_of_ble_eq_true rfl) ?_
  intro p e s m args below meth c A Q hx hb hml hin hts hown hA hP hK hD hN hS hret ls hl
  have hl : lv_has ls 2 [(0, .ref co), (1, .int (iI g))] := hl
  obtain ⟨H, hH0⟩ : ∃ H, H = s.heap := ⟨_, rfl⟩
  obtain ⟨locs, hL0⟩ : ∃ locs : List Loc, locs = [] := ⟨_, rfl⟩
  rw [← hH0] at hP
  have hS : va_S A s.heap H locs := by rw [hH0, hL0]; exact hS
  have goal : W p l e rm_Co_toldLeastOf s m args below meth c H locs 0 0 Q (F0 m 0 ls []) := by
    refine lv_aload_n hx hb dqCo_toldLeastOf_0 rfl (lv_at hl 0 rfl) ?_
    refine va_get (D := D) (ci := 1) (v := .ref lw) (C := RqCo) (T := TqCo) (N := 6) hx hb hts (in_c inqCo) hown hK hP 0 rfl rfl 1 (by decide) (hts (.fieldLink RqCo 15 "SpringSpaces$Columns" "leasts" "[I") (List.mem_cons_of_mem _ tb_50)) (fun _ h9 => h9) rfl dqCo_toldLeastOf_1 ?_
    refine lv_iload_n hx hb dqCo_toldLeastOf_4 rfl (lv_at hl 1 rfl) ?_
    refine q_iald (i := g) hx hb hK hP 1 0 rfl rfl (by omega) (by omega) (by omega) dqCo_toldLeastOf_5 ?_
    exact hret H locs _ ls (lf g) () rfl hS (by first | rfl | trivial | omega | exact bl_y (by omega) | exact bl_n (by omega) | (apply Or.inl; (and_intros <;> first | rfl | omega)) | (apply Or.inr; apply Or.inl; (and_intros <;> first | rfl | omega)) | (apply Or.inr; (and_intros <;> first | rfl | omega)) | (apply Or.inr; apply Or.inr; apply Or.inl; (and_intros <;> first | rfl | omega)) | (apply Or.inr; apply Or.inr; (and_intros <;> first | rfl | omega)) | (apply Or.inr; apply Or.inr; apply Or.inr; apply Or.inl; (and_intros <;> first | rfl | omega)) | (apply Or.inr; apply Or.inr; apply Or.inr; (and_intros <;> first | rfl | omega)) | (apply Or.inr; apply Or.inr; apply Or.inr; apply Or.inr; apply Or.inl; (and_intros <;> first | rfl | omega)) | (apply Or.inr; apply Or.inr; apply Or.inr; apply Or.inr; (and_intros <;> first | rfl | omega))) hP hD dqCo_toldLeastOf_6
  rw [hH0, hL0] at goal
  exact goal
def rm_Co_durationOf : Room := { frames := 0, cells := 0, slots := 0, locals := 0 }
set_option maxHeartbeats 4000000 in
set_option maxRecDepth 100000 in
theorem c_Co_durationOf (l : Launch) (D : va_G) (cI cJ cZ : ClassId) (co : Nat) (g : Int) (tm : Nat) (lw : Nat) (br : Nat) (n : Int) (b : Int) (mo : Int) (tf : Int → Int) (h1 : 0 ≤ g) (h2 : g < 23) : Mi l yqCo_durationOf wsqCo_durationOf rm_Co_durationOf D cI cJ cZ [.ref co, .int (iI g)] [(co, .inr (1, [.ref tm, .ref lw, .ref br, .int (iI n), .int (iI b), .int (iI mo)])), (tm, .inl (cI, 24, .inl (ai tf)))] (S := Unit) (fun z _ => z = tf (g + 1) - tf g) (fun _ => [(co, .inr (1, [.ref tm, .ref lw, .ref br, .int (iI n), .int (iI b), .int (iI mo)])), (tm, .inl (cI, 24, .inl (ai tf)))]) 0 0 := by
  refine en_i (cc := cqCo_durationOf) (maxL := 2) (ty := .int) (by decide +kernel) rfl (Nat.le_of_ble_eq_true rfl) ?_
  intro p e s m args below meth c A Q hx hb hml hin hts hown hA hP hK hD hN hS hret ls hl
  have hl : lv_has ls 2 [(0, .ref co), (1, .int (iI g))] := hl
  obtain ⟨H, hH0⟩ : ∃ H, H = s.heap := ⟨_, rfl⟩
  obtain ⟨locs, hL0⟩ : ∃ locs : List Loc, locs = [] := ⟨_, rfl⟩
  rw [← hH0] at hP
  have hS : va_S A s.heap H locs := by rw [hH0, hL0]; exact hS
  have goal : W p l e rm_Co_durationOf s m args below meth c H locs 0 0 Q (F0 m 0 ls []) := by
    refine lv_aload_n hx hb dqCo_durationOf_0 rfl (lv_at hl 0 rfl) ?_
    refine va_get (D := D) (ci := 1) (v := .ref tm) (C := RqCo) (T := TqCo) (N := 6) hx hb hts (in_c inqCo) hown hK hP 0 rfl rfl 0 (by decide) (hts (.fieldLink RqCo 9 "SpringSpaces$Columns" "times" "[I") (List.mem_cons_of_mem _ tb_49)) (fun _ h9 => h9) rfl dqCo_durationOf_1 ?_
    refine lv_iload_n hx hb dqCo_durationOf_4 rfl (lv_at hl 1 rfl) ?_
    refine lv_iconst (v := iI 1) hx hb dqCo_durationOf_5 rfl ?_
    refine q_iadd hx hb dqCo_durationOf_6 ?_
    refine q_iald (i := g + 1) hx hb hK hP 1 0 rfl rfl (by omega) (by omega) (by omega) dqCo_durationOf_7 ?_
    refine lv_aload_n hx hb dqCo_durationOf_8 rfl (lv_at hl 0 rfl) ?_
    refine va_get (D := D) (ci := 1) (v := .ref tm) (C := RqCo) (T := TqCo) (N := 6) hx hb hts (in_c inqCo) hown hK hP 0 rfl rfl 0 (by decide) (hts (.fieldLink RqCo 9 "SpringSpaces$Columns" "times" "[I") (List.mem_cons_of_mem _ tb_49)) (fun _ h9 => h9) rfl dqCo_durationOf_9 ?_
    refine lv_iload_n hx hb dqCo_durationOf_12 rfl (lv_at hl 1 rfl) ?_
    refine q_iald (i := g) hx hb hK hP 1 0 rfl rfl (by omega) (by omega) (by omega) dqCo_durationOf_13 ?_
    refine q_isub hx hb dqCo_durationOf_14 ?_
    exact hret H locs _ ls ((tf (g + 1)) - (tf g)) () rfl hS (by first | rfl | trivial | omega | exact bl_y (by omega) | exact bl_n (by omega) | (apply Or.inl; (and_intros <;> first | rfl | omega)) | (apply Or.inr; apply Or.inl; (and_intros <;> first | rfl | omega)) | (apply Or.inr; (and_intros <;> first | rfl | omega)) | (apply Or.inr; apply Or.inr; apply Or.inl; (and_intros <;> first | rfl | omega)) | (apply Or.inr; apply Or.inr; (and_intros <;> first | rfl | omega)) | (apply Or.inr; apply Or.inr; apply Or.inr; apply Or.inl; (and_intros <;> first | rfl | omega)) | (apply Or.inr; apply Or.inr; apply Or.inr; (and_intros <;> first | rfl | omega)) | (apply Or.inr; apply Or.inr; apply Or.inr; apply Or.inr; apply Or.inl; (and_intros <;> first | rfl | omega)) | (apply Or.inr; apply Or.inr; apply Or.inr; apply Or.inr; (and_intros <;> first | rfl | omega))) hP hD dqCo_durationOf_15
  rw [hH0, hL0] at goal
  exact goal
def rm_Co_mayBreakAt : Room := { frames := 0, cells := 0, slots := 0, locals := 0 }
set_option maxHeartbeats 4000000 in
set_option maxRecDepth 100000 in
theorem c_Co_mayBreakAt (l : Launch) (D : va_G) (cI cJ cZ : ClassId) (co : Nat) (g : Int) (tm : Nat) (lw : Nat) (br : Nat) (n : Int) (b : Int) (mo : Int) (bf : Int → Int) (h1 : 0 ≤ n) (h2 : n ≤ 24) (h3 : 0 ≤ g) (h4 : g < 24) : Mi l yqCo_mayBreakAt wsqCo_mayBreakAt rm_Co_mayBreakAt D cI cJ cZ [.ref co, .int (iI g)] [(co, .inr (1, [.ref tm, .ref lw, .ref br, .int (iI n), .int (iI b), .int (iI mo)])), (br, .inl (cZ, 24, .inl (ai bf)))] (S := Unit) (fun z _ => z = 0 ∨ z = 1) (fun _ => [(co, .inr (1, [.ref tm, .ref lw, .ref br, .int (iI n), .int (iI b), .int (iI mo)])), (br, .inl (cZ, 24, .inl (ai bf)))]) 0 0 := by
  refine en_i (cc := cqCo_mayBreakAt) (maxL := 2) (ty := .boolean) (by decide +kernel) rfl (Nat.le_of_ble_eq_true rfl) ?_
  intro p e s m args below meth c A Q hx hb hml hin hts hown hA hP hK hD hN hS hret ls hl
  have hl : lv_has ls 2 [(0, .ref co), (1, .int (iI g))] := hl
  obtain ⟨H, hH0⟩ : ∃ H, H = s.heap := ⟨_, rfl⟩
  obtain ⟨locs, hL0⟩ : ∃ locs : List Loc, locs = [] := ⟨_, rfl⟩
  rw [← hH0] at hP
  have hS : va_S A s.heap H locs := by rw [hH0, hL0]; exact hS
  have goal : W p l e rm_Co_mayBreakAt s m args below meth c H locs 0 0 Q (F0 m 0 ls []) := by
    refine lv_iload_n hx hb dqCo_mayBreakAt_0 rfl (lv_at hl 1 rfl) ?_
    refine q_if_eq (tgt := 23) hx hb dqCo_mayBreakAt_1 (by decide) (by omega) (by omega) (fun c_1 => ?_) (fun c_1 => ?_)
    · refine lv_iconst (v := iI 1) hx hb dqCo_mayBreakAt_23 rfl ?_
      refine lv_goto (tgt := 28) hx hb dqCo_mayBreakAt_24 (by decide) ?_
      exact hret H locs _ ls 1 () (narrow_z (by omega)) hS (by first | rfl | trivial | omega | exact bl_y (by omega) | exact bl_n (by omega) | (apply Or.inl; (and_intros <;> first | rfl | omega)) | (apply Or.inr; apply Or.inl; (and_intros <;> first | rfl | omega)) | (apply Or.inr; (and_intros <;> first | rfl | omega)) | (apply Or.inr; apply Or.inr; apply Or.inl; (and_intros <;> first | rfl | omega)) | (apply Or.inr; apply Or.inr; (and_intros <;> first | rfl | omega)) | (apply Or.inr; apply Or.inr; apply Or.inr; apply Or.inl; (and_intros <;> first | rfl | omega)) | (apply Or.inr; apply Or.inr; apply Or.inr; (and_intros <;> first | rfl | omega)) | (apply Or.inr; apply Or.inr; apply Or.inr; apply Or.inr; apply Or.inl; (and_intros <;> first | rfl | omega)) | (apply Or.inr; apply Or.inr; apply Or.inr; apply Or.inr; (and_intros <;> first | rfl | omega))) hP hD dqCo_mayBreakAt_28
    · refine lv_iload_n hx hb dqCo_mayBreakAt_4 rfl (lv_at hl 1 rfl) ?_
      refine lv_aload_n hx hb dqCo_mayBreakAt_5 rfl (lv_at hl 0 rfl) ?_
      refine va_get (D := D) (ci := 1) (v := .int (iI n)) (C := RqCo) (T := TqCo) (N := 6) hx hb hts (in_c inqCo) hown hK hP 0 rfl rfl 3 (by decide) (hts (.fieldLink RqCo 22 "SpringSpaces$Columns" "count" "I") (List.mem_cons_of_mem _ tb_52)) (fun _ h9 => h9) rfl dqCo_mayBreakAt_6 ?_
      refine lv_iconst (v := iI 1) hx hb dqCo_mayBreakAt_9 rfl ?_
      refine q_isub hx hb dqCo_mayBreakAt_10 ?_
      refine q_icmp_eq (tgt := 23) hx hb dqCo_mayBreakAt_11 (by decide) (by omega) (by omega) (by omega) (by omega) (fun c_11 => ?_) (fun c_11 => ?_)
      · refine lv_iconst (v := iI 1) hx hb dqCo_mayBreakAt_23 rfl ?_
        refine lv_goto (tgt := 28) hx hb dqCo_mayBreakAt_24 (by decide) ?_
        exact hret H locs _ ls 1 () (narrow_z (by omega)) hS (by first | rfl | trivial | omega | exact bl_y (by omega) | exact bl_n (by omega) | (apply Or.inl; (and_intros <;> first | rfl | omega)) | (apply Or.inr; apply Or.inl; (and_intros <;> first | rfl | omega)) | (apply Or.inr; (and_intros <;> first | rfl | omega)) | (apply Or.inr; apply Or.inr; apply Or.inl; (and_intros <;> first | rfl | omega)) | (apply Or.inr; apply Or.inr; (and_intros <;> first | rfl | omega)) | (apply Or.inr; apply Or.inr; apply Or.inr; apply Or.inl; (and_intros <;> first | rfl | omega)) | (apply Or.inr; apply Or.inr; apply Or.inr; (and_intros <;> first | rfl | omega)) | (apply Or.inr; apply Or.inr; apply Or.inr; apply Or.inr; apply Or.inl; (and_intros <;> first | rfl | omega)) | (apply Or.inr; apply Or.inr; apply Or.inr; apply Or.inr; (and_intros <;> first | rfl | omega))) hP hD dqCo_mayBreakAt_28
      · refine lv_aload_n hx hb dqCo_mayBreakAt_14 rfl (lv_at hl 0 rfl) ?_
        refine va_get (D := D) (ci := 1) (v := .ref br) (C := RqCo) (T := TqCo) (N := 6) hx hb hts (in_c inqCo) hown hK hP 0 rfl rfl 2 (by decide) (hts (.fieldLink RqCo 18 "SpringSpaces$Columns" "bars" "[Z") (List.mem_cons_of_mem _ tb_51)) (fun _ h9 => h9) rfl dqCo_mayBreakAt_15 ?_
        refine lv_iload_n hx hb dqCo_mayBreakAt_18 rfl (lv_at hl 1 rfl) ?_
        refine q_zald (i := g) hx hb hK hP 1 2 rfl rfl (by omega) (by omega) (by omega) dqCo_mayBreakAt_19 ?_
        refine q_ifw_eq (tgt := 27) hx hb dqCo_mayBreakAt_20 (by decide) ?_ ?_
        · refine lv_iconst (v := iI 0) hx hb dqCo_mayBreakAt_27 rfl ?_
          exact hret H locs _ ls 0 () (narrow_z (by omega)) hS (by first | rfl | trivial | omega | exact bl_y (by omega) | exact bl_n (by omega) | (apply Or.inl; (and_intros <;> first | rfl | omega)) | (apply Or.inr; apply Or.inl; (and_intros <;> first | rfl | omega)) | (apply Or.inr; (and_intros <;> first | rfl | omega)) | (apply Or.inr; apply Or.inr; apply Or.inl; (and_intros <;> first | rfl | omega)) | (apply Or.inr; apply Or.inr; (and_intros <;> first | rfl | omega)) | (apply Or.inr; apply Or.inr; apply Or.inr; apply Or.inl; (and_intros <;> first | rfl | omega)) | (apply Or.inr; apply Or.inr; apply Or.inr; (and_intros <;> first | rfl | omega)) | (apply Or.inr; apply Or.inr; apply Or.inr; apply Or.inr; apply Or.inl; (and_intros <;> first | rfl | omega)) | (apply Or.inr; apply Or.inr; apply Or.inr; apply Or.inr; (and_intros <;> first | rfl | omega))) hP hD dqCo_mayBreakAt_28
        · refine lv_iconst (v := iI 1) hx hb dqCo_mayBreakAt_23 rfl ?_
          refine lv_goto (tgt := 28) hx hb dqCo_mayBreakAt_24 (by decide) ?_
          exact hret H locs _ ls 1 () (narrow_z (by omega)) hS (by first | rfl | trivial | omega | exact bl_y (by omega) | exact bl_n (by omega) | (apply Or.inl; (and_intros <;> first | rfl | omega)) | (apply Or.inr; apply Or.inl; (and_intros <;> first | rfl | omega)) | (apply Or.inr; (and_intros <;> first | rfl | omega)) | (apply Or.inr; apply Or.inr; apply Or.inl; (and_intros <;> first | rfl | omega)) | (apply Or.inr; apply Or.inr; (and_intros <;> first | rfl | omega)) | (apply Or.inr; apply Or.inr; apply Or.inr; apply Or.inl; (and_intros <;> first | rfl | omega)) | (apply Or.inr; apply Or.inr; apply Or.inr; (and_intros <;> first | rfl | omega)) | (apply Or.inr; apply Or.inr; apply Or.inr; apply Or.inr; apply Or.inl; (and_intros <;> first | rfl | omega)) | (apply Or.inr; apply Or.inr; apply Or.inr; apply Or.inr; (and_intros <;> first | rfl | omega))) hP hD dqCo_mayBreakAt_28
  rw [hH0, hL0] at goal
  exact goal
def rm_Co_springFor : Room := { frames := 0, cells := 0, slots := 0, locals := 0 }
set_option maxHeartbeats 4000000 in
set_option maxRecDepth 100000 in
theorem c_Co_springFor (l : Launch) (D : va_G) (cI cJ cZ : ClassId) (co : Nat) (d : Int) (tm : Nat) (lw : Nat) (br : Nat) (n : Int) (b : Int) (mo : Int) (h1 : 0 ≤ b) (h2 : b ≤ 100) (h3 : 0 ≤ mo) (h4 : mo ≤ 100) (h5 : 1 ≤ d) (h6 : d ≤ 100000) : Ml l yqCo_springFor wsqCo_springFor rm_Co_springFor D cI cJ cZ [.ref co, .int (iI d)] [(co, .inr (1, [.ref tm, .ref lw, .ref br, .int (iI n), .int (iI b), .int (iI mo)]))] (S := Unit) (fun z _ => SPR b mo d z) (fun _ => [(co, .inr (1, [.ref tm, .ref lw, .ref br, .int (iI n), .int (iI b), .int (iI mo)]))]) 0 0 := by
  refine en_l (cc := cqCo_springFor) (maxL := 7) (by decide +kernel) rfl (Nat.le_of_ble_eq_true rfl) ?_
  intro p e s m args below meth c A Q hx hb hml hin hts hown hA hP hK hD hN hS hret ls hl
  have hl : lv_has ls 7 [(0, .ref co), (1, .int (iI d))] := hl
  obtain ⟨H, hH0⟩ : ∃ H, H = s.heap := ⟨_, rfl⟩
  obtain ⟨locs, hL0⟩ : ∃ locs : List Loc, locs = [] := ⟨_, rfl⟩
  rw [← hH0] at hP
  have hS : va_S A s.heap H locs := by rw [hH0, hL0]; exact hS
  have goal : W p l e rm_Co_springFor s m args below meth c H locs 0 0 Q (F0 m 0 ls []) := by
    refine lv_iconst (v := iI 0) hx hb dqCo_springFor_0 rfl ?_
    refine lv_istore_n (lv' := [(2, .int (iI 0)), (0, .ref co), (1, .int (iI d))]) hx hb dqCo_springFor_1 rfl hl (by decide) rfl (fun ls hl => ?_)
    have loop_2 : ∀ (n9 : Nat), ∀ (k : Int) (H : Heap) (locs : List Loc) (ls : Array Slot), (0 ≤ k) → (k ≤ 16) → (pw k ≤ d) → ((16 - k).toNat < n9) → va_P D vwCl [(co, .inr (1, [.ref tm, .ref lw, .ref br, .int (iI n), .int (iI b), .int (iI mo)]))] H → va_D A [(co, .inr (1, [.ref tm, .ref lw, .ref br, .int (iI n), .int (iI b), .int (iI mo)]))] → va_S A s.heap H locs → lv_has ls 7 [(2, .int (iI k)), (0, .ref co), (1, .int (iI d))] → W p l e rm_Co_springFor s m args below meth c H locs 0 0 Q (F0 m 2 ls []) := by
      intro n9
      induction n9 with
      | zero =>
        intro k H locs ls k1 k2 k3 hm9
        exact absurd hm9 (by omega)
      | succ n9 ih_2 =>
        intro k H locs ls k1 k2 k3 hm9 hP hD hS hl
        refine lv_iload_n hx hb dqCo_springFor_2 rfl (lv_at hl 0 rfl) ?_
        refine lv_bipush (v := iI 16) hx hb dqCo_springFor_3 (by decide +kernel) ?_
        refine q_icmp_ge (tgt := 21) hx hb dqCo_springFor_5 (by decide) (by omega) (by omega) (by omega) (by omega) (fun c_5 => ?_) (fun c_5 => ?_)
        · have e9 : k = 16 := by omega
          have f9 : pw k = 65536 := by rw [e9]; rfl
          have p8 := pw_b k1 k2
          refine lv_iload_n hx hb dqCo_springFor_21 rfl (lv_at hl 2 rfl) ?_
          refine lv_iconst (v := iI 1) hx hb dqCo_springFor_22 rfl ?_
          refine lv_iload_n hx hb dqCo_springFor_23 rfl (lv_at hl 0 rfl) ?_
          refine lv_ishl hx hb dqCo_springFor_24 ?_
          refine tp_i (y := iI (pw k)) (sh_1 (by omega) (by omega)) ?_
          refine q_isub hx hb dqCo_springFor_25 ?_
          refine q_i2l hx hb dqCo_springFor_26 (by omega) (by omega) ?_
          refine lv_lstore_n (lv' := [(3, .long (lI (d - (pw k)))), (2, .int (iI k)), (0, .ref co), (1, .int (iI d))]) hx hb dqCo_springFor_27 rfl hl (by decide) rfl (fun ls hl => ?_)
          refine lv_ldc2 (v := 65536) hx hb hown (hts (.constantLong RqCo 36 65536) (List.mem_cons_of_mem _ tb_276)) dqCo_springFor_28 ?_
          refine tp_l (y := lI 65536) (by decide +kernel) ?_
          refine lv_aload_n hx hb dqCo_springFor_31 rfl (lv_at hl 2 rfl) ?_
          refine va_get (D := D) (ci := 1) (v := .int (iI b)) (C := RqCo) (T := TqCo) (N := 6) hx hb hts (in_c inqCo) hown hK hP 0 rfl rfl 4 (by decide) (hts (.fieldLink RqCo 26 "SpringSpaces$Columns" "base" "I") (List.mem_cons_of_mem _ tb_53)) (fun _ h9 => h9) rfl dqCo_springFor_32 ?_
          refine lv_aload_n hx hb dqCo_springFor_35 rfl (lv_at hl 2 rfl) ?_
          refine va_get (D := D) (ci := 1) (v := .int (iI mo)) (C := RqCo) (T := TqCo) (N := 6) hx hb hts (in_c inqCo) hown hK hP 0 rfl rfl 5 (by decide) (hts (.fieldLink RqCo 29 "SpringSpaces$Columns" "more" "I") (List.mem_cons_of_mem _ tb_54)) (fun _ h9 => h9) rfl dqCo_springFor_36 ?_
          refine lv_iload_n hx hb dqCo_springFor_39 rfl (lv_at hl 1 rfl) ?_
          refine q_imul hx hb dqCo_springFor_40 ?_
          refine q_iadd hx hb dqCo_springFor_41 ?_
          have p7 := mul_b (a := mo) (b := k) (A := 100) (B := 16) (by omega) (by omega) k1 k2
          refine q_i2l hx hb dqCo_springFor_42 (by omega) (by omega) ?_
          refine q_lmul hx hb dqCo_springFor_43 ?_
          refine lv_lstore (lv' := [(5, .long (lI (65536 * (b + (mo * k))))), (3, .long (lI (d - (pw k)))), (2, .int (iI k)), (0, .ref co), (1, .int (iI d))]) hx hb dqCo_springFor_44 hl (by decide) rfl (fun ls hl => ?_)
          refine lv_lload hx hb dqCo_springFor_46 (lv_at hl 0 rfl) ?_
          refine lv_aload_n hx hb dqCo_springFor_48 rfl (lv_at hl 3 rfl) ?_
          refine va_get (D := D) (ci := 1) (v := .int (iI mo)) (C := RqCo) (T := TqCo) (N := 6) hx hb hts (in_c inqCo) hown hK hP 0 rfl rfl 5 (by decide) (hts (.fieldLink RqCo 29 "SpringSpaces$Columns" "more" "I") (List.mem_cons_of_mem _ tb_54)) (fun _ h9 => h9) rfl dqCo_springFor_49 ?_
          refine q_i2l hx hb dqCo_springFor_52 (by omega) (by omega) ?_
          refine lv_lload_n hx hb dqCo_springFor_53 rfl (lv_at hl 1 rfl) ?_
          refine q_lmul hx hb dqCo_springFor_54 ?_
          refine lv_ldc2 (v := 65536) hx hb hown (hts (.constantLong RqCo 36 65536) (List.mem_cons_of_mem _ tb_276)) dqCo_springFor_55 ?_
          refine tp_l (y := lI 65536) (by decide +kernel) ?_
          refine lv_iload_n hx hb dqCo_springFor_58 rfl (lv_at hl 2 rfl) ?_
          refine lv_lshr (v := lI (pw (16 - k))) hx hb dqCo_springFor_59 (sh_L (by omega) (by omega)) ?_
          refine q_lmul hx hb dqCo_springFor_60 ?_
          refine q_ladd hx hb dqCo_springFor_61 ?_
          exact hret H locs _ ls ((65536 * (b + (mo * k))) + ((mo * (d - (pw k))) * (pw (16 - k)))) () hS (⟨k, k1, k2, k3, (by have p6 := pw_16; omega), rfl⟩) hP hD dqCo_springFor_62
        · have p9 := pw_b k1 k2
          refine lv_iconst (v := iI 2) hx hb dqCo_springFor_8 rfl ?_
          refine lv_iload_n hx hb dqCo_springFor_9 rfl (lv_at hl 0 rfl) ?_
          refine lv_ishl hx hb dqCo_springFor_10 ?_
          refine tp_i (y := iI (2 * pw k)) (sh_2 (by omega) (by omega)) ?_
          refine lv_iload_n hx hb dqCo_springFor_11 rfl (lv_at hl 2 rfl) ?_
          refine q_icmp_gt (tgt := 21) hx hb dqCo_springFor_12 (by decide) (by omega) (by omega) (by omega) (by omega) (fun c_12 => ?_) (fun c_12 => ?_)
          · have p8 := pw_b k1 k2
            refine lv_iload_n hx hb dqCo_springFor_21 rfl (lv_at hl 2 rfl) ?_
            refine lv_iconst (v := iI 1) hx hb dqCo_springFor_22 rfl ?_
            refine lv_iload_n hx hb dqCo_springFor_23 rfl (lv_at hl 0 rfl) ?_
            refine lv_ishl hx hb dqCo_springFor_24 ?_
            refine tp_i (y := iI (pw k)) (sh_1 (by omega) (by omega)) ?_
            refine q_isub hx hb dqCo_springFor_25 ?_
            refine q_i2l hx hb dqCo_springFor_26 (by omega) (by omega) ?_
            refine lv_lstore_n (lv' := [(3, .long (lI (d - (pw k)))), (2, .int (iI k)), (0, .ref co), (1, .int (iI d))]) hx hb dqCo_springFor_27 rfl hl (by decide) rfl (fun ls hl => ?_)
            refine lv_ldc2 (v := 65536) hx hb hown (hts (.constantLong RqCo 36 65536) (List.mem_cons_of_mem _ tb_276)) dqCo_springFor_28 ?_
            refine tp_l (y := lI 65536) (by decide +kernel) ?_
            refine lv_aload_n hx hb dqCo_springFor_31 rfl (lv_at hl 2 rfl) ?_
            refine va_get (D := D) (ci := 1) (v := .int (iI b)) (C := RqCo) (T := TqCo) (N := 6) hx hb hts (in_c inqCo) hown hK hP 0 rfl rfl 4 (by decide) (hts (.fieldLink RqCo 26 "SpringSpaces$Columns" "base" "I") (List.mem_cons_of_mem _ tb_53)) (fun _ h9 => h9) rfl dqCo_springFor_32 ?_
            refine lv_aload_n hx hb dqCo_springFor_35 rfl (lv_at hl 2 rfl) ?_
            refine va_get (D := D) (ci := 1) (v := .int (iI mo)) (C := RqCo) (T := TqCo) (N := 6) hx hb hts (in_c inqCo) hown hK hP 0 rfl rfl 5 (by decide) (hts (.fieldLink RqCo 29 "SpringSpaces$Columns" "more" "I") (List.mem_cons_of_mem _ tb_54)) (fun _ h9 => h9) rfl dqCo_springFor_36 ?_
            refine lv_iload_n hx hb dqCo_springFor_39 rfl (lv_at hl 1 rfl) ?_
            refine q_imul hx hb dqCo_springFor_40 ?_
            refine q_iadd hx hb dqCo_springFor_41 ?_
            have p7 := mul_b (a := mo) (b := k) (A := 100) (B := 16) (by omega) (by omega) k1 k2
            refine q_i2l hx hb dqCo_springFor_42 (by omega) (by omega) ?_
            refine q_lmul hx hb dqCo_springFor_43 ?_
            refine lv_lstore (lv' := [(5, .long (lI (65536 * (b + (mo * k))))), (3, .long (lI (d - (pw k)))), (2, .int (iI k)), (0, .ref co), (1, .int (iI d))]) hx hb dqCo_springFor_44 hl (by decide) rfl (fun ls hl => ?_)
            refine lv_lload hx hb dqCo_springFor_46 (lv_at hl 0 rfl) ?_
            refine lv_aload_n hx hb dqCo_springFor_48 rfl (lv_at hl 3 rfl) ?_
            refine va_get (D := D) (ci := 1) (v := .int (iI mo)) (C := RqCo) (T := TqCo) (N := 6) hx hb hts (in_c inqCo) hown hK hP 0 rfl rfl 5 (by decide) (hts (.fieldLink RqCo 29 "SpringSpaces$Columns" "more" "I") (List.mem_cons_of_mem _ tb_54)) (fun _ h9 => h9) rfl dqCo_springFor_49 ?_
            refine q_i2l hx hb dqCo_springFor_52 (by omega) (by omega) ?_
            refine lv_lload_n hx hb dqCo_springFor_53 rfl (lv_at hl 1 rfl) ?_
            refine q_lmul hx hb dqCo_springFor_54 ?_
            refine lv_ldc2 (v := 65536) hx hb hown (hts (.constantLong RqCo 36 65536) (List.mem_cons_of_mem _ tb_276)) dqCo_springFor_55 ?_
            refine tp_l (y := lI 65536) (by decide +kernel) ?_
            refine lv_iload_n hx hb dqCo_springFor_58 rfl (lv_at hl 2 rfl) ?_
            refine lv_lshr (v := lI (pw (16 - k))) hx hb dqCo_springFor_59 (sh_L (by omega) (by omega)) ?_
            refine q_lmul hx hb dqCo_springFor_60 ?_
            refine q_ladd hx hb dqCo_springFor_61 ?_
            exact hret H locs _ ls ((65536 * (b + (mo * k))) + ((mo * (d - (pw k))) * (pw (16 - k)))) () hS (⟨k, k1, k2, k3, (by have p6 := pw_16; omega), rfl⟩) hP hD dqCo_springFor_62
          · refine lv_iinc (v := iI (k + 1)) (lv' := [(2, .int (iI (k + 1))), (0, .ref co), (1, .int (iI d))]) hx hb dqCo_springFor_15 hl (k := 0) rfl (iI_add _ _) (by decide) rfl (fun ls hl => ?_)
            refine lv_goto (tgt := 2) hx hb dqCo_springFor_18 (by decide) ?_
            exact ih_2 (k + 1) H locs ls (by omega) (by omega) (by rw [pw_s k1]; omega) (by omega) hP hD hS (lv_sub hl [0, 1, 2] rfl)
    exact loop_2 (Int.toNat (16 - 0) + 1) 0 H locs ls (by omega) (by omega) (by rw [pw_0]; omega) (by omega) hP hD hS (lv_sub hl [0, 1, 2] rfl)
  rw [hH0, hL0] at goal
  exact goal
def rm_It_seat : Room := { frames := 0, cells := 0, slots := 0, locals := 0 }
set_option maxHeartbeats 4000000 in
set_option maxRecDepth 100000 in
theorem c_It_seat (l : Launch) (D : va_G) (cI cJ cZ : ClassId) (st : Int) (x : Int)  : Mi l yqIt_seat wsqIt_seat rm_It_seat D cI cJ cZ [.int (iI st), .int (iI x)] [] (S := Unit) (fun z _ => z = st * 24 + x) (fun _ => []) 0 0 := by
  refine en_i (cc := cqIt_seat) (maxL := 2) (ty := .int) (by decide +kernel) rfl (Nat.le_of_ble_eq_true rfl) ?_
  intro p e s m args below meth c A Q hx hb hml hin hts hown hA hP hK hD hN hS hret ls hl
  have hl : lv_has ls 2 [(0, .int (iI st)), (1, .int (iI x))] := hl
  obtain ⟨H, hH0⟩ : ∃ H, H = s.heap := ⟨_, rfl⟩
  obtain ⟨locs, hL0⟩ : ∃ locs : List Loc, locs = [] := ⟨_, rfl⟩
  rw [← hH0] at hP
  have hS : va_S A s.heap H locs := by rw [hH0, hL0]; exact hS
  have goal : W p l e rm_It_seat s m args below meth c H locs 0 0 Q (F0 m 0 ls []) := by
    refine lv_iload_n hx hb dqIt_seat_0 rfl (lv_at hl 0 rfl) ?_
    refine lv_bipush (v := iI 24) hx hb dqIt_seat_1 (by decide +kernel) ?_
    refine q_imul hx hb dqIt_seat_3 ?_
    refine lv_iload_n hx hb dqIt_seat_4 rfl (lv_at hl 1 rfl) ?_
    refine q_iadd hx hb dqIt_seat_5 ?_
    exact hret H locs _ ls ((st * 24) + x) () rfl hS (by first | rfl | trivial | omega | exact bl_y (by omega) | exact bl_n (by omega) | (apply Or.inl; (and_intros <;> first | rfl | omega)) | (apply Or.inr; apply Or.inl; (and_intros <;> first | rfl | omega)) | (apply Or.inr; (and_intros <;> first | rfl | omega)) | (apply Or.inr; apply Or.inr; apply Or.inl; (and_intros <;> first | rfl | omega)) | (apply Or.inr; apply Or.inr; (and_intros <;> first | rfl | omega)) | (apply Or.inr; apply Or.inr; apply Or.inr; apply Or.inl; (and_intros <;> first | rfl | omega)) | (apply Or.inr; apply Or.inr; apply Or.inr; (and_intros <;> first | rfl | omega)) | (apply Or.inr; apply Or.inr; apply Or.inr; apply Or.inr; apply Or.inl; (and_intros <;> first | rfl | omega)) | (apply Or.inr; apply Or.inr; apply Or.inr; apply Or.inr; (and_intros <;> first | rfl | omega))) hP hD dqIt_seat_6
  rw [hH0, hL0] at goal
  exact goal
def rm_It_have : Room := { frames := 1, cells := 0, slots := 0, locals := 21 }
set_option maxHeartbeats 4000000 in
set_option maxRecDepth 100000 in
theorem c_It_have (l : Launch) (D : va_G) (cI cJ cZ : ClassId) (it : Nat) (st : Int) (x : Int) (ia : Nat) (ib : Nat) (ic : Nat) (hf : Int → Int) (h1 : 0 ≤ st) (h2 : st ≤ 3) (h3 : 0 ≤ x) (h4 : x ≤ 23) (hB : B01 96 hf) : Mi l yqIt_have wsqIt_have rm_It_have D cI cJ cZ [.ref it, .int (iI st), .int (iI x)] [(it, .inr (2, [.ref ia, .ref ib, .ref ic])), (ia, .inl (cZ, 96, .inl (ai hf)))] (S := Unit) (fun z _ => z = hf (st * 24 + x)) (fun _ => [(it, .inr (2, [.ref ia, .ref ib, .ref ic])), (ia, .inl (cZ, 96, .inl (ai hf)))]) 0 0 := by
  refine en_i (cc := cqIt_have) (maxL := 3) (ty := .boolean) (by decide +kernel) rfl (Nat.le_of_ble_eq_true rfl) ?_
  intro p e s m args below meth c A Q hx hb hml hin hts hown hA hP hK hD hN hS hret ls hl
  have hl : lv_has ls 3 [(0, .ref it), (1, .int (iI st)), (2, .int (iI x))] := hl
  obtain ⟨H, hH0⟩ : ∃ H, H = s.heap := ⟨_, rfl⟩
  obtain ⟨locs, hL0⟩ : ∃ locs : List Loc, locs = [] := ⟨_, rfl⟩
  rw [← hH0] at hP
  have hS : va_S A s.heap H locs := by rw [hH0, hL0]; exact hS
  have goal : W p l e rm_It_have s m args below meth c H locs 0 0 Q (F0 m 0 ls []) := by
    refine lv_aload_n hx hb dqIt_have_0 rfl (lv_at hl 0 rfl) ?_
    refine va_get (D := D) (ci := 2) (v := .ref ia) (C := RqIt) (T := TqIt) (N := 3) hx hb hts (in_c inqIt) hown hK hP 0 rfl rfl 0 (by decide) (hts (.fieldLink RqIt 9 "SpringSpaces$Items" "there" "[Z") (List.mem_cons_of_mem _ tb_76)) (fun _ h9 => h9) rfl dqIt_have_1 ?_
    refine lv_iload_n hx hb dqIt_have_4 rfl (lv_at hl 1 rfl) ?_
    refine lv_iload_n hx hb dqIt_have_5 rfl (lv_at hl 2 rfl) ?_
    refine af_i (wr := [(it, .inr (2, [.ref ia, .ref ib, .ref ic])), (ia, .inl (cZ, 96, .inl (ai hf)))]) (va_runS (As := [.int (iI st), .int (iI x)]) (rest := [.ref ia]) ⟨hx, hb, hml, hown, hts⟩ (c_It_seat l D cI cJ cZ st x H.size) (va_cwS 2 hts (gi_S tb_305 tb_306 tb_27 tb_307) rfl rfl rfl (by decide +kernel) ⟨Nat.le_of_ble_eq_true rfl, Nat.le_of_ble_eq_true rfl⟩) (pre_S hK hN hP hD [] rfl rfl) rfl rfl hl.1 rfl (lv_room (Nat.le_of_ble_eq_true rfl)) dqIt_have_6 ⟨by first | omega | decide, by first | omega | decide⟩) hA hP hD hS [] [0, 1] rfl rfl (by decide +kernel) (by decide +kernel) (fun z1 u2 H locs hw_z1 hP hD hS => ?_)
    have hP : va_P D vwCl [(it, .inr (2, [.ref ia, .ref ib, .ref ic])), (ia, .inl (cZ, 96, .inl (ai hf)))] H := hP
    have hD : va_D A [(it, .inr (2, [.ref ia, .ref ib, .ref ic])), (ia, .inl (cZ, 96, .inl (ai hf)))] := hD
    have hw_z1 : st * 24 + x = z1 := Eq.symm hw_z1
    subst hw_z1
    refine q_zald (i := st * 24 + x) hx hb hK hP 1 2 rfl rfl (by omega) (by omega) (by omega) dqIt_have_9 ?_
    exact hret H locs _ ls (hf (st * 24 + x)) () (narrow_z (hB _ (by omega) (by omega))) hS (by first | rfl | trivial | omega | exact bl_y (by omega) | exact bl_n (by omega) | (apply Or.inl; (and_intros <;> first | rfl | omega)) | (apply Or.inr; apply Or.inl; (and_intros <;> first | rfl | omega)) | (apply Or.inr; (and_intros <;> first | rfl | omega)) | (apply Or.inr; apply Or.inr; apply Or.inl; (and_intros <;> first | rfl | omega)) | (apply Or.inr; apply Or.inr; (and_intros <;> first | rfl | omega)) | (apply Or.inr; apply Or.inr; apply Or.inr; apply Or.inl; (and_intros <;> first | rfl | omega)) | (apply Or.inr; apply Or.inr; apply Or.inr; (and_intros <;> first | rfl | omega)) | (apply Or.inr; apply Or.inr; apply Or.inr; apply Or.inr; apply Or.inl; (and_intros <;> first | rfl | omega)) | (apply Or.inr; apply Or.inr; apply Or.inr; apply Or.inr; (and_intros <;> first | rfl | omega))) hP hD dqIt_have_10
  rw [hH0, hL0] at goal
  exact goal
def rm_It_leftOf : Room := { frames := 1, cells := 0, slots := 0, locals := 21 }
set_option maxHeartbeats 4000000 in
set_option maxRecDepth 100000 in
theorem c_It_leftOf (l : Launch) (D : va_G) (cI cJ cZ : ClassId) (it : Nat) (st : Int) (x : Int) (ia : Nat) (ib : Nat) (ic : Nat) (ef : Int → Int) (h1 : 0 ≤ st) (h2 : st ≤ 3) (h3 : 0 ≤ x) (h4 : x ≤ 23) : Mi l yqIt_leftOf wsqIt_leftOf rm_It_leftOf D cI cJ cZ [.ref it, .int (iI st), .int (iI x)] [(it, .inr (2, [.ref ia, .ref ib, .ref ic])), (ib, .inl (cI, 96, .inl (ai ef)))] (S := Unit) (fun z _ => z = ef (st * 24 + x)) (fun _ => [(it, .inr (2, [.ref ia, .ref ib, .ref ic])), (ib, .inl (cI, 96, .inl (ai ef)))]) 0 0 := by
  refine en_i (cc := cqIt_leftOf) (maxL := 3) (ty := .int) (by decide +kernel) rfl (Nat.le_of_ble_eq_true rfl) ?_
  intro p e s m args below meth c A Q hx hb hml hin hts hown hA hP hK hD hN hS hret ls hl
  have hl : lv_has ls 3 [(0, .ref it), (1, .int (iI st)), (2, .int (iI x))] := hl
  obtain ⟨H, hH0⟩ : ∃ H, H = s.heap := ⟨_, rfl⟩
  obtain ⟨locs, hL0⟩ : ∃ locs : List Loc, locs = [] := ⟨_, rfl⟩
  rw [← hH0] at hP
  have hS : va_S A s.heap H locs := by rw [hH0, hL0]; exact hS
  have goal : W p l e rm_It_leftOf s m args below meth c H locs 0 0 Q (F0 m 0 ls []) := by
    refine lv_aload_n hx hb dqIt_leftOf_0 rfl (lv_at hl 0 rfl) ?_
    refine va_get (D := D) (ci := 2) (v := .ref ib) (C := RqIt) (T := TqIt) (N := 3) hx hb hts (in_c inqIt) hown hK hP 0 rfl rfl 1 (by decide) (hts (.fieldLink RqIt 15 "SpringSpaces$Items" "lefts" "[I") (List.mem_cons_of_mem _ tb_77)) (fun _ h9 => h9) rfl dqIt_leftOf_1 ?_
    refine lv_iload_n hx hb dqIt_leftOf_4 rfl (lv_at hl 1 rfl) ?_
    refine lv_iload_n hx hb dqIt_leftOf_5 rfl (lv_at hl 2 rfl) ?_
    refine af_i (wr := [(it, .inr (2, [.ref ia, .ref ib, .ref ic])), (ib, .inl (cI, 96, .inl (ai ef)))]) (va_runS (As := [.int (iI st), .int (iI x)]) (rest := [.ref ib]) ⟨hx, hb, hml, hown, hts⟩ (c_It_seat l D cI cJ cZ st x H.size) (va_cwS 2 hts (gi_S tb_305 tb_306 tb_27 tb_307) rfl rfl rfl (by decide +kernel) ⟨Nat.le_of_ble_eq_true rfl, Nat.le_of_ble_eq_true rfl⟩) (pre_S hK hN hP hD [] rfl rfl) rfl rfl hl.1 rfl (lv_room (Nat.le_of_ble_eq_true rfl)) dqIt_leftOf_6 ⟨by first | omega | decide, by first | omega | decide⟩) hA hP hD hS [] [0, 1] rfl rfl (by decide +kernel) (by decide +kernel) (fun z1 u2 H locs hw_z1 hP hD hS => ?_)
    have hP : va_P D vwCl [(it, .inr (2, [.ref ia, .ref ib, .ref ic])), (ib, .inl (cI, 96, .inl (ai ef)))] H := hP
    have hD : va_D A [(it, .inr (2, [.ref ia, .ref ib, .ref ic])), (ib, .inl (cI, 96, .inl (ai ef)))] := hD
    have hw_z1 : st * 24 + x = z1 := Eq.symm hw_z1
    subst hw_z1
    refine q_iald (i := st * 24 + x) hx hb hK hP 1 0 rfl rfl (by omega) (by omega) (by omega) dqIt_leftOf_9 ?_
    exact hret H locs _ ls (ef (st * 24 + x)) () rfl hS (by first | rfl | trivial | omega | exact bl_y (by omega) | exact bl_n (by omega) | (apply Or.inl; (and_intros <;> first | rfl | omega)) | (apply Or.inr; apply Or.inl; (and_intros <;> first | rfl | omega)) | (apply Or.inr; (and_intros <;> first | rfl | omega)) | (apply Or.inr; apply Or.inr; apply Or.inl; (and_intros <;> first | rfl | omega)) | (apply Or.inr; apply Or.inr; (and_intros <;> first | rfl | omega)) | (apply Or.inr; apply Or.inr; apply Or.inr; apply Or.inl; (and_intros <;> first | rfl | omega)) | (apply Or.inr; apply Or.inr; apply Or.inr; (and_intros <;> first | rfl | omega)) | (apply Or.inr; apply Or.inr; apply Or.inr; apply Or.inr; apply Or.inl; (and_intros <;> first | rfl | omega)) | (apply Or.inr; apply Or.inr; apply Or.inr; apply Or.inr; (and_intros <;> first | rfl | omega))) hP hD dqIt_leftOf_10
  rw [hH0, hL0] at goal
  exact goal
def rm_It_rightOf : Room := { frames := 1, cells := 0, slots := 0, locals := 21 }
set_option maxHeartbeats 4000000 in
set_option maxRecDepth 100000 in
theorem c_It_rightOf (l : Launch) (D : va_G) (cI cJ cZ : ClassId) (it : Nat) (st : Int) (x : Int) (ia : Nat) (ib : Nat) (ic : Nat) (gf : Int → Int) (h1 : 0 ≤ st) (h2 : st ≤ 3) (h3 : 0 ≤ x) (h4 : x ≤ 23) : Mi l yqIt_rightOf wsqIt_rightOf rm_It_rightOf D cI cJ cZ [.ref it, .int (iI st), .int (iI x)] [(it, .inr (2, [.ref ia, .ref ib, .ref ic])), (ic, .inl (cI, 96, .inl (ai gf)))] (S := Unit) (fun z _ => z = gf (st * 24 + x)) (fun _ => [(it, .inr (2, [.ref ia, .ref ib, .ref ic])), (ic, .inl (cI, 96, .inl (ai gf)))]) 0 0 := by
  refine en_i (cc := cqIt_rightOf) (maxL := 3) (ty := .int) (by decide +kernel) rfl (Nat.le_of_ble_eq_true rfl) ?_
  intro p e s m args below meth c A Q hx hb hml hin hts hown hA hP hK hD hN hS hret ls hl
  have hl : lv_has ls 3 [(0, .ref it), (1, .int (iI st)), (2, .int (iI x))] := hl
  obtain ⟨H, hH0⟩ : ∃ H, H = s.heap := ⟨_, rfl⟩
  obtain ⟨locs, hL0⟩ : ∃ locs : List Loc, locs = [] := ⟨_, rfl⟩
  rw [← hH0] at hP
  have hS : va_S A s.heap H locs := by rw [hH0, hL0]; exact hS
  have goal : W p l e rm_It_rightOf s m args below meth c H locs 0 0 Q (F0 m 0 ls []) := by
    refine lv_aload_n hx hb dqIt_rightOf_0 rfl (lv_at hl 0 rfl) ?_
    refine va_get (D := D) (ci := 2) (v := .ref ic) (C := RqIt) (T := TqIt) (N := 3) hx hb hts (in_c inqIt) hown hK hP 0 rfl rfl 2 (by decide) (hts (.fieldLink RqIt 19 "SpringSpaces$Items" "rights" "[I") (List.mem_cons_of_mem _ tb_78)) (fun _ h9 => h9) rfl dqIt_rightOf_1 ?_
    refine lv_iload_n hx hb dqIt_rightOf_4 rfl (lv_at hl 1 rfl) ?_
    refine lv_iload_n hx hb dqIt_rightOf_5 rfl (lv_at hl 2 rfl) ?_
    refine af_i (wr := [(it, .inr (2, [.ref ia, .ref ib, .ref ic])), (ic, .inl (cI, 96, .inl (ai gf)))]) (va_runS (As := [.int (iI st), .int (iI x)]) (rest := [.ref ic]) ⟨hx, hb, hml, hown, hts⟩ (c_It_seat l D cI cJ cZ st x H.size) (va_cwS 2 hts (gi_S tb_305 tb_306 tb_27 tb_307) rfl rfl rfl (by decide +kernel) ⟨Nat.le_of_ble_eq_true rfl, Nat.le_of_ble_eq_true rfl⟩) (pre_S hK hN hP hD [] rfl rfl) rfl rfl hl.1 rfl (lv_room (Nat.le_of_ble_eq_true rfl)) dqIt_rightOf_6 ⟨by first | omega | decide, by first | omega | decide⟩) hA hP hD hS [] [0, 1] rfl rfl (by decide +kernel) (by decide +kernel) (fun z1 u2 H locs hw_z1 hP hD hS => ?_)
    have hP : va_P D vwCl [(it, .inr (2, [.ref ia, .ref ib, .ref ic])), (ic, .inl (cI, 96, .inl (ai gf)))] H := hP
    have hD : va_D A [(it, .inr (2, [.ref ia, .ref ib, .ref ic])), (ic, .inl (cI, 96, .inl (ai gf)))] := hD
    have hw_z1 : st * 24 + x = z1 := Eq.symm hw_z1
    subst hw_z1
    refine q_iald (i := st * 24 + x) hx hb hK hP 1 0 rfl rfl (by omega) (by omega) (by omega) dqIt_rightOf_9 ?_
    exact hret H locs _ ls (gf (st * 24 + x)) () rfl hS (by first | rfl | trivial | omega | exact bl_y (by omega) | exact bl_n (by omega) | (apply Or.inl; (and_intros <;> first | rfl | omega)) | (apply Or.inr; apply Or.inl; (and_intros <;> first | rfl | omega)) | (apply Or.inr; (and_intros <;> first | rfl | omega)) | (apply Or.inr; apply Or.inr; apply Or.inl; (and_intros <;> first | rfl | omega)) | (apply Or.inr; apply Or.inr; (and_intros <;> first | rfl | omega)) | (apply Or.inr; apply Or.inr; apply Or.inr; apply Or.inl; (and_intros <;> first | rfl | omega)) | (apply Or.inr; apply Or.inr; apply Or.inr; (and_intros <;> first | rfl | omega)) | (apply Or.inr; apply Or.inr; apply Or.inr; apply Or.inr; apply Or.inl; (and_intros <;> first | rfl | omega)) | (apply Or.inr; apply Or.inr; apply Or.inr; apply Or.inr; (and_intros <;> first | rfl | omega))) hP hD dqIt_rightOf_10
  rw [hH0, hL0] at goal
  exact goal
def rm_It_put : Room := { frames := 1, cells := 0, slots := 0, locals := 21 }
set_option maxHeartbeats 4000000 in
set_option maxRecDepth 100000 in
theorem c_It_put (l : Launch) (D : va_G) (cI cJ cZ : ClassId) (it : Nat) (st : Int) (x : Int) (le : Int) (ri : Int) (ia : Nat) (ib : Nat) (ic : Nat) (hf : Int → Int) (ef : Int → Int) (gf : Int → Int) (h1 : 0 ≤ st) (h2 : st ≤ 3) (h3 : 0 ≤ x) (h4 : x ≤ 23) (hB : B01 96 hf) : Mi l yqIt_put wsqIt_put rm_It_put D cI cJ cZ [.ref it, .int (iI st), .int (iI x), .int (iI le), .int (iI ri)] [(it, .inr (2, [.ref ia, .ref ib, .ref ic])), (ia, .inl (cZ, 96, .inl (ai hf))), (ib, .inl (cI, 96, .inl (ai ef))), (ic, .inl (cI, 96, .inl (ai gf)))] (S := Unit) (fun z _ => z = hf (st * 24 + x)) (fun _ => [(it, .inr (2, [.ref ia, .ref ib, .ref ic])), (ia, .inl (cZ, 96, .inl (ai (up hf (st * 24 + x) 1)))), (ib, .inl (cI, 96, .inl (ai (up ef (st * 24 + x) le)))), (ic, .inl (cI, 96, .inl (ai (up gf (st * 24 + x) ri))))]) 0 0 := by
  refine en_i (cc := cqIt_put) (maxL := 7) (ty := .boolean) (by decide +kernel) rfl (Nat.le_of_ble_eq_true rfl) ?_
  intro p e s m args below meth c A Q hx hb hml hin hts hown hA hP hK hD hN hS hret ls hl
  have hl : lv_has ls 7 [(0, .ref it), (1, .int (iI st)), (2, .int (iI x)), (3, .int (iI le)), (4, .int (iI ri))] := hl
  obtain ⟨H, hH0⟩ : ∃ H, H = s.heap := ⟨_, rfl⟩
  obtain ⟨locs, hL0⟩ : ∃ locs : List Loc, locs = [] := ⟨_, rfl⟩
  rw [← hH0] at hP
  have hS : va_S A s.heap H locs := by rw [hH0, hL0]; exact hS
  have goal : W p l e rm_It_put s m args below meth c H locs 0 0 Q (F0 m 0 ls []) := by
    refine lv_iload_n hx hb dqIt_put_0 rfl (lv_at hl 1 rfl) ?_
    refine lv_iload_n hx hb dqIt_put_1 rfl (lv_at hl 2 rfl) ?_
    refine af_i (wr := [(it, .inr (2, [.ref ia, .ref ib, .ref ic])), (ia, .inl (cZ, 96, .inl (ai hf))), (ib, .inl (cI, 96, .inl (ai ef))), (ic, .inl (cI, 96, .inl (ai gf)))]) (va_runS (As := [.int (iI st), .int (iI x)]) (rest := []) ⟨hx, hb, hml, hown, hts⟩ (c_It_seat l D cI cJ cZ st x H.size) (va_cwS 2 hts (gi_S tb_305 tb_306 tb_27 tb_307) rfl rfl rfl (by decide +kernel) ⟨Nat.le_of_ble_eq_true rfl, Nat.le_of_ble_eq_true rfl⟩) (pre_S hK hN hP hD [] rfl rfl) rfl rfl hl.1 rfl (lv_room (Nat.le_of_ble_eq_true rfl)) dqIt_put_2 ⟨by first | omega | decide, by first | omega | decide⟩) hA hP hD hS [] [0, 1, 2, 3] rfl rfl (by decide +kernel) (by decide +kernel) (fun z1 u2 H locs hw_z1 hP hD hS => ?_)
    have hP : va_P D vwCl [(it, .inr (2, [.ref ia, .ref ib, .ref ic])), (ia, .inl (cZ, 96, .inl (ai hf))), (ib, .inl (cI, 96, .inl (ai ef))), (ic, .inl (cI, 96, .inl (ai gf)))] H := hP
    have hD : va_D A [(it, .inr (2, [.ref ia, .ref ib, .ref ic])), (ia, .inl (cZ, 96, .inl (ai hf))), (ib, .inl (cI, 96, .inl (ai ef))), (ic, .inl (cI, 96, .inl (ai gf)))] := hD
    have hw_z1 : st * 24 + x = z1 := Eq.symm hw_z1
    subst hw_z1
    refine lv_istore (lv' := [(5, .int (iI (st * 24 + x))), (0, .ref it), (1, .int (iI st)), (2, .int (iI x)), (3, .int (iI le)), (4, .int (iI ri))]) hx hb dqIt_put_5 hl (by decide) rfl (fun ls hl => ?_)
    refine lv_aload_n hx hb dqIt_put_7 rfl (lv_at hl 1 rfl) ?_
    refine va_get (D := D) (ci := 2) (v := .ref ia) (C := RqIt) (T := TqIt) (N := 3) hx hb hts (in_c inqIt) hown hK hP 0 rfl rfl 0 (by decide) (hts (.fieldLink RqIt 9 "SpringSpaces$Items" "there" "[Z") (List.mem_cons_of_mem _ tb_76)) (fun _ h9 => h9) rfl dqIt_put_8 ?_
    refine lv_iload hx hb dqIt_put_11 (lv_at hl 0 rfl) ?_
    refine q_zald (i := st * 24 + x) hx hb hK hP 1 2 rfl rfl (by omega) (by omega) (by omega) dqIt_put_13 ?_
    refine lv_istore (lv' := [(6, .int (iI (hf (st * 24 + x)))), (5, .int (iI (st * 24 + x))), (0, .ref it), (1, .int (iI st)), (2, .int (iI x)), (3, .int (iI le)), (4, .int (iI ri))]) hx hb dqIt_put_14 hl (by decide) rfl (fun ls hl => ?_)
    refine lv_aload_n hx hb dqIt_put_16 rfl (lv_at hl 2 rfl) ?_
    refine va_get (D := D) (ci := 2) (v := .ref ia) (C := RqIt) (T := TqIt) (N := 3) hx hb hts (in_c inqIt) hown hK hP 0 rfl rfl 0 (by decide) (hts (.fieldLink RqIt 9 "SpringSpaces$Items" "there" "[Z") (List.mem_cons_of_mem _ tb_76)) (fun _ h9 => h9) rfl dqIt_put_17 ?_
    refine lv_iload hx hb dqIt_put_20 (lv_at hl 1 rfl) ?_
    refine lv_iconst (v := iI 1) hx hb dqIt_put_22 rfl ?_
    refine q_zast (i := st * 24 + x) (x := 1) hx hb hK hP hD hS 1 2 rfl rfl (by omega) (by omega) (by omega) (by omega) dqIt_put_23 (fun H locs hP hD hS => ?_)
    have hP : va_P D vwCl [(it, .inr (2, [.ref ia, .ref ib, .ref ic])), (ia, .inl (cZ, 96, .inl (ai (up hf (st * 24 + x) 1)))), (ib, .inl (cI, 96, .inl (ai ef))), (ic, .inl (cI, 96, .inl (ai gf)))] H := hP
    have hD : va_D A [(it, .inr (2, [.ref ia, .ref ib, .ref ic])), (ia, .inl (cZ, 96, .inl (ai (up hf (st * 24 + x) 1)))), (ib, .inl (cI, 96, .inl (ai ef))), (ic, .inl (cI, 96, .inl (ai gf)))] := hD
    refine lv_aload_n hx hb dqIt_put_24 rfl (lv_at hl 2 rfl) ?_
    refine va_get (D := D) (ci := 2) (v := .ref ib) (C := RqIt) (T := TqIt) (N := 3) hx hb hts (in_c inqIt) hown hK hP 0 rfl rfl 1 (by decide) (hts (.fieldLink RqIt 15 "SpringSpaces$Items" "lefts" "[I") (List.mem_cons_of_mem _ tb_77)) (fun _ h9 => h9) rfl dqIt_put_25 ?_
    refine lv_iload hx hb dqIt_put_28 (lv_at hl 1 rfl) ?_
    refine lv_iload_n hx hb dqIt_put_30 rfl (lv_at hl 5 rfl) ?_
    refine q_iast (i := st * 24 + x) (x := le) hx hb hK hP hD hS 2 0 rfl rfl (by omega) (by omega) (by omega) dqIt_put_31 (fun H locs hP hD hS => ?_)
    have hP : va_P D vwCl [(it, .inr (2, [.ref ia, .ref ib, .ref ic])), (ia, .inl (cZ, 96, .inl (ai (up hf (st * 24 + x) 1)))), (ib, .inl (cI, 96, .inl (ai (up ef (st * 24 + x) le)))), (ic, .inl (cI, 96, .inl (ai gf)))] H := hP
    have hD : va_D A [(it, .inr (2, [.ref ia, .ref ib, .ref ic])), (ia, .inl (cZ, 96, .inl (ai (up hf (st * 24 + x) 1)))), (ib, .inl (cI, 96, .inl (ai (up ef (st * 24 + x) le)))), (ic, .inl (cI, 96, .inl (ai gf)))] := hD
    refine lv_aload_n hx hb dqIt_put_32 rfl (lv_at hl 2 rfl) ?_
    refine va_get (D := D) (ci := 2) (v := .ref ic) (C := RqIt) (T := TqIt) (N := 3) hx hb hts (in_c inqIt) hown hK hP 0 rfl rfl 2 (by decide) (hts (.fieldLink RqIt 19 "SpringSpaces$Items" "rights" "[I") (List.mem_cons_of_mem _ tb_78)) (fun _ h9 => h9) rfl dqIt_put_33 ?_
    refine lv_iload hx hb dqIt_put_36 (lv_at hl 1 rfl) ?_
    refine lv_iload hx hb dqIt_put_38 (lv_at hl 6 rfl) ?_
    refine q_iast (i := st * 24 + x) (x := ri) hx hb hK hP hD hS 3 0 rfl rfl (by omega) (by omega) (by omega) dqIt_put_40 (fun H locs hP hD hS => ?_)
    have hP : va_P D vwCl [(it, .inr (2, [.ref ia, .ref ib, .ref ic])), (ia, .inl (cZ, 96, .inl (ai (up hf (st * 24 + x) 1)))), (ib, .inl (cI, 96, .inl (ai (up ef (st * 24 + x) le)))), (ic, .inl (cI, 96, .inl (ai (up gf (st * 24 + x) ri))))] H := hP
    have hD : va_D A [(it, .inr (2, [.ref ia, .ref ib, .ref ic])), (ia, .inl (cZ, 96, .inl (ai (up hf (st * 24 + x) 1)))), (ib, .inl (cI, 96, .inl (ai (up ef (st * 24 + x) le)))), (ic, .inl (cI, 96, .inl (ai (up gf (st * 24 + x) ri))))] := hD
    refine lv_iload hx hb dqIt_put_41 (lv_at hl 0 rfl) ?_
    exact hret H locs _ ls (hf (st * 24 + x)) () (narrow_z (hB _ (by omega) (by omega))) hS (by first | rfl | trivial | omega | exact bl_y (by omega) | exact bl_n (by omega) | (apply Or.inl; (and_intros <;> first | rfl | omega)) | (apply Or.inr; apply Or.inl; (and_intros <;> first | rfl | omega)) | (apply Or.inr; (and_intros <;> first | rfl | omega)) | (apply Or.inr; apply Or.inr; apply Or.inl; (and_intros <;> first | rfl | omega)) | (apply Or.inr; apply Or.inr; (and_intros <;> first | rfl | omega)) | (apply Or.inr; apply Or.inr; apply Or.inr; apply Or.inl; (and_intros <;> first | rfl | omega)) | (apply Or.inr; apply Or.inr; apply Or.inr; (and_intros <;> first | rfl | omega)) | (apply Or.inr; apply Or.inr; apply Or.inr; apply Or.inr; apply Or.inl; (and_intros <;> first | rfl | omega)) | (apply Or.inr; apply Or.inr; apply Or.inr; apply Or.inr; (and_intros <;> first | rfl | omega))) hP hD dqIt_put_43
  rw [hH0, hL0] at goal
  exact goal
