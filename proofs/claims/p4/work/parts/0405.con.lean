def rm_Li_spans : Room := { frames := 1, cells := 0, slots := 0, locals := 22 }
set_option maxHeartbeats 4000000 in
set_option maxRecDepth 100000 in
theorem c_Li_spans (l : Launch) (D : va_G) (cI cJ cZ : ClassId) (li : Nat) (co : Nat) (x : Int) (sa : Nat) (sb : Nat) (fo : Nat) (fi : Int) (la : Int) (xc : Int) (tm : Nat) (lw : Nat) (br : Nat) (n : Int) (b : Int) (mo : Int) (tf : Int → Int) (h1 : 0 ≤ fi) (h2 : fi ≤ 23) (h3 : -1 ≤ la) (h4 : la ≤ 23) (h5 : 0 ≤ la) (h6 : la < n) (hT : TS n tf) (h8 : fi < n) (h9 : n ≤ 24) (h10 : -2147483648 ≤ x) (h11 : x ≤ 2147483647) : Mi l yqLi_spans wsqLi_spans rm_Li_spans D cI cJ cZ [.ref li, .ref co, .int (iI x)] [(li, .inr (6, [.ref sa, .ref sb, .ref fo, .int (iI fi), .int (iI la), .long (lI xc)])), (co, .inr (1, [.ref tm, .ref lw, .ref br, .int (iI n), .int (iI b), .int (iI mo)])), (tm, .inl (cI, 24, .inl (ai tf)))] (S := Unit) (fun z _ => z = 0 ∨ z = 1) (fun _ => [(li, .inr (6, [.ref sa, .ref sb, .ref fo, .int (iI fi), .int (iI la), .long (lI xc)])), (co, .inr (1, [.ref tm, .ref lw, .ref br, .int (iI n), .int (iI b), .int (iI mo)])), (tm, .inl (cI, 24, .inl (ai tf)))]) 0 0 := by
  refine en_i (cc := cqLi_spans) (maxL := 3) (ty := .boolean) (by decide +kernel) rfl (Nat.le_of_ble_eq_true rfl) ?_
  intro p e s m args below meth c A Q hx hb hml hin hts hown hA hP hK hD hN hS hret ls hl
  have hl : lv_has ls 3 [(0, .ref li), (1, .ref co), (2, .int (iI x))] := hl
  obtain ⟨H, hH0⟩ : ∃ H, H = s.heap := ⟨_, rfl⟩
  obtain ⟨locs, hL0⟩ : ∃ locs : List Loc, locs = [] := ⟨_, rfl⟩
  rw [← hH0] at hP
  have hS : va_S A s.heap H locs := by rw [hH0, hL0]; exact hS
  have goal : W p l e rm_Li_spans s m args below meth c H locs 0 0 Q (F0 m 0 ls []) := by
    refine lv_iload_n hx hb dqLi_spans_0 rfl (lv_at hl 2 rfl) ?_
    refine lv_aload_n hx hb dqLi_spans_1 rfl (lv_at hl 1 rfl) ?_
    refine lv_aload_n hx hb dqLi_spans_2 rfl (lv_at hl 0 rfl) ?_
    refine va_get (D := D) (ci := 6) (v := .int (iI fi)) (C := RqLi) (T := TqLi) (N := 6) hx hb hts (in_c inqLi) hown hK hP 0 rfl rfl 3 (by decide) (hts (.fieldLink RqLi 25 "SpringSpaces$Line" "first" "I") (List.mem_cons_of_mem _ tb_153)) (fun _ h9 => h9) rfl dqLi_spans_3 ?_
    refine af_i (wr := [(li, .inr (6, [.ref sa, .ref sb, .ref fo, .int (iI fi), .int (iI la), .long (lI xc)]))]) (va_runV (As := [.int (iI fi)]) (rest := [.int (iI x)]) ⟨hx, hb, hml, hown, hts⟩ (c_Co_timeOf l D cI cJ cZ co fi tm lw br n b mo tf (by omega) (by omega) H.size) (cwV 1 hts (gi_V tb_567 tb_568 tb_569 tb_26 tb_570) rfl rfl rfl (by decide +kernel) ⟨Nat.le_of_ble_eq_true rfl, Nat.le_of_ble_eq_true rfl⟩) (pre_V (ci := 1) (q0 := 1) hK hN hP hD [1, 2] rfl rfl rfl rfl) rfl rfl hl.1 rfl (lv_room (Nat.le_of_ble_eq_true rfl)) dqLi_spans_6 ⟨by first | omega | decide, by first | omega | decide⟩) hA hP hD hS [1, 2] [0] rfl rfl (by decide +kernel) (by decide +kernel) (fun z1 u2 H locs hw_z1 hP hD hS => ?_)
    have hP : va_P D vwCl [(li, .inr (6, [.ref sa, .ref sb, .ref fo, .int (iI fi), .int (iI la), .long (lI xc)])), (co, .inr (1, [.ref tm, .ref lw, .ref br, .int (iI n), .int (iI b), .int (iI mo)])), (tm, .inl (cI, 24, .inl (ai tf)))] H := hP
    have hD : va_D A [(li, .inr (6, [.ref sa, .ref sb, .ref fo, .int (iI fi), .int (iI la), .long (lI xc)])), (co, .inr (1, [.ref tm, .ref lw, .ref br, .int (iI n), .int (iI b), .int (iI mo)])), (tm, .inl (cI, 24, .inl (ai tf)))] := hD
    have hw_z1 : tf fi = z1 := Eq.symm hw_z1
    subst hw_z1
    refine lv_aload_n hx hb dqLi_spans_9 rfl (lv_at hl 1 rfl) ?_
    refine lv_aload_n hx hb dqLi_spans_10 rfl (lv_at hl 0 rfl) ?_
    refine va_get (D := D) (ci := 6) (v := .int (iI la)) (C := RqLi) (T := TqLi) (N := 6) hx hb hts (in_c inqLi) hown hK hP 0 rfl rfl 4 (by decide) (hts (.fieldLink RqLi 29 "SpringSpaces$Line" "last" "I") (List.mem_cons_of_mem _ tb_154)) (fun _ h9 => h9) rfl dqLi_spans_11 ?_
    refine af_i (wr := [(li, .inr (6, [.ref sa, .ref sb, .ref fo, .int (iI fi), .int (iI la), .long (lI xc)]))]) (va_runV (As := [.int (iI la)]) (rest := [.int (iI (tf fi)), .int (iI x)]) ⟨hx, hb, hml, hown, hts⟩ (c_Co_timeOf l D cI cJ cZ co la tm lw br n b mo tf (by omega) (by omega) H.size) (cwV 1 hts (gi_V tb_567 tb_568 tb_569 tb_26 tb_570) rfl rfl rfl (by decide +kernel) ⟨Nat.le_of_ble_eq_true rfl, Nat.le_of_ble_eq_true rfl⟩) (pre_V (ci := 1) (q0 := 1) hK hN hP hD [1, 2] rfl rfl rfl rfl) rfl rfl hl.1 rfl (lv_room (Nat.le_of_ble_eq_true rfl)) dqLi_spans_14 ⟨by first | omega | decide, by first | omega | decide⟩) hA hP hD hS [1, 2] [0] rfl rfl (by decide +kernel) (by decide +kernel) (fun z3 u4 H locs hw_z3 hP hD hS => ?_)
    have hP : va_P D vwCl [(li, .inr (6, [.ref sa, .ref sb, .ref fo, .int (iI fi), .int (iI la), .long (lI xc)])), (co, .inr (1, [.ref tm, .ref lw, .ref br, .int (iI n), .int (iI b), .int (iI mo)])), (tm, .inl (cI, 24, .inl (ai tf)))] H := hP
    have hD : va_D A [(li, .inr (6, [.ref sa, .ref sb, .ref fo, .int (iI fi), .int (iI la), .long (lI xc)])), (co, .inr (1, [.ref tm, .ref lw, .ref br, .int (iI n), .int (iI b), .int (iI mo)])), (tm, .inl (cI, 24, .inl (ai tf)))] := hD
    have hw_z3 : tf la = z3 := Eq.symm hw_z3
    subst hw_z3
    have d9 := hT.1 fi (by omega) (by omega)
    have d8 := hT.1 la (by omega) (by omega)
    refine af_i (wr := [(li, .inr (6, [.ref sa, .ref sb, .ref fo, .int (iI fi), .int (iI la), .long (lI xc)])), (co, .inr (1, [.ref tm, .ref lw, .ref br, .int (iI n), .int (iI b), .int (iI mo)])), (tm, .inl (cI, 24, .inl (ai tf)))]) (va_runSN (As := [.int (iI x), .int (iI (tf fi)), .int (iI (tf la))]) (rest := []) ⟨hx, hb, hml, hown, hts⟩ (c_X_within l D cI cJ cZ x (tf fi) (tf la) (by omega) (by omega) (by omega) (by omega) (by omega) (by omega) H.size) ⟨va_cnB 3 hts (gi_0 tb_225) rfl rfl rfl (hN _ nl_Li_spans_100) (hts _ (List.mem_cons_of_mem _ tb_25)) (by decide +kernel) ⟨Nat.le_of_ble_eq_true rfl, Nat.le_of_ble_eq_true rfl⟩, (hts _ (List.mem_cons_of_mem _ tb_224)), trivial⟩ (pre_S hK hN hP hD [] rfl rfl) rfl rfl hl.1 rfl (lv_room (Nat.le_of_ble_eq_true rfl)) dqLi_spans_17 ⟨by first | omega | decide, by first | omega | decide⟩) hA hP hD hS [] [0, 1, 2] rfl rfl (by decide +kernel) (by decide +kernel) (fun z5 u6 H locs hw_z5 hP hD hS => ?_)
    have hP : va_P D vwCl [(li, .inr (6, [.ref sa, .ref sb, .ref fo, .int (iI fi), .int (iI la), .long (lI xc)])), (co, .inr (1, [.ref tm, .ref lw, .ref br, .int (iI n), .int (iI b), .int (iI mo)])), (tm, .inl (cI, 24, .inl (ai tf)))] H := hP
    have hD : va_D A [(li, .inr (6, [.ref sa, .ref sb, .ref fo, .int (iI fi), .int (iI la), .long (lI xc)])), (co, .inr (1, [.ref tm, .ref lw, .ref br, .int (iI n), .int (iI b), .int (iI mo)])), (tm, .inl (cI, 24, .inl (ai tf)))] := hD
    have hw_z5 : bl z5 ((tf fi) ≤ x ∧ x ≤ (tf la)) := hw_z5
    exact hret H locs _ ls z5 () (narrow_z (bl_01 hw_z5)) hS (by first | exact hw_z5 | exact bl_01 hw_z5 | exact bl_c hw_z5 (by constructor <;> intro h <;> omega) | rfl | trivial | omega | exact bl_y (by omega) | exact bl_n (by omega) | (apply Or.inl; (and_intros <;> first | rfl | omega)) | (apply Or.inr; apply Or.inl; (and_intros <;> first | rfl | omega)) | (apply Or.inr; (and_intros <;> first | rfl | omega)) | (apply Or.inr; apply Or.inr; apply Or.inl; (and_intros <;> first | rfl | omega)) | (apply Or.inr; apply Or.inr; (and_intros <;> first | rfl | omega)) | (apply Or.inr; apply Or.inr; apply Or.inr; apply Or.inl; (and_intros <;> first | rfl | omega)) | (apply Or.inr; apply Or.inr; apply Or.inr; (and_intros <;> first | rfl | omega)) | (apply Or.inr; apply Or.inr; apply Or.inr; apply Or.inr; apply Or.inl; (and_intros <;> first | rfl | omega)) | (apply Or.inr; apply Or.inr; apply Or.inr; apply Or.inr; (and_intros <;> first | rfl | omega))) hP hD dqLi_spans_20
  rw [hH0, hL0] at goal
  exact goal
def rm_Li_excess : Room := { frames := 0, cells := 0, slots := 0, locals := 0 }
set_option maxHeartbeats 4000000 in
set_option maxRecDepth 100000 in
theorem c_Li_excess (l : Launch) (D : va_G) (cI cJ cZ : ClassId) (li : Nat) (sa : Nat) (sb : Nat) (fo : Nat) (fi : Int) (la : Int) (xc : Int)  : Mi l yqLi_excess wsqLi_excess rm_Li_excess D cI cJ cZ [.ref li] [(li, .inr (6, [.ref sa, .ref sb, .ref fo, .int (iI fi), .int (iI la), .long (lI xc)]))] (S := Unit) (fun z _ => True) (fun _ => [(li, .inr (6, [.ref sa, .ref sb, .ref fo, .int (iI fi), .int (iI la), .long (lI xc)]))]) 0 0 := by
  refine en_i (cc := cqLi_excess) (maxL := 1) (ty := .int) (by decide +kernel) rfl (Nat.le_of_ble_eq_true rfl) ?_
  intro p e s m args below meth c A Q hx hb hml hin hts hown hA hP hK hD hN hS hret ls hl
  have hl : lv_has ls 1 [(0, .ref li)] := hl
  obtain ⟨H, hH0⟩ : ∃ H, H = s.heap := ⟨_, rfl⟩
  obtain ⟨locs, hL0⟩ : ∃ locs : List Loc, locs = [] := ⟨_, rfl⟩
  rw [← hH0] at hP
  have hS : va_S A s.heap H locs := by rw [hH0, hL0]; exact hS
  have goal : W p l e rm_Li_excess s m args below meth c H locs 0 0 Q (F0 m 0 ls []) := by
    refine lv_aload_n hx hb dqLi_excess_0 rfl (lv_at hl 0 rfl) ?_
    refine va_get (D := D) (ci := 6) (v := .long (lI xc)) (C := RqLi) (T := TqLi) (N := 6) hx hb hts (in_c inqLi) hown hK hP 0 rfl rfl 5 (by decide) (hts (.fieldLink RqLi 32 "SpringSpaces$Line" "excess" "J") (List.mem_cons_of_mem _ tb_155)) (fun _ h9 => h9) rfl dqLi_excess_1 ?_
    refine q_l2i hx hb dqLi_excess_4 ?_
    exact hret H locs _ ls xc () rfl hS (by first | rfl | trivial | omega | exact bl_y (by omega) | exact bl_n (by omega) | (apply Or.inl; (and_intros <;> first | rfl | omega)) | (apply Or.inr; apply Or.inl; (and_intros <;> first | rfl | omega)) | (apply Or.inr; (and_intros <;> first | rfl | omega)) | (apply Or.inr; apply Or.inr; apply Or.inl; (and_intros <;> first | rfl | omega)) | (apply Or.inr; apply Or.inr; (and_intros <;> first | rfl | omega)) | (apply Or.inr; apply Or.inr; apply Or.inr; apply Or.inl; (and_intros <;> first | rfl | omega)) | (apply Or.inr; apply Or.inr; apply Or.inr; (and_intros <;> first | rfl | omega)) | (apply Or.inr; apply Or.inr; apply Or.inr; apply Or.inr; apply Or.inl; (and_intros <;> first | rfl | omega)) | (apply Or.inr; apply Or.inr; apply Or.inr; apply Or.inr; (and_intros <;> first | rfl | omega))) hP hD dqLi_excess_5
  rw [hH0, hL0] at goal
  exact goal
def rm_Li_leastOf : Room := { frames := 0, cells := 0, slots := 0, locals := 0 }
set_option maxHeartbeats 4000000 in
set_option maxRecDepth 100000 in
theorem c_Li_leastOf (l : Launch) (D : va_G) (cI cJ cZ : ClassId) (li : Nat) (x : Int) (sa : Nat) (sb : Nat) (fo : Nat) (fi : Int) (la : Int) (xc : Int) (sf : Int → Int) (h1 : 0 ≤ x) (h2 : x < 24) : Mi l yqLi_leastOf wsqLi_leastOf rm_Li_leastOf D cI cJ cZ [.ref li, .int (iI x)] [(li, .inr (6, [.ref sa, .ref sb, .ref fo, .int (iI fi), .int (iI la), .long (lI xc)])), (sa, .inl (cJ, 24, .inr (.inl (al sf))))] (S := Unit) (fun z _ => True) (fun _ => [(li, .inr (6, [.ref sa, .ref sb, .ref fo, .int (iI fi), .int (iI la), .long (lI xc)])), (sa, .inl (cJ, 24, .inr (.inl (al sf))))]) 0 0 := by
  refine en_i (cc := cqLi_leastOf) (maxL := 2) (ty := .int) (by decide +kernel) rfl (Nat.le_of_ble_eq_true rfl) ?_
  intro p e s m args below meth c A Q hx hb hml hin hts hown hA hP hK hD hN hS hret ls hl
  have hl : lv_has ls 2 [(0, .ref li), (1, .int (iI x))] := hl
  obtain ⟨H, hH0⟩ : ∃ H, H = s.heap := ⟨_, rfl⟩
  obtain ⟨locs, hL0⟩ : ∃ locs : List Loc, locs = [] := ⟨_, rfl⟩
  rw [← hH0] at hP
  have hS : va_S A s.heap H locs := by rw [hH0, hL0]; exact hS
  have goal : W p l e rm_Li_leastOf s m args below meth c H locs 0 0 Q (F0 m 0 ls []) := by
    refine lv_aload_n hx hb dqLi_leastOf_0 rfl (lv_at hl 0 rfl) ?_
    refine va_get (D := D) (ci := 6) (v := .ref sa) (C := RqLi) (T := TqLi) (N := 6) hx hb hts (in_c inqLi) hown hK hP 0 rfl rfl 0 (by decide) (hts (.fieldLink RqLi 9 "SpringSpaces$Line" "leasts" "[J") (List.mem_cons_of_mem _ tb_150)) (fun _ h9 => h9) rfl dqLi_leastOf_1 ?_
    refine lv_iload_n hx hb dqLi_leastOf_4 rfl (lv_at hl 1 rfl) ?_
    refine q_lald (i := x) hx hb hK hP 1 1 rfl rfl (by omega) (by omega) (by omega) dqLi_leastOf_5 ?_
    refine hv_l (fun v1 v1a v1b => ?_)
    refine q_l2i hx hb dqLi_leastOf_6 ?_
    exact hret H locs _ ls v1 () rfl hS (by first | rfl | trivial | omega | exact bl_y (by omega) | exact bl_n (by omega) | (apply Or.inl; (and_intros <;> first | rfl | omega)) | (apply Or.inr; apply Or.inl; (and_intros <;> first | rfl | omega)) | (apply Or.inr; (and_intros <;> first | rfl | omega)) | (apply Or.inr; apply Or.inr; apply Or.inl; (and_intros <;> first | rfl | omega)) | (apply Or.inr; apply Or.inr; (and_intros <;> first | rfl | omega)) | (apply Or.inr; apply Or.inr; apply Or.inr; apply Or.inl; (and_intros <;> first | rfl | omega)) | (apply Or.inr; apply Or.inr; apply Or.inr; (and_intros <;> first | rfl | omega)) | (apply Or.inr; apply Or.inr; apply Or.inr; apply Or.inr; apply Or.inl; (and_intros <;> first | rfl | omega)) | (apply Or.inr; apply Or.inr; apply Or.inr; apply Or.inr; (and_intros <;> first | rfl | omega))) hP hD dqLi_leastOf_7
  rw [hH0, hL0] at goal
  exact goal
def rm_Li_forcePart : Room := { frames := 1, cells := 0, slots := 0, locals := 20 }
set_option maxHeartbeats 4000000 in
set_option maxRecDepth 100000 in
theorem c_Li_forcePart (l : Launch) (D : va_G) (cI cJ cZ : ClassId) (li : Nat) (x : Int) (sa : Nat) (sb : Nat) (fo : Nat) (fi : Int) (la : Int) (xc : Int) (fa : Int) (fb : Int) (h1 : -2147483648 ≤ x) (h2 : x ≤ 2147483647) : Ml l yqLi_forcePart wsqLi_forcePart rm_Li_forcePart D cI cJ cZ [.ref li, .int (iI x)] [(li, .inr (6, [.ref sa, .ref sb, .ref fo, .int (iI fi), .int (iI la), .long (lI xc)])), (fo, .inr (5, [.long (lI fa), .long (lI fb)]))] (S := Unit) (fun z _ => True) (fun _ => [(li, .inr (6, [.ref sa, .ref sb, .ref fo, .int (iI fi), .int (iI la), .long (lI xc)])), (fo, .inr (5, [.long (lI fa), .long (lI fb)]))]) 0 0 := by
  refine en_l (cc := cqLi_forcePart) (maxL := 2) (by decide +kernel) rfl (Nat.le_of_ble_eq_true rfl) ?_
  intro p e s m args below meth c A Q hx hb hml hin hts hown hA hP hK hD hN hS hret ls hl
  have hl : lv_has ls 2 [(0, .ref li), (1, .int (iI x))] := hl
  obtain ⟨H, hH0⟩ : ∃ H, H = s.heap := ⟨_, rfl⟩
  obtain ⟨locs, hL0⟩ : ∃ locs : List Loc, locs = [] := ⟨_, rfl⟩
  rw [← hH0] at hP
  have hS : va_S A s.heap H locs := by rw [hH0, hL0]; exact hS
  have goal : W p l e rm_Li_forcePart s m args below meth c H locs 0 0 Q (F0 m 0 ls []) := by
    refine lv_iload_n hx hb dqLi_forcePart_0 rfl (lv_at hl 1 rfl) ?_
    refine q_if_ne (tgt := 14) hx hb dqLi_forcePart_1 (by decide) (by omega) (by omega) (fun c_1 => ?_) (fun c_1 => ?_)
    · refine lv_aload_n hx hb dqLi_forcePart_14 rfl (lv_at hl 0 rfl) ?_
      refine va_get (D := D) (ci := 6) (v := .ref fo) (C := RqLi) (T := TqLi) (N := 6) hx hb hts (in_c inqLi) hown hK hP 0 rfl rfl 2 (by decide) (hts (.fieldLink RqLi 21 "SpringSpaces$Line" "force" "LSpringSpaces$Force;") (List.mem_cons_of_mem _ tb_152)) (fun _ h9 => h9) rfl dqLi_forcePart_15 ?_
      refine af_l (wr := [(li, .inr (6, [.ref sa, .ref sb, .ref fo, .int (iI fi), .int (iI la), .long (lI xc)]))]) (va_runV (As := []) (rest := []) ⟨hx, hb, hml, hown, hts⟩ (c_Fo_below l D cI cJ cZ fo fa fb H.size) (cwV 0 hts (gi_V tb_459 tb_460 tb_461 tb_31 tb_462) rfl rfl rfl (by decide +kernel) ⟨Nat.le_of_ble_eq_true rfl, Nat.le_of_ble_eq_true rfl⟩) (pre_V (ci := 5) (q0 := 1) hK hN hP hD [1] rfl rfl rfl rfl) rfl rfl hl.1 rfl (lv_room (Nat.le_of_ble_eq_true rfl)) dqLi_forcePart_18 ⟨by first | omega | decide, by first | omega | decide⟩) hA hP hD hS [1] [0] rfl rfl (by decide +kernel) (by decide +kernel) (fun z1 u2 H locs hw_z1 hP hD hS => ?_)
      have hP : va_P D vwCl [(li, .inr (6, [.ref sa, .ref sb, .ref fo, .int (iI fi), .int (iI la), .long (lI xc)])), (fo, .inr (5, [.long (lI fa), .long (lI fb)]))] H := hP
      have hD : va_D A [(li, .inr (6, [.ref sa, .ref sb, .ref fo, .int (iI fi), .int (iI la), .long (lI xc)])), (fo, .inr (5, [.long (lI fa), .long (lI fb)]))] := hD
      have hw_z1 : fb = z1 := Eq.symm hw_z1
      subst hw_z1
      exact hret H locs _ ls fb () hS (by first | rfl | trivial | omega | exact bl_y (by omega) | exact bl_n (by omega) | (apply Or.inl; (and_intros <;> first | rfl | omega)) | (apply Or.inr; apply Or.inl; (and_intros <;> first | rfl | omega)) | (apply Or.inr; (and_intros <;> first | rfl | omega)) | (apply Or.inr; apply Or.inr; apply Or.inl; (and_intros <;> first | rfl | omega)) | (apply Or.inr; apply Or.inr; (and_intros <;> first | rfl | omega)) | (apply Or.inr; apply Or.inr; apply Or.inr; apply Or.inl; (and_intros <;> first | rfl | omega)) | (apply Or.inr; apply Or.inr; apply Or.inr; (and_intros <;> first | rfl | omega)) | (apply Or.inr; apply Or.inr; apply Or.inr; apply Or.inr; apply Or.inl; (and_intros <;> first | rfl | omega)) | (apply Or.inr; apply Or.inr; apply Or.inr; apply Or.inr; (and_intros <;> first | rfl | omega))) hP hD dqLi_forcePart_21
    · refine lv_aload_n hx hb dqLi_forcePart_4 rfl (lv_at hl 0 rfl) ?_
      refine va_get (D := D) (ci := 6) (v := .ref fo) (C := RqLi) (T := TqLi) (N := 6) hx hb hts (in_c inqLi) hown hK hP 0 rfl rfl 2 (by decide) (hts (.fieldLink RqLi 21 "SpringSpaces$Line" "force" "LSpringSpaces$Force;") (List.mem_cons_of_mem _ tb_152)) (fun _ h9 => h9) rfl dqLi_forcePart_5 ?_
      refine af_l (wr := [(li, .inr (6, [.ref sa, .ref sb, .ref fo, .int (iI fi), .int (iI la), .long (lI xc)]))]) (va_runV (As := []) (rest := []) ⟨hx, hb, hml, hown, hts⟩ (c_Fo_above l D cI cJ cZ fo fa fb H.size) (cwV 0 hts (gi_V tb_455 tb_456 tb_457 tb_31 tb_458) rfl rfl rfl (by decide +kernel) ⟨Nat.le_of_ble_eq_true rfl, Nat.le_of_ble_eq_true rfl⟩) (pre_V (ci := 5) (q0 := 1) hK hN hP hD [1] rfl rfl rfl rfl) rfl rfl hl.1 rfl (lv_room (Nat.le_of_ble_eq_true rfl)) dqLi_forcePart_8 ⟨by first | omega | decide, by first | omega | decide⟩) hA hP hD hS [1] [0] rfl rfl (by decide +kernel) (by decide +kernel) (fun z3 u4 H locs hw_z3 hP hD hS => ?_)
      have hP : va_P D vwCl [(li, .inr (6, [.ref sa, .ref sb, .ref fo, .int (iI fi), .int (iI la), .long (lI xc)])), (fo, .inr (5, [.long (lI fa), .long (lI fb)]))] H := hP
      have hD : va_D A [(li, .inr (6, [.ref sa, .ref sb, .ref fo, .int (iI fi), .int (iI la), .long (lI xc)])), (fo, .inr (5, [.long (lI fa), .long (lI fb)]))] := hD
      have hw_z3 : fa = z3 := Eq.symm hw_z3
      subst hw_z3
      refine lv_goto (tgt := 21) hx hb dqLi_forcePart_11 (by decide) ?_
      exact hret H locs _ ls fa () hS (by first | rfl | trivial | omega | exact bl_y (by omega) | exact bl_n (by omega) | (apply Or.inl; (and_intros <;> first | rfl | omega)) | (apply Or.inr; apply Or.inl; (and_intros <;> first | rfl | omega)) | (apply Or.inr; (and_intros <;> first | rfl | omega)) | (apply Or.inr; apply Or.inr; apply Or.inl; (and_intros <;> first | rfl | omega)) | (apply Or.inr; apply Or.inr; (and_intros <;> first | rfl | omega)) | (apply Or.inr; apply Or.inr; apply Or.inr; apply Or.inl; (and_intros <;> first | rfl | omega)) | (apply Or.inr; apply Or.inr; apply Or.inr; (and_intros <;> first | rfl | omega)) | (apply Or.inr; apply Or.inr; apply Or.inr; apply Or.inr; apply Or.inl; (and_intros <;> first | rfl | omega)) | (apply Or.inr; apply Or.inr; apply Or.inr; apply Or.inr; (and_intros <;> first | rfl | omega))) hP hD dqLi_forcePart_21
  rw [hH0, hL0] at goal
  exact goal
def rm_Li_widthAbove : Room := { frames := 1, cells := 0, slots := 0, locals := 20 }
set_option maxHeartbeats 4000000 in
set_option maxRecDepth 100000 in
theorem c_Li_widthAbove (l : Launch) (D : va_G) (cI cJ cZ : ClassId) (li : Nat) (x : Int) (sa : Nat) (sb : Nat) (fo : Nat) (fi : Int) (la : Int) (xc : Int) (sf : Int → Int) (pf : Int → Int) (fa : Int) (fb : Int) (h1 : 0 ≤ x) (h2 : x < 24) : Ml l yqLi_widthAbove wsqLi_widthAbove rm_Li_widthAbove D cI cJ cZ [.ref li, .int (iI x)] [(li, .inr (6, [.ref sa, .ref sb, .ref fo, .int (iI fi), .int (iI la), .long (lI xc)])), (sa, .inl (cJ, 24, .inr (.inl (al sf)))), (sb, .inl (cJ, 24, .inr (.inl (al pf)))), (fo, .inr (5, [.long (lI fa), .long (lI fb)]))] (S := Unit) (fun z _ => True) (fun _ => [(li, .inr (6, [.ref sa, .ref sb, .ref fo, .int (iI fi), .int (iI la), .long (lI xc)])), (sa, .inl (cJ, 24, .inr (.inl (al sf)))), (sb, .inl (cJ, 24, .inr (.inl (al pf)))), (fo, .inr (5, [.long (lI fa), .long (lI fb)]))]) 0 0 := by
  refine en_l (cc := cqLi_widthAbove) (maxL := 2) (by decide +kernel) rfl (Nat.le_of_ble_eq_true rfl) ?_
  intro p e s m args below meth c A Q hx hb hml hin hts hown hA hP hK hD hN hS hret ls hl
  have hl : lv_has ls 2 [(0, .ref li), (1, .int (iI x))] := hl
  obtain ⟨H, hH0⟩ : ∃ H, H = s.heap := ⟨_, rfl⟩
  obtain ⟨locs, hL0⟩ : ∃ locs : List Loc, locs = [] := ⟨_, rfl⟩
  rw [← hH0] at hP
  have hS : va_S A s.heap H locs := by rw [hH0, hL0]; exact hS
  have goal : W p l e rm_Li_widthAbove s m args below meth c H locs 0 0 Q (F0 m 0 ls []) := by
    refine lv_aload_n hx hb dqLi_widthAbove_0 rfl (lv_at hl 0 rfl) ?_
    refine va_get (D := D) (ci := 6) (v := .ref sa) (C := RqLi) (T := TqLi) (N := 6) hx hb hts (in_c inqLi) hown hK hP 0 rfl rfl 0 (by decide) (hts (.fieldLink RqLi 9 "SpringSpaces$Line" "leasts" "[J") (List.mem_cons_of_mem _ tb_150)) (fun _ h9 => h9) rfl dqLi_widthAbove_1 ?_
    refine lv_iload_n hx hb dqLi_widthAbove_4 rfl (lv_at hl 1 rfl) ?_
    refine q_lald (i := x) hx hb hK hP 1 1 rfl rfl (by omega) (by omega) (by omega) dqLi_widthAbove_5 ?_
    refine hv_l (fun v1 v1a v1b => ?_)
    refine lv_aload_n hx hb dqLi_widthAbove_6 rfl (lv_at hl 0 rfl) ?_
    refine va_get (D := D) (ci := 6) (v := .ref fo) (C := RqLi) (T := TqLi) (N := 6) hx hb hts (in_c inqLi) hown hK hP 0 rfl rfl 2 (by decide) (hts (.fieldLink RqLi 21 "SpringSpaces$Line" "force" "LSpringSpaces$Force;") (List.mem_cons_of_mem _ tb_152)) (fun _ h9 => h9) rfl dqLi_widthAbove_7 ?_
    refine af_l (wr := [(li, .inr (6, [.ref sa, .ref sb, .ref fo, .int (iI fi), .int (iI la), .long (lI xc)])), (sa, .inl (cJ, 24, .inr (.inl (al sf)))), (sb, .inl (cJ, 24, .inr (.inl (al pf))))]) (va_runV (As := []) (rest := [.long (lI v1)]) ⟨hx, hb, hml, hown, hts⟩ (c_Fo_below l D cI cJ cZ fo fa fb H.size) (cwV 0 hts (gi_V tb_459 tb_460 tb_461 tb_31 tb_462) rfl rfl rfl (by decide +kernel) ⟨Nat.le_of_ble_eq_true rfl, Nat.le_of_ble_eq_true rfl⟩) (pre_V (ci := 5) (q0 := 3) hK hN hP hD [3] rfl rfl rfl rfl) rfl rfl hl.1 rfl (lv_room (Nat.le_of_ble_eq_true rfl)) dqLi_widthAbove_10 ⟨by first | omega | decide, by first | omega | decide⟩) hA hP hD hS [3] [0, 1, 2] rfl rfl (by decide +kernel) (by decide +kernel) (fun z2 u3 H locs hw_z2 hP hD hS => ?_)
    have hP : va_P D vwCl [(li, .inr (6, [.ref sa, .ref sb, .ref fo, .int (iI fi), .int (iI la), .long (lI xc)])), (sa, .inl (cJ, 24, .inr (.inl (al sf)))), (sb, .inl (cJ, 24, .inr (.inl (al pf)))), (fo, .inr (5, [.long (lI fa), .long (lI fb)]))] H := hP
    have hD : va_D A [(li, .inr (6, [.ref sa, .ref sb, .ref fo, .int (iI fi), .int (iI la), .long (lI xc)])), (sa, .inl (cJ, 24, .inr (.inl (al sf)))), (sb, .inl (cJ, 24, .inr (.inl (al pf)))), (fo, .inr (5, [.long (lI fa), .long (lI fb)]))] := hD
    have hw_z2 : fb = z2 := Eq.symm hw_z2
    subst hw_z2
    refine q_lmul hx hb dqLi_widthAbove_13 ?_
    refine hv_l (fun v4 v4a v4b => ?_)
    refine lv_aload_n hx hb dqLi_widthAbove_14 rfl (lv_at hl 0 rfl) ?_
    refine va_get (D := D) (ci := 6) (v := .ref fo) (C := RqLi) (T := TqLi) (N := 6) hx hb hts (in_c inqLi) hown hK hP 0 rfl rfl 2 (by decide) (hts (.fieldLink RqLi 21 "SpringSpaces$Line" "force" "LSpringSpaces$Force;") (List.mem_cons_of_mem _ tb_152)) (fun _ h9 => h9) rfl dqLi_widthAbove_15 ?_
    refine af_l (wr := [(li, .inr (6, [.ref sa, .ref sb, .ref fo, .int (iI fi), .int (iI la), .long (lI xc)])), (sa, .inl (cJ, 24, .inr (.inl (al sf)))), (sb, .inl (cJ, 24, .inr (.inl (al pf))))]) (va_runV (As := []) (rest := [.long (lI v4)]) ⟨hx, hb, hml, hown, hts⟩ (c_Fo_above l D cI cJ cZ fo fa fb H.size) (cwV 0 hts (gi_V tb_455 tb_456 tb_457 tb_31 tb_458) rfl rfl rfl (by decide +kernel) ⟨Nat.le_of_ble_eq_true rfl, Nat.le_of_ble_eq_true rfl⟩) (pre_V (ci := 5) (q0 := 3) hK hN hP hD [3] rfl rfl rfl rfl) rfl rfl hl.1 rfl (lv_room (Nat.le_of_ble_eq_true rfl)) dqLi_widthAbove_18 ⟨by first | omega | decide, by first | omega | decide⟩) hA hP hD hS [3] [0, 1, 2] rfl rfl (by decide +kernel) (by decide +kernel) (fun z5 u6 H locs hw_z5 hP hD hS => ?_)
    have hP : va_P D vwCl [(li, .inr (6, [.ref sa, .ref sb, .ref fo, .int (iI fi), .int (iI la), .long (lI xc)])), (sa, .inl (cJ, 24, .inr (.inl (al sf)))), (sb, .inl (cJ, 24, .inr (.inl (al pf)))), (fo, .inr (5, [.long (lI fa), .long (lI fb)]))] H := hP
    have hD : va_D A [(li, .inr (6, [.ref sa, .ref sb, .ref fo, .int (iI fi), .int (iI la), .long (lI xc)])), (sa, .inl (cJ, 24, .inr (.inl (al sf)))), (sb, .inl (cJ, 24, .inr (.inl (al pf)))), (fo, .inr (5, [.long (lI fa), .long (lI fb)]))] := hD
    have hw_z5 : fa = z5 := Eq.symm hw_z5
    subst hw_z5
    refine lv_aload_n hx hb dqLi_widthAbove_21 rfl (lv_at hl 0 rfl) ?_
    refine va_get (D := D) (ci := 6) (v := .ref sb) (C := RqLi) (T := TqLi) (N := 6) hx hb hts (in_c inqLi) hown hK hP 0 rfl rfl 1 (by decide) (hts (.fieldLink RqLi 15 "SpringSpaces$Line" "springs" "[J") (List.mem_cons_of_mem _ tb_151)) (fun _ h9 => h9) rfl dqLi_widthAbove_22 ?_
    refine lv_iload_n hx hb dqLi_widthAbove_25 rfl (lv_at hl 1 rfl) ?_
    refine q_lald (i := x) hx hb hK hP 2 1 rfl rfl (by omega) (by omega) (by omega) dqLi_widthAbove_26 ?_
    refine hv_l (fun v7 v7a v7b => ?_)
    refine q_lmul hx hb dqLi_widthAbove_27 ?_
    refine hv_l (fun v8 v8a v8b => ?_)
    refine va_mmax_long hx hb (by rw [hml]; exact hl.1.symm) hown (hts _ (List.mem_cons_of_mem _ tb_472)) (hts _ (List.mem_cons_of_mem _ tb_473)) (hts _ (List.mem_cons_of_mem _ tb_34)) (hts _ (List.mem_cons_of_mem _ tb_474)) (Nat.le_of_ble_eq_true rfl) (Nat.le_of_ble_eq_true rfl) (by omega) (by omega) dqLi_widthAbove_28 ?_
    refine hv_l (fun v9 v9a v9b => ?_)
    exact hret H locs _ ls v9 () hS (by first | rfl | trivial | omega | exact bl_y (by omega) | exact bl_n (by omega) | (apply Or.inl; (and_intros <;> first | rfl | omega)) | (apply Or.inr; apply Or.inl; (and_intros <;> first | rfl | omega)) | (apply Or.inr; (and_intros <;> first | rfl | omega)) | (apply Or.inr; apply Or.inr; apply Or.inl; (and_intros <;> first | rfl | omega)) | (apply Or.inr; apply Or.inr; (and_intros <;> first | rfl | omega)) | (apply Or.inr; apply Or.inr; apply Or.inr; apply Or.inl; (and_intros <;> first | rfl | omega)) | (apply Or.inr; apply Or.inr; apply Or.inr; (and_intros <;> first | rfl | omega)) | (apply Or.inr; apply Or.inr; apply Or.inr; apply Or.inr; apply Or.inl; (and_intros <;> first | rfl | omega)) | (apply Or.inr; apply Or.inr; apply Or.inr; apply Or.inr; (and_intros <;> first | rfl | omega))) hP hD dqLi_widthAbove_31
  rw [hH0, hL0] at goal
  exact goal
def rm_Li_widthPart : Room := { frames := 2, cells := 0, slots := 0, locals := 45 }
set_option maxHeartbeats 4000000 in
set_option maxRecDepth 100000 in
theorem c_Li_widthPart (l : Launch) (D : va_G) (cI cJ cZ : ClassId) (li : Nat) (x : Int) (pt : Int) (sa : Nat) (sb : Nat) (fo : Nat) (fi : Int) (la : Int) (xc : Int) (sf : Int → Int) (pf : Int → Int) (fa : Int) (fb : Int) (h1 : 0 ≤ x) (h2 : x < 24) (h3 : -2147483648 ≤ pt) (h4 : pt ≤ 2147483647) : Ml l yqLi_widthPart wsqLi_widthPart rm_Li_widthPart D cI cJ cZ [.ref li, .int (iI x), .int (iI pt)] [(li, .inr (6, [.ref sa, .ref sb, .ref fo, .int (iI fi), .int (iI la), .long (lI xc)])), (sa, .inl (cJ, 24, .inr (.inl (al sf)))), (sb, .inl (cJ, 24, .inr (.inl (al pf)))), (fo, .inr (5, [.long (lI fa), .long (lI fb)]))] (S := Unit) (fun z _ => True) (fun _ => [(li, .inr (6, [.ref sa, .ref sb, .ref fo, .int (iI fi), .int (iI la), .long (lI xc)])), (sa, .inl (cJ, 24, .inr (.inl (al sf)))), (sb, .inl (cJ, 24, .inr (.inl (al pf)))), (fo, .inr (5, [.long (lI fa), .long (lI fb)]))]) 0 0 := by
  refine en_l (cc := cqLi_widthPart) (maxL := 7) (by decide +kernel) rfl (Nat.le_of_ble_eq_true rfl) ?_
  intro p e s m args below meth c A Q hx hb hml hin hts hown hA hP hK hD hN hS hret ls hl
  have hl : lv_has ls 7 [(0, .ref li), (1, .int (iI x)), (2, .int (iI pt))] := hl
  obtain ⟨H, hH0⟩ : ∃ H, H = s.heap := ⟨_, rfl⟩
  obtain ⟨locs, hL0⟩ : ∃ locs : List Loc, locs = [] := ⟨_, rfl⟩
  rw [← hH0] at hP
  have hS : va_S A s.heap H locs := by rw [hH0, hL0]; exact hS
  have goal : W p l e rm_Li_widthPart s m args below meth c H locs 0 0 Q (F0 m 0 ls []) := by
    refine lv_aload_n hx hb dqLi_widthPart_0 rfl (lv_at hl 0 rfl) ?_
    refine lv_iload_n hx hb dqLi_widthPart_1 rfl (lv_at hl 1 rfl) ?_
    refine af_l (wr := []) (va_runV (As := [.int (iI x)]) (rest := []) ⟨hx, hb, hml, hown, hts⟩ (c_Li_widthAbove l D cI cJ cZ li x sa sb fo fi la xc sf pf fa fb (by omega) (by omega) H.size) (cwV 1 hts (gi_V tb_529 tb_531 tb_6 tb_30 tb_532) rfl rfl rfl (by decide +kernel) ⟨Nat.le_of_ble_eq_true rfl, Nat.le_of_ble_eq_true rfl⟩) (pre_V (ci := 6) (q0 := 0) hK hN hP hD [0, 1, 2, 3] rfl rfl rfl rfl) rfl rfl hl.1 rfl (lv_room (Nat.le_of_ble_eq_true rfl)) dqLi_widthPart_2 ⟨by first | omega | decide, by first | omega | decide⟩) hA hP hD hS [0, 1, 2, 3] [] rfl rfl (by decide +kernel) (by decide +kernel) (fun z1 u2 H locs hw_z1 hP hD hS => ?_)
    have hP : va_P D vwCl [(li, .inr (6, [.ref sa, .ref sb, .ref fo, .int (iI fi), .int (iI la), .long (lI xc)])), (sa, .inl (cJ, 24, .inr (.inl (al sf)))), (sb, .inl (cJ, 24, .inr (.inl (al pf)))), (fo, .inr (5, [.long (lI fa), .long (lI fb)]))] H := hP
    have hD : va_D A [(li, .inr (6, [.ref sa, .ref sb, .ref fo, .int (iI fi), .int (iI la), .long (lI xc)])), (sa, .inl (cJ, 24, .inr (.inl (al sf)))), (sb, .inl (cJ, 24, .inr (.inl (al pf)))), (fo, .inr (5, [.long (lI fa), .long (lI fb)]))] := hD
    have hw_z1 : True := hw_z1
    refine lv_lstore_n (lv' := [(3, .long (lI z1)), (0, .ref li), (1, .int (iI x)), (2, .int (iI pt))]) hx hb dqLi_widthPart_5 rfl hl (by decide) rfl (fun ls hl => ?_)
    refine lv_aload_n hx hb dqLi_widthPart_6 rfl (lv_at hl 1 rfl) ?_
    refine va_get (D := D) (ci := 6) (v := .ref fo) (C := RqLi) (T := TqLi) (N := 6) hx hb hts (in_c inqLi) hown hK hP 0 rfl rfl 2 (by decide) (hts (.fieldLink RqLi 21 "SpringSpaces$Line" "force" "LSpringSpaces$Force;") (List.mem_cons_of_mem _ tb_152)) (fun _ h9 => h9) rfl dqLi_widthPart_7 ?_
    refine af_l (wr := [(li, .inr (6, [.ref sa, .ref sb, .ref fo, .int (iI fi), .int (iI la), .long (lI xc)])), (sa, .inl (cJ, 24, .inr (.inl (al sf)))), (sb, .inl (cJ, 24, .inr (.inl (al pf))))]) (va_runV (As := []) (rest := []) ⟨hx, hb, hml, hown, hts⟩ (c_Fo_below l D cI cJ cZ fo fa fb H.size) (cwV 0 hts (gi_V tb_459 tb_460 tb_461 tb_31 tb_462) rfl rfl rfl (by decide +kernel) ⟨Nat.le_of_ble_eq_true rfl, Nat.le_of_ble_eq_true rfl⟩) (pre_V (ci := 5) (q0 := 3) hK hN hP hD [3] rfl rfl rfl rfl) rfl rfl hl.1 rfl (lv_room (Nat.le_of_ble_eq_true rfl)) dqLi_widthPart_10 ⟨by first | omega | decide, by first | omega | decide⟩) hA hP hD hS [3] [0, 1, 2] rfl rfl (by decide +kernel) (by decide +kernel) (fun z3 u4 H locs hw_z3 hP hD hS => ?_)
    have hP : va_P D vwCl [(li, .inr (6, [.ref sa, .ref sb, .ref fo, .int (iI fi), .int (iI la), .long (lI xc)])), (sa, .inl (cJ, 24, .inr (.inl (al sf)))), (sb, .inl (cJ, 24, .inr (.inl (al pf)))), (fo, .inr (5, [.long (lI fa), .long (lI fb)]))] H := hP
    have hD : va_D A [(li, .inr (6, [.ref sa, .ref sb, .ref fo, .int (iI fi), .int (iI la), .long (lI xc)])), (sa, .inl (cJ, 24, .inr (.inl (al sf)))), (sb, .inl (cJ, 24, .inr (.inl (al pf)))), (fo, .inr (5, [.long (lI fa), .long (lI fb)]))] := hD
    have hw_z3 : fb = z3 := Eq.symm hw_z3
    subst hw_z3
    refine lv_lstore (lv' := [(5, .long (lI fb)), (3, .long (lI z1)), (0, .ref li), (1, .int (iI x)), (2, .int (iI pt))]) hx hb dqLi_widthPart_13 hl (by decide) rfl (fun ls hl => ?_)
    refine lv_iload_n hx hb dqLi_widthPart_15 rfl (lv_at hl 4 rfl) ?_
    refine q_if_ne (tgt := 23) hx hb dqLi_widthPart_16 (by decide) (by omega) (by omega) (fun c_16 => ?_) (fun c_16 => ?_)
    · refine lv_lload hx hb dqLi_widthPart_23 (lv_at hl 0 rfl) ?_
      refine lv_lload_n hx hb dqLi_widthPart_25 rfl (lv_at hl 1 rfl) ?_
      refine lv_lload hx hb dqLi_widthPart_26 (lv_at hl 0 rfl) ?_
      refine af_l (wr := [(li, .inr (6, [.ref sa, .ref sb, .ref fo, .int (iI fi), .int (iI la), .long (lI xc)])), (sa, .inl (cJ, 24, .inr (.inl (al sf)))), (sb, .inl (cJ, 24, .inr (.inl (al pf)))), (fo, .inr (5, [.long (lI fa), .long (lI fb)]))]) (va_runSN (As := [.long (lI z1), .long (lI fb)]) (rest := [.long (lI fb)]) ⟨hx, hb, hml, hown, hts⟩ (c_X_commonDivisor l D cI cJ cZ z1 fb H.size) ⟨va_cnB 2 hts (gi_0 tb_485) rfl rfl rfl (hN _ nl_Li_widthPart_110) (hts _ (List.mem_cons_of_mem _ tb_25)) (by decide +kernel) ⟨Nat.le_of_ble_eq_true rfl, Nat.le_of_ble_eq_true rfl⟩, (hts _ (List.mem_cons_of_mem _ tb_484)), trivial⟩ (pre_S hK hN hP hD [] rfl rfl) rfl rfl hl.1 rfl (lv_room (Nat.le_of_ble_eq_true rfl)) dqLi_widthPart_28 ⟨by first | omega | decide, by first | omega | decide⟩) hA hP hD hS [] [0, 1, 2, 3] rfl rfl (by decide +kernel) (by decide +kernel) (fun z5 u6 H locs hw_z5 hP hD hS => ?_)
      have hP : va_P D vwCl [(li, .inr (6, [.ref sa, .ref sb, .ref fo, .int (iI fi), .int (iI la), .long (lI xc)])), (sa, .inl (cJ, 24, .inr (.inl (al sf)))), (sb, .inl (cJ, 24, .inr (.inl (al pf)))), (fo, .inr (5, [.long (lI fa), .long (lI fb)]))] H := hP
      have hD : va_D A [(li, .inr (6, [.ref sa, .ref sb, .ref fo, .int (iI fi), .int (iI la), .long (lI xc)])), (sa, .inl (cJ, 24, .inr (.inl (al sf)))), (sb, .inl (cJ, 24, .inr (.inl (al pf)))), (fo, .inr (5, [.long (lI fa), .long (lI fb)]))] := hD
      have hw_z5 : 1 ≤ z5 ∧ z5 ≤ 9223372036854775807 := hw_z5
      refine q_ldiv_w hx hb dqLi_widthPart_31 (by omega) (by omega) (by omega) (fun v7 v7a v7b => ?_)
      exact hret H locs _ ls v7 () hS (by first | rfl | trivial | omega | exact bl_y (by omega) | exact bl_n (by omega) | (apply Or.inl; (and_intros <;> first | rfl | omega)) | (apply Or.inr; apply Or.inl; (and_intros <;> first | rfl | omega)) | (apply Or.inr; (and_intros <;> first | rfl | omega)) | (apply Or.inr; apply Or.inr; apply Or.inl; (and_intros <;> first | rfl | omega)) | (apply Or.inr; apply Or.inr; (and_intros <;> first | rfl | omega)) | (apply Or.inr; apply Or.inr; apply Or.inr; apply Or.inl; (and_intros <;> first | rfl | omega)) | (apply Or.inr; apply Or.inr; apply Or.inr; (and_intros <;> first | rfl | omega)) | (apply Or.inr; apply Or.inr; apply Or.inr; apply Or.inr; apply Or.inl; (and_intros <;> first | rfl | omega)) | (apply Or.inr; apply Or.inr; apply Or.inr; apply Or.inr; (and_intros <;> first | rfl | omega))) hP hD dqLi_widthPart_32
    · refine lv_lload_n hx hb dqLi_widthPart_19 rfl (lv_at hl 1 rfl) ?_
      refine lv_goto (tgt := 25) hx hb dqLi_widthPart_20 (by decide) ?_
      refine lv_lload_n hx hb dqLi_widthPart_25 rfl (lv_at hl 1 rfl) ?_
      refine lv_lload hx hb dqLi_widthPart_26 (lv_at hl 0 rfl) ?_
      refine af_l (wr := [(li, .inr (6, [.ref sa, .ref sb, .ref fo, .int (iI fi), .int (iI la), .long (lI xc)])), (sa, .inl (cJ, 24, .inr (.inl (al sf)))), (sb, .inl (cJ, 24, .inr (.inl (al pf)))), (fo, .inr (5, [.long (lI fa), .long (lI fb)]))]) (va_runSN (As := [.long (lI z1), .long (lI fb)]) (rest := [.long (lI z1)]) ⟨hx, hb, hml, hown, hts⟩ (c_X_commonDivisor l D cI cJ cZ z1 fb H.size) ⟨va_cnB 2 hts (gi_0 tb_485) rfl rfl rfl (hN _ nl_Li_widthPart_110) (hts _ (List.mem_cons_of_mem _ tb_25)) (by decide +kernel) ⟨Nat.le_of_ble_eq_true rfl, Nat.le_of_ble_eq_true rfl⟩, (hts _ (List.mem_cons_of_mem _ tb_484)), trivial⟩ (pre_S hK hN hP hD [] rfl rfl) rfl rfl hl.1 rfl (lv_room (Nat.le_of_ble_eq_true rfl)) dqLi_widthPart_28 ⟨by first | omega | decide, by first | omega | decide⟩) hA hP hD hS [] [0, 1, 2, 3] rfl rfl (by decide +kernel) (by decide +kernel) (fun z8 u9 H locs hw_z8 hP hD hS => ?_)
      have hP : va_P D vwCl [(li, .inr (6, [.ref sa, .ref sb, .ref fo, .int (iI fi), .int (iI la), .long (lI xc)])), (sa, .inl (cJ, 24, .inr (.inl (al sf)))), (sb, .inl (cJ, 24, .inr (.inl (al pf)))), (fo, .inr (5, [.long (lI fa), .long (lI fb)]))] H := hP
      have hD : va_D A [(li, .inr (6, [.ref sa, .ref sb, .ref fo, .int (iI fi), .int (iI la), .long (lI xc)])), (sa, .inl (cJ, 24, .inr (.inl (al sf)))), (sb, .inl (cJ, 24, .inr (.inl (al pf)))), (fo, .inr (5, [.long (lI fa), .long (lI fb)]))] := hD
      have hw_z8 : 1 ≤ z8 ∧ z8 ≤ 9223372036854775807 := hw_z8
      refine q_ldiv_w hx hb dqLi_widthPart_31 (by omega) (by omega) (by omega) (fun v10 v10a v10b => ?_)
      exact hret H locs _ ls v10 () hS (by first | rfl | trivial | omega | exact bl_y (by omega) | exact bl_n (by omega) | (apply Or.inl; (and_intros <;> first | rfl | omega)) | (apply Or.inr; apply Or.inl; (and_intros <;> first | rfl | omega)) | (apply Or.inr; (and_intros <;> first | rfl | omega)) | (apply Or.inr; apply Or.inr; apply Or.inl; (and_intros <;> first | rfl | omega)) | (apply Or.inr; apply Or.inr; (and_intros <;> first | rfl | omega)) | (apply Or.inr; apply Or.inr; apply Or.inr; apply Or.inl; (and_intros <;> first | rfl | omega)) | (apply Or.inr; apply Or.inr; apply Or.inr; (and_intros <;> first | rfl | omega)) | (apply Or.inr; apply Or.inr; apply Or.inr; apply Or.inr; apply Or.inl; (and_intros <;> first | rfl | omega)) | (apply Or.inr; apply Or.inr; apply Or.inr; apply Or.inr; (and_intros <;> first | rfl | omega))) hP hD dqLi_widthPart_32
  rw [hH0, hL0] at goal
  exact goal
def rm_Li_widthsAboveBefore : Room := { frames := 2, cells := 0, slots := 0, locals := 41 }
set_option maxHeartbeats 4000000 in
set_option maxRecDepth 100000 in
theorem c_Li_widthsAboveBefore (l : Launch) (D : va_G) (cI cJ cZ : ClassId) (li : Nat) (x : Int) (sa : Nat) (sb : Nat) (fo : Nat) (fi : Int) (la : Int) (xc : Int) (sf : Int → Int) (pf : Int → Int) (fa : Int) (fb : Int) (h1 : 0 ≤ fi) (h2 : fi ≤ 23) (h3 : -1 ≤ la) (h4 : la ≤ 23) (h5 : x ≤ 24) (h6 : -2147483648 ≤ x) : Ml l yqLi_widthsAboveBefore wsqLi_widthsAboveBefore rm_Li_widthsAboveBefore D cI cJ cZ [.ref li, .int (iI x)] [(li, .inr (6, [.ref sa, .ref sb, .ref fo, .int (iI fi), .int (iI la), .long (lI xc)])), (sa, .inl (cJ, 24, .inr (.inl (al sf)))), (sb, .inl (cJ, 24, .inr (.inl (al pf)))), (fo, .inr (5, [.long (lI fa), .long (lI fb)]))] (S := Unit) (fun z _ => True) (fun _ => [(li, .inr (6, [.ref sa, .ref sb, .ref fo, .int (iI fi), .int (iI la), .long (lI xc)])), (sa, .inl (cJ, 24, .inr (.inl (al sf)))), (sb, .inl (cJ, 24, .inr (.inl (al pf)))), (fo, .inr (5, [.long (lI fa), .long (lI fb)]))]) 0 0 := by
  refine en_l (cc := cqLi_widthsAboveBefore) (maxL := 5) (by decide +kernel) rfl (Nat.le_of_ble_eq_true rfl) ?_
  intro p e s m args below meth c A Q hx hb hml hin hts hown hA hP hK hD hN hS hret ls hl
  have hl : lv_has ls 5 [(0, .ref li), (1, .int (iI x))] := hl
  obtain ⟨H, hH0⟩ : ∃ H, H = s.heap := ⟨_, rfl⟩
  obtain ⟨locs, hL0⟩ : ∃ locs : List Loc, locs = [] := ⟨_, rfl⟩
  rw [← hH0] at hP
  have hS : va_S A s.heap H locs := by rw [hH0, hL0]; exact hS
  have goal : W p l e rm_Li_widthsAboveBefore s m args below meth c H locs 0 0 Q (F0 m 0 ls []) := by
    refine lv_lconst (v := lI 0) hx hb dqLi_widthsAboveBefore_0 (by decide +kernel) ?_
    refine lv_lstore_n (lv' := [(2, .long (lI 0)), (0, .ref li), (1, .int (iI x))]) hx hb dqLi_widthsAboveBefore_1 rfl hl (by decide) rfl (fun ls hl => ?_)
    refine lv_aload_n hx hb dqLi_widthsAboveBefore_2 rfl (lv_at hl 1 rfl) ?_
    refine va_get (D := D) (ci := 6) (v := .int (iI fi)) (C := RqLi) (T := TqLi) (N := 6) hx hb hts (in_c inqLi) hown hK hP 0 rfl rfl 3 (by decide) (hts (.fieldLink RqLi 25 "SpringSpaces$Line" "first" "I") (List.mem_cons_of_mem _ tb_153)) (fun _ h9 => h9) rfl dqLi_widthsAboveBefore_3 ?_
    refine lv_istore (lv' := [(4, .int (iI fi)), (2, .long (lI 0)), (0, .ref li), (1, .int (iI x))]) hx hb dqLi_widthsAboveBefore_6 hl (by decide) rfl (fun ls hl => ?_)
    have loop_8 : ∀ (n9 : Nat), ∀ (sm : Int) (k : Int) (H : Heap) (locs : List Loc) (ls : Array Slot), (0 ≤ k) → (k ≤ 24) → ((x - k).toNat < n9) → va_P D vwCl [(li, .inr (6, [.ref sa, .ref sb, .ref fo, .int (iI fi), .int (iI la), .long (lI xc)])), (sa, .inl (cJ, 24, .inr (.inl (al sf)))), (sb, .inl (cJ, 24, .inr (.inl (al pf)))), (fo, .inr (5, [.long (lI fa), .long (lI fb)]))] H → va_D A [(li, .inr (6, [.ref sa, .ref sb, .ref fo, .int (iI fi), .int (iI la), .long (lI xc)])), (sa, .inl (cJ, 24, .inr (.inl (al sf)))), (sb, .inl (cJ, 24, .inr (.inl (al pf)))), (fo, .inr (5, [.long (lI fa), .long (lI fb)]))] → va_S A s.heap H locs → lv_has ls 5 [(4, .int (iI k)), (2, .long (lI sm)), (0, .ref li), (1, .int (iI x))] → W p l e rm_Li_widthsAboveBefore s m args below meth c H locs 0 0 Q (F0 m 8 ls []) := by
      intro n9
      induction n9 with
      | zero =>
        intro sm k H locs ls k1 k2 hm9
        exact absurd hm9 (by omega)
      | succ n9 ih_8 =>
        intro sm k H locs ls k1 k2 hm9 hP hD hS hl
        refine lv_iload hx hb dqLi_widthsAboveBefore_8 (lv_at hl 0 rfl) ?_
        refine lv_iload_n hx hb dqLi_widthsAboveBefore_10 rfl (lv_at hl 3 rfl) ?_
        refine q_icmp_ge (tgt := 29) hx hb dqLi_widthsAboveBefore_11 (by decide) (by omega) (by omega) (by omega) (by omega) (fun c_11 => ?_) (fun c_11 => ?_)
        · refine lv_lload_n hx hb dqLi_widthsAboveBefore_29 rfl (lv_at hl 1 rfl) ?_
          exact hret H locs _ ls sm () hS (by first | rfl | trivial | omega | exact bl_y (by omega) | exact bl_n (by omega) | (apply Or.inl; (and_intros <;> first | rfl | omega)) | (apply Or.inr; apply Or.inl; (and_intros <;> first | rfl | omega)) | (apply Or.inr; (and_intros <;> first | rfl | omega)) | (apply Or.inr; apply Or.inr; apply Or.inl; (and_intros <;> first | rfl | omega)) | (apply Or.inr; apply Or.inr; (and_intros <;> first | rfl | omega)) | (apply Or.inr; apply Or.inr; apply Or.inr; apply Or.inl; (and_intros <;> first | rfl | omega)) | (apply Or.inr; apply Or.inr; apply Or.inr; (and_intros <;> first | rfl | omega)) | (apply Or.inr; apply Or.inr; apply Or.inr; apply Or.inr; apply Or.inl; (and_intros <;> first | rfl | omega)) | (apply Or.inr; apply Or.inr; apply Or.inr; apply Or.inr; (and_intros <;> first | rfl | omega))) hP hD dqLi_widthsAboveBefore_30
        · refine lv_lload_n hx hb dqLi_widthsAboveBefore_14 rfl (lv_at hl 1 rfl) ?_
          refine lv_aload_n hx hb dqLi_widthsAboveBefore_15 rfl (lv_at hl 2 rfl) ?_
          refine lv_iload hx hb dqLi_widthsAboveBefore_16 (lv_at hl 0 rfl) ?_
          refine af_l (wr := []) (va_runV (As := [.int (iI k)]) (rest := [.long (lI sm)]) ⟨hx, hb, hml, hown, hts⟩ (c_Li_widthAbove l D cI cJ cZ li k sa sb fo fi la xc sf pf fa fb (by omega) (by omega) H.size) (cwV 1 hts (gi_V tb_529 tb_531 tb_6 tb_30 tb_532) rfl rfl rfl (by decide +kernel) ⟨Nat.le_of_ble_eq_true rfl, Nat.le_of_ble_eq_true rfl⟩) (pre_V (ci := 6) (q0 := 0) hK hN hP hD [0, 1, 2, 3] rfl rfl rfl rfl) rfl rfl hl.1 rfl (lv_room (Nat.le_of_ble_eq_true rfl)) dqLi_widthsAboveBefore_18 ⟨by first | omega | decide, by first | omega | decide⟩) hA hP hD hS [0, 1, 2, 3] [] rfl rfl (by decide +kernel) (by decide +kernel) (fun z1 u2 H locs hw_z1 hP hD hS => ?_)
          have hP : va_P D vwCl [(li, .inr (6, [.ref sa, .ref sb, .ref fo, .int (iI fi), .int (iI la), .long (lI xc)])), (sa, .inl (cJ, 24, .inr (.inl (al sf)))), (sb, .inl (cJ, 24, .inr (.inl (al pf)))), (fo, .inr (5, [.long (lI fa), .long (lI fb)]))] H := hP
          have hD : va_D A [(li, .inr (6, [.ref sa, .ref sb, .ref fo, .int (iI fi), .int (iI la), .long (lI xc)])), (sa, .inl (cJ, 24, .inr (.inl (al sf)))), (sb, .inl (cJ, 24, .inr (.inl (al pf)))), (fo, .inr (5, [.long (lI fa), .long (lI fb)]))] := hD
          have hw_z1 : True := hw_z1
          refine q_ladd hx hb dqLi_widthsAboveBefore_21 ?_
          refine hv_l (fun v3 v3a v3b => ?_)
          refine lv_lstore_n (lv' := [(2, .long (lI v3)), (4, .int (iI k)), (0, .ref li), (1, .int (iI x))]) hx hb dqLi_widthsAboveBefore_22 rfl hl (by decide) rfl (fun ls hl => ?_)
          refine lv_iinc (v := iI (k + 1)) (lv' := [(4, .int (iI (k + 1))), (2, .long (lI v3)), (0, .ref li), (1, .int (iI x))]) hx hb dqLi_widthsAboveBefore_23 hl (k := 1) rfl (iI_add _ _) (by decide) rfl (fun ls hl => ?_)
          refine lv_goto (tgt := 8) hx hb dqLi_widthsAboveBefore_26 (by decide) ?_
          exact ih_8 v3 (k + 1) H locs ls (by omega) (by omega) (by omega) hP hD hS (lv_sub hl [0, 1, 2, 3] rfl)
    exact loop_8 (Int.toNat (x - fi) + 1) 0 fi H locs ls (by omega) (by omega) (by omega) hP hD hS (lv_sub hl [0, 1, 2, 3] rfl)
  rw [hH0, hL0] at goal
  exact goal
def rm_Li_placeOf : Room := { frames := 3, cells := 0, slots := 0, locals := 65 }
set_option maxHeartbeats 4000000 in
set_option maxRecDepth 100000 in
theorem c_Li_placeOf (l : Launch) (D : va_G) (cI cJ cZ : ClassId) (li : Nat) (x : Int) (sa : Nat) (sb : Nat) (fo : Nat) (fi : Int) (la : Int) (xc : Int) (sf : Int → Int) (pf : Int → Int) (fa : Int) (fb : Int) (h1 : 0 ≤ fi) (h2 : fi ≤ 23) (h3 : -1 ≤ la) (h4 : la ≤ 23) (h5 : x ≤ 24) (h6 : -2147483648 ≤ x) : Mi l yqLi_placeOf wsqLi_placeOf rm_Li_placeOf D cI cJ cZ [.ref li, .int (iI x)] [(li, .inr (6, [.ref sa, .ref sb, .ref fo, .int (iI fi), .int (iI la), .long (lI xc)])), (sa, .inl (cJ, 24, .inr (.inl (al sf)))), (sb, .inl (cJ, 24, .inr (.inl (al pf)))), (fo, .inr (5, [.long (lI fa), .long (lI fb)]))] (S := Unit) (fun z _ => True) (fun _ => [(li, .inr (6, [.ref sa, .ref sb, .ref fo, .int (iI fi), .int (iI la), .long (lI xc)])), (sa, .inl (cJ, 24, .inr (.inl (al sf)))), (sb, .inl (cJ, 24, .inr (.inl (al pf)))), (fo, .inr (5, [.long (lI fa), .long (lI fb)]))]) 0 0 := by
  refine en_i (cc := cqLi_placeOf) (maxL := 2) (ty := .int) (by decide +kernel) rfl (Nat.le_of_ble_eq_true rfl) ?_
  intro p e s m args below meth c A Q hx hb hml hin hts hown hA hP hK hD hN hS hret ls hl
  have hl : lv_has ls 2 [(0, .ref li), (1, .int (iI x))] := hl
  obtain ⟨H, hH0⟩ : ∃ H, H = s.heap := ⟨_, rfl⟩
  obtain ⟨locs, hL0⟩ : ∃ locs : List Loc, locs = [] := ⟨_, rfl⟩
  rw [← hH0] at hP
  have hS : va_S A s.heap H locs := by rw [hH0, hL0]; exact hS
  have goal : W p l e rm_Li_placeOf s m args below meth c H locs 0 0 Q (F0 m 0 ls []) := by
    refine lv_aload_n hx hb dqLi_placeOf_0 rfl (lv_at hl 0 rfl) ?_
    refine lv_iload_n hx hb dqLi_placeOf_1 rfl (lv_at hl 1 rfl) ?_
    refine af_l (wr := []) (va_runV (As := [.int (iI x)]) (rest := []) ⟨hx, hb, hml, hown, hts⟩ (c_Li_widthsAboveBefore l D cI cJ cZ li x sa sb fo fi la xc sf pf fa fb (by omega) (by omega) (by omega) (by omega) (by omega) (by omega) H.size) (cwV 1 hts (gi_V tb_554 tb_556 tb_7 tb_30 tb_557) rfl rfl rfl (by decide +kernel) ⟨Nat.le_of_ble_eq_true rfl, Nat.le_of_ble_eq_true rfl⟩) (pre_V (ci := 6) (q0 := 0) hK hN hP hD [0, 1, 2, 3] rfl rfl rfl rfl) rfl rfl hl.1 rfl (lv_room (Nat.le_of_ble_eq_true rfl)) dqLi_placeOf_2 ⟨by first | omega | decide, by first | omega | decide⟩) hA hP hD hS [0, 1, 2, 3] [] rfl rfl (by decide +kernel) (by decide +kernel) (fun z1 u2 H locs hw_z1 hP hD hS => ?_)
    have hP : va_P D vwCl [(li, .inr (6, [.ref sa, .ref sb, .ref fo, .int (iI fi), .int (iI la), .long (lI xc)])), (sa, .inl (cJ, 24, .inr (.inl (al sf)))), (sb, .inl (cJ, 24, .inr (.inl (al pf)))), (fo, .inr (5, [.long (lI fa), .long (lI fb)]))] H := hP
    have hD : va_D A [(li, .inr (6, [.ref sa, .ref sb, .ref fo, .int (iI fi), .int (iI la), .long (lI xc)])), (sa, .inl (cJ, 24, .inr (.inl (al sf)))), (sb, .inl (cJ, 24, .inr (.inl (al pf)))), (fo, .inr (5, [.long (lI fa), .long (lI fb)]))] := hD
    have hw_z1 : True := hw_z1
    refine lv_aload_n hx hb dqLi_placeOf_5 rfl (lv_at hl 0 rfl) ?_
    refine va_get (D := D) (ci := 6) (v := .ref fo) (C := RqLi) (T := TqLi) (N := 6) hx hb hts (in_c inqLi) hown hK hP 0 rfl rfl 2 (by decide) (hts (.fieldLink RqLi 21 "SpringSpaces$Line" "force" "LSpringSpaces$Force;") (List.mem_cons_of_mem _ tb_152)) (fun _ h9 => h9) rfl dqLi_placeOf_6 ?_
    refine af_l (wr := [(li, .inr (6, [.ref sa, .ref sb, .ref fo, .int (iI fi), .int (iI la), .long (lI xc)])), (sa, .inl (cJ, 24, .inr (.inl (al sf)))), (sb, .inl (cJ, 24, .inr (.inl (al pf))))]) (va_runV (As := []) (rest := [.long (lI z1)]) ⟨hx, hb, hml, hown, hts⟩ (c_Fo_below l D cI cJ cZ fo fa fb H.size) (cwV 0 hts (gi_V tb_459 tb_460 tb_461 tb_31 tb_462) rfl rfl rfl (by decide +kernel) ⟨Nat.le_of_ble_eq_true rfl, Nat.le_of_ble_eq_true rfl⟩) (pre_V (ci := 5) (q0 := 3) hK hN hP hD [3] rfl rfl rfl rfl) rfl rfl hl.1 rfl (lv_room (Nat.le_of_ble_eq_true rfl)) dqLi_placeOf_9 ⟨by first | omega | decide, by first | omega | decide⟩) hA hP hD hS [3] [0, 1, 2] rfl rfl (by decide +kernel) (by decide +kernel) (fun z3 u4 H locs hw_z3 hP hD hS => ?_)
    have hP : va_P D vwCl [(li, .inr (6, [.ref sa, .ref sb, .ref fo, .int (iI fi), .int (iI la), .long (lI xc)])), (sa, .inl (cJ, 24, .inr (.inl (al sf)))), (sb, .inl (cJ, 24, .inr (.inl (al pf)))), (fo, .inr (5, [.long (lI fa), .long (lI fb)]))] H := hP
    have hD : va_D A [(li, .inr (6, [.ref sa, .ref sb, .ref fo, .int (iI fi), .int (iI la), .long (lI xc)])), (sa, .inl (cJ, 24, .inr (.inl (al sf)))), (sb, .inl (cJ, 24, .inr (.inl (al pf)))), (fo, .inr (5, [.long (lI fa), .long (lI fb)]))] := hD
    have hw_z3 : fb = z3 := Eq.symm hw_z3
    subst hw_z3
    refine af_l (wr := [(li, .inr (6, [.ref sa, .ref sb, .ref fo, .int (iI fi), .int (iI la), .long (lI xc)])), (sa, .inl (cJ, 24, .inr (.inl (al sf)))), (sb, .inl (cJ, 24, .inr (.inl (al pf)))), (fo, .inr (5, [.long (lI fa), .long (lI fb)]))]) (va_runSN (As := [.long (lI z1), .long (lI fb)]) (rest := []) ⟨hx, hb, hml, hown, hts⟩ (c_X_dividedDown l D cI cJ cZ z1 fb H.size) ⟨va_cnB 2 hts (gi_0 tb_468) rfl rfl rfl (hN _ nl_Li_placeOf_116) (hts _ (List.mem_cons_of_mem _ tb_25)) (by decide +kernel) ⟨Nat.le_of_ble_eq_true rfl, Nat.le_of_ble_eq_true rfl⟩, (hts _ (List.mem_cons_of_mem _ tb_467)), trivial⟩ (pre_S hK hN hP hD [] rfl rfl) rfl rfl hl.1 rfl (lv_room (Nat.le_of_ble_eq_true rfl)) dqLi_placeOf_12 ⟨by first | omega | decide, by first | omega | decide⟩) hA hP hD hS [] [0, 1, 2, 3] rfl rfl (by decide +kernel) (by decide +kernel) (fun z5 u6 H locs hw_z5 hP hD hS => ?_)
    have hP : va_P D vwCl [(li, .inr (6, [.ref sa, .ref sb, .ref fo, .int (iI fi), .int (iI la), .long (lI xc)])), (sa, .inl (cJ, 24, .inr (.inl (al sf)))), (sb, .inl (cJ, 24, .inr (.inl (al pf)))), (fo, .inr (5, [.long (lI fa), .long (lI fb)]))] H := hP
    have hD : va_D A [(li, .inr (6, [.ref sa, .ref sb, .ref fo, .int (iI fi), .int (iI la), .long (lI xc)])), (sa, .inl (cJ, 24, .inr (.inl (al sf)))), (sb, .inl (cJ, 24, .inr (.inl (al pf)))), (fo, .inr (5, [.long (lI fa), .long (lI fb)]))] := hD
    have hw_z5 : True := hw_z5
    refine q_l2i hx hb dqLi_placeOf_15 ?_
    exact hret H locs _ ls z5 () rfl hS (by first | rfl | trivial | omega | exact bl_y (by omega) | exact bl_n (by omega) | (apply Or.inl; (and_intros <;> first | rfl | omega)) | (apply Or.inr; apply Or.inl; (and_intros <;> first | rfl | omega)) | (apply Or.inr; (and_intros <;> first | rfl | omega)) | (apply Or.inr; apply Or.inr; apply Or.inl; (and_intros <;> first | rfl | omega)) | (apply Or.inr; apply Or.inr; (and_intros <;> first | rfl | omega)) | (apply Or.inr; apply Or.inr; apply Or.inr; apply Or.inl; (and_intros <;> first | rfl | omega)) | (apply Or.inr; apply Or.inr; apply Or.inr; (and_intros <;> first | rfl | omega)) | (apply Or.inr; apply Or.inr; apply Or.inr; apply Or.inr; apply Or.inl; (and_intros <;> first | rfl | omega)) | (apply Or.inr; apply Or.inr; apply Or.inr; apply Or.inr; (and_intros <;> first | rfl | omega))) hP hD dqLi_placeOf_16
  rw [hH0, hL0] at goal
  exact goal
def rm_Li_placeAt : Room := { frames := 3, cells := 0, slots := 0, locals := 65 }
set_option maxHeartbeats 4000000 in
set_option maxRecDepth 100000 in
theorem c_Li_placeAt (l : Launch) (D : va_G) (cI cJ cZ : ClassId) (li : Nat) (co : Nat) (x : Int) (sa : Nat) (sb : Nat) (fo : Nat) (fi : Int) (la : Int) (xc : Int) (sf : Int → Int) (pf : Int → Int) (fa : Int) (fb : Int) (tm : Nat) (lw : Nat) (br : Nat) (n : Int) (b : Int) (mo : Int) (tf : Int → Int) (h1 : 0 ≤ fi) (h2 : fi < la) (h3 : la ≤ 23) (h4 : -2147483648 ≤ x) (h5 : x ≤ 2147483647) : Mi l yqLi_placeAt wsqLi_placeAt rm_Li_placeAt D cI cJ cZ [.ref li, .ref co, .int (iI x)] [(li, .inr (6, [.ref sa, .ref sb, .ref fo, .int (iI fi), .int (iI la), .long (lI xc)])), (sa, .inl (cJ, 24, .inr (.inl (al sf)))), (sb, .inl (cJ, 24, .inr (.inl (al pf)))), (fo, .inr (5, [.long (lI fa), .long (lI fb)])), (co, .inr (1, [.ref tm, .ref lw, .ref br, .int (iI n), .int (iI b), .int (iI mo)])), (tm, .inl (cI, 24, .inl (ai tf)))] (S := Unit) (fun z _ => True) (fun _ => [(li, .inr (6, [.ref sa, .ref sb, .ref fo, .int (iI fi), .int (iI la), .long (lI xc)])), (sa, .inl (cJ, 24, .inr (.inl (al sf)))), (sb, .inl (cJ, 24, .inr (.inl (al pf)))), (fo, .inr (5, [.long (lI fa), .long (lI fb)])), (co, .inr (1, [.ref tm, .ref lw, .ref br, .int (iI n), .int (iI b), .int (iI mo)])), (tm, .inl (cI, 24, .inl (ai tf)))]) 0 0 := by
  refine en_i (cc := cqLi_placeAt) (maxL := 10) (ty := .int) (by decide +kernel) rfl (Nat.le_of_ble_eq_true rfl) ?_
  intro p e s m args below meth c A Q hx hb hml hin hts hown hA hP hK hD hN hS hret ls hl
  have hl : lv_has ls 10 [(0, .ref li), (1, .ref co), (2, .int (iI x))] := hl
  obtain ⟨H, hH0⟩ : ∃ H, H = s.heap := ⟨_, rfl⟩
  obtain ⟨locs, hL0⟩ : ∃ locs : List Loc, locs = [] := ⟨_, rfl⟩
  rw [← hH0] at hP
  have hS : va_S A s.heap H locs := by rw [hH0, hL0]; exact hS
  have goal : W p l e rm_Li_placeAt s m args below meth c H locs 0 0 Q (F0 m 0 ls []) := by
    refine lv_aload_n hx hb dqLi_placeAt_0 rfl (lv_at hl 0 rfl) ?_
    refine va_get (D := D) (ci := 6) (v := .int (iI fi)) (C := RqLi) (T := TqLi) (N := 6) hx hb hts (in_c inqLi) hown hK hP 0 rfl rfl 3 (by decide) (hts (.fieldLink RqLi 25 "SpringSpaces$Line" "first" "I") (List.mem_cons_of_mem _ tb_153)) (fun _ h9 => h9) rfl dqLi_placeAt_1 ?_
    refine lv_istore_n (lv' := [(3, .int (iI fi)), (0, .ref li), (1, .ref co), (2, .int (iI x))]) hx hb dqLi_placeAt_4 rfl hl (by decide) rfl (fun ls hl => ?_)
    have loop_5 : ∀ (n9 : Nat), ∀ (k : Int) (H : Heap) (locs : List Loc) (ls : Array Slot), (0 ≤ k) → (k < la) → ((la - k).toNat < n9) → va_P D vwCl [(li, .inr (6, [.ref sa, .ref sb, .ref fo, .int (iI fi), .int (iI la), .long (lI xc)])), (sa, .inl (cJ, 24, .inr (.inl (al sf)))), (sb, .inl (cJ, 24, .inr (.inl (al pf)))), (fo, .inr (5, [.long (lI fa), .long (lI fb)])), (co, .inr (1, [.ref tm, .ref lw, .ref br, .int (iI n), .int (iI b), .int (iI mo)])), (tm, .inl (cI, 24, .inl (ai tf)))] H → va_D A [(li, .inr (6, [.ref sa, .ref sb, .ref fo, .int (iI fi), .int (iI la), .long (lI xc)])), (sa, .inl (cJ, 24, .inr (.inl (al sf)))), (sb, .inl (cJ, 24, .inr (.inl (al pf)))), (fo, .inr (5, [.long (lI fa), .long (lI fb)])), (co, .inr (1, [.ref tm, .ref lw, .ref br, .int (iI n), .int (iI b), .int (iI mo)])), (tm, .inl (cI, 24, .inl (ai tf)))] → va_S A s.heap H locs → lv_has ls 10 [(3, .int (iI k)), (0, .ref li), (1, .ref co), (2, .int (iI x))] → W p l e rm_Li_placeAt s m args below meth c H locs 0 0 Q (F0 m 5 ls []) := by
      intro n9
      induction n9 with
      | zero =>
        intro k H locs ls k1 k2 hm9
        exact absurd hm9 (by omega)
      | succ n9 ih_5 =>
        intro k H locs ls k1 k2 hm9 hP hD hS hl
        refine lv_iload_n hx hb dqLi_placeAt_5 rfl (lv_at hl 0 rfl) ?_
        refine lv_iconst (v := iI 1) hx hb dqLi_placeAt_6 rfl ?_
        refine q_iadd hx hb dqLi_placeAt_7 ?_
        refine lv_aload_n hx hb dqLi_placeAt_8 rfl (lv_at hl 1 rfl) ?_
        refine va_get (D := D) (ci := 6) (v := .int (iI la)) (C := RqLi) (T := TqLi) (N := 6) hx hb hts (in_c inqLi) hown hK hP 0 rfl rfl 4 (by decide) (hts (.fieldLink RqLi 29 "SpringSpaces$Line" "last" "I") (List.mem_cons_of_mem _ tb_154)) (fun _ h9 => h9) rfl dqLi_placeAt_9 ?_
        refine q_icmp_ge (tgt := 32) hx hb dqLi_placeAt_12 (by decide) (by omega) (by omega) (by omega) (by omega) (fun c_12 => ?_) (fun c_12 => ?_)
        · refine lv_aload_n hx hb dqLi_placeAt_32 rfl (lv_at hl 2 rfl) ?_
          refine lv_iload_n hx hb dqLi_placeAt_33 rfl (lv_at hl 0 rfl) ?_
          refine af_i (wr := [(li, .inr (6, [.ref sa, .ref sb, .ref fo, .int (iI fi), .int (iI la), .long (lI xc)])), (sa, .inl (cJ, 24, .inr (.inl (al sf)))), (sb, .inl (cJ, 24, .inr (.inl (al pf)))), (fo, .inr (5, [.long (lI fa), .long (lI fb)]))]) (va_runV (As := [.int (iI k)]) (rest := []) ⟨hx, hb, hml, hown, hts⟩ (c_Co_durationOf l D cI cJ cZ co k tm lw br n b mo tf (by omega) (by omega) H.size) (cwV 1 hts (gi_V tb_418 tb_419 tb_420 tb_26 tb_421) rfl rfl rfl (by decide +kernel) ⟨Nat.le_of_ble_eq_true rfl, Nat.le_of_ble_eq_true rfl⟩) (pre_V (ci := 1) (q0 := 4) hK hN hP hD [4, 5] rfl rfl rfl rfl) rfl rfl hl.1 rfl (lv_room (Nat.le_of_ble_eq_true rfl)) dqLi_placeAt_34 ⟨by first | omega | decide, by first | omega | decide⟩) hA hP hD hS [4, 5] [0, 1, 2, 3] rfl rfl (by decide +kernel) (by decide +kernel) (fun z1 u2 H locs hw_z1 hP hD hS => ?_)
          have hP : va_P D vwCl [(li, .inr (6, [.ref sa, .ref sb, .ref fo, .int (iI fi), .int (iI la), .long (lI xc)])), (sa, .inl (cJ, 24, .inr (.inl (al sf)))), (sb, .inl (cJ, 24, .inr (.inl (al pf)))), (fo, .inr (5, [.long (lI fa), .long (lI fb)])), (co, .inr (1, [.ref tm, .ref lw, .ref br, .int (iI n), .int (iI b), .int (iI mo)])), (tm, .inl (cI, 24, .inl (ai tf)))] H := hP
          have hD : va_D A [(li, .inr (6, [.ref sa, .ref sb, .ref fo, .int (iI fi), .int (iI la), .long (lI xc)])), (sa, .inl (cJ, 24, .inr (.inl (al sf)))), (sb, .inl (cJ, 24, .inr (.inl (al pf)))), (fo, .inr (5, [.long (lI fa), .long (lI fb)])), (co, .inr (1, [.ref tm, .ref lw, .ref br, .int (iI n), .int (iI b), .int (iI mo)])), (tm, .inl (cI, 24, .inl (ai tf)))] := hD
          have hw_z1 : tf (k + 1) - tf k = z1 := Eq.symm hw_z1
          subst hw_z1
          refine q_i2l_w hx hb dqLi_placeAt_37 (fun v3 v3a v3b => ?_)
          refine lv_lstore (lv' := [(4, .long (lI v3)), (3, .int (iI k)), (0, .ref li), (1, .ref co), (2, .int (iI x))]) hx hb dqLi_placeAt_38 hl (by decide) rfl (fun ls hl => ?_)
          refine lv_iload_n hx hb dqLi_placeAt_40 rfl (lv_at hl 4 rfl) ?_
          refine lv_aload_n hx hb dqLi_placeAt_41 rfl (lv_at hl 3 rfl) ?_
          refine lv_iload_n hx hb dqLi_placeAt_42 rfl (lv_at hl 1 rfl) ?_
          refine af_i (wr := [(li, .inr (6, [.ref sa, .ref sb, .ref fo, .int (iI fi), .int (iI la), .long (lI xc)])), (sa, .inl (cJ, 24, .inr (.inl (al sf)))), (sb, .inl (cJ, 24, .inr (.inl (al pf)))), (fo, .inr (5, [.long (lI fa), .long (lI fb)]))]) (va_runV (As := [.int (iI k)]) (rest := [.int (iI x)]) ⟨hx, hb, hml, hown, hts⟩ (c_Co_timeOf l D cI cJ cZ co k tm lw br n b mo tf (by omega) (by omega) H.size) (cwV 1 hts (gi_V tb_567 tb_568 tb_569 tb_26 tb_570) rfl rfl rfl (by decide +kernel) ⟨Nat.le_of_ble_eq_true rfl, Nat.le_of_ble_eq_true rfl⟩) (pre_V (ci := 1) (q0 := 4) hK hN hP hD [4, 5] rfl rfl rfl rfl) rfl rfl hl.1 rfl (lv_room (Nat.le_of_ble_eq_true rfl)) dqLi_placeAt_43 ⟨by first | omega | decide, by first | omega | decide⟩) hA hP hD hS [4, 5] [0, 1, 2, 3] rfl rfl (by decide +kernel) (by decide +kernel) (fun z4 u5 H locs hw_z4 hP hD hS => ?_)
          have hP : va_P D vwCl [(li, .inr (6, [.ref sa, .ref sb, .ref fo, .int (iI fi), .int (iI la), .long (lI xc)])), (sa, .inl (cJ, 24, .inr (.inl (al sf)))), (sb, .inl (cJ, 24, .inr (.inl (al pf)))), (fo, .inr (5, [.long (lI fa), .long (lI fb)])), (co, .inr (1, [.ref tm, .ref lw, .ref br, .int (iI n), .int (iI b), .int (iI mo)])), (tm, .inl (cI, 24, .inl (ai tf)))] H := hP
          have hD : va_D A [(li, .inr (6, [.ref sa, .ref sb, .ref fo, .int (iI fi), .int (iI la), .long (lI xc)])), (sa, .inl (cJ, 24, .inr (.inl (al sf)))), (sb, .inl (cJ, 24, .inr (.inl (al pf)))), (fo, .inr (5, [.long (lI fa), .long (lI fb)])), (co, .inr (1, [.ref tm, .ref lw, .ref br, .int (iI n), .int (iI b), .int (iI mo)])), (tm, .inl (cI, 24, .inl (ai tf)))] := hD
          have hw_z4 : tf k = z4 := Eq.symm hw_z4
          subst hw_z4
          refine q_isub hx hb dqLi_placeAt_46 ?_
          refine q_i2l_w hx hb dqLi_placeAt_47 (fun v6 v6a v6b => ?_)
          refine lv_lstore (lv' := [(6, .long (lI v6)), (4, .long (lI v3)), (3, .int (iI k)), (0, .ref li), (1, .ref co), (2, .int (iI x))]) hx hb dqLi_placeAt_48 hl (by decide) rfl (fun ls hl => ?_)
          refine lv_aload_n hx hb dqLi_placeAt_50 rfl (lv_at hl 3 rfl) ?_
          refine lv_iload_n hx hb dqLi_placeAt_51 rfl (lv_at hl 2 rfl) ?_
          refine af_l (wr := [(co, .inr (1, [.ref tm, .ref lw, .ref br, .int (iI n), .int (iI b), .int (iI mo)])), (tm, .inl (cI, 24, .inl (ai tf)))]) (va_runV (As := [.int (iI k)]) (rest := []) ⟨hx, hb, hml, hown, hts⟩ (c_Li_widthsAboveBefore l D cI cJ cZ li k sa sb fo fi la xc sf pf fa fb (by omega) (by omega) (by omega) (by omega) (by omega) (by omega) H.size) (cwV 1 hts (gi_V tb_554 tb_556 tb_7 tb_30 tb_557) rfl rfl rfl (by decide +kernel) ⟨Nat.le_of_ble_eq_true rfl, Nat.le_of_ble_eq_true rfl⟩) (pre_V (ci := 6) (q0 := 0) hK hN hP hD [0, 1, 2, 3] rfl rfl rfl rfl) rfl rfl hl.1 rfl (lv_room (Nat.le_of_ble_eq_true rfl)) dqLi_placeAt_52 ⟨by first | omega | decide, by first | omega | decide⟩) hA hP hD hS [0, 1, 2, 3] [4, 5] rfl rfl (by decide +kernel) (by decide +kernel) (fun z7 u8 H locs hw_z7 hP hD hS => ?_)
          have hP : va_P D vwCl [(li, .inr (6, [.ref sa, .ref sb, .ref fo, .int (iI fi), .int (iI la), .long (lI xc)])), (sa, .inl (cJ, 24, .inr (.inl (al sf)))), (sb, .inl (cJ, 24, .inr (.inl (al pf)))), (fo, .inr (5, [.long (lI fa), .long (lI fb)])), (co, .inr (1, [.ref tm, .ref lw, .ref br, .int (iI n), .int (iI b), .int (iI mo)])), (tm, .inl (cI, 24, .inl (ai tf)))] H := hP.sub [2, 3, 4, 5, 0, 1] rfl
          have hD : va_D A [(li, .inr (6, [.ref sa, .ref sb, .ref fo, .int (iI fi), .int (iI la), .long (lI xc)])), (sa, .inl (cJ, 24, .inr (.inl (al sf)))), (sb, .inl (cJ, 24, .inr (.inl (al pf)))), (fo, .inr (5, [.long (lI fa), .long (lI fb)])), (co, .inr (1, [.ref tm, .ref lw, .ref br, .int (iI n), .int (iI b), .int (iI mo)])), (tm, .inl (cI, 24, .inl (ai tf)))] := hD.sub [2, 3, 4, 5, 0, 1] (by decide +kernel) rfl
          have hw_z7 : True := hw_z7
          refine lv_lload hx hb dqLi_placeAt_55 (lv_at hl 1 rfl) ?_
          refine q_lmul hx hb dqLi_placeAt_57 ?_
          refine hv_l (fun v9 v9a v9b => ?_)
          refine lv_aload_n hx hb dqLi_placeAt_58 rfl (lv_at hl 3 rfl) ?_
          refine lv_iload_n hx hb dqLi_placeAt_59 rfl (lv_at hl 2 rfl) ?_
          refine af_l (wr := [(co, .inr (1, [.ref tm, .ref lw, .ref br, .int (iI n), .int (iI b), .int (iI mo)])), (tm, .inl (cI, 24, .inl (ai tf)))]) (va_runV (As := [.int (iI k)]) (rest := [.long (lI v9)]) ⟨hx, hb, hml, hown, hts⟩ (c_Li_widthAbove l D cI cJ cZ li k sa sb fo fi la xc sf pf fa fb (by omega) (by omega) H.size) (cwV 1 hts (gi_V tb_529 tb_531 tb_6 tb_30 tb_532) rfl rfl rfl (by decide +kernel) ⟨Nat.le_of_ble_eq_true rfl, Nat.le_of_ble_eq_true rfl⟩) (pre_V (ci := 6) (q0 := 0) hK hN hP hD [0, 1, 2, 3] rfl rfl rfl rfl) rfl rfl hl.1 rfl (lv_room (Nat.le_of_ble_eq_true rfl)) dqLi_placeAt_60 ⟨by first | omega | decide, by first | omega | decide⟩) hA hP hD hS [0, 1, 2, 3] [4, 5] rfl rfl (by decide +kernel) (by decide +kernel) (fun z10 u11 H locs hw_z10 hP hD hS => ?_)
          have hP : va_P D vwCl [(li, .inr (6, [.ref sa, .ref sb, .ref fo, .int (iI fi), .int (iI la), .long (lI xc)])), (sa, .inl (cJ, 24, .inr (.inl (al sf)))), (sb, .inl (cJ, 24, .inr (.inl (al pf)))), (fo, .inr (5, [.long (lI fa), .long (lI fb)])), (co, .inr (1, [.ref tm, .ref lw, .ref br, .int (iI n), .int (iI b), .int (iI mo)])), (tm, .inl (cI, 24, .inl (ai tf)))] H := hP.sub [2, 3, 4, 5, 0, 1] rfl
          have hD : va_D A [(li, .inr (6, [.ref sa, .ref sb, .ref fo, .int (iI fi), .int (iI la), .long (lI xc)])), (sa, .inl (cJ, 24, .inr (.inl (al sf)))), (sb, .inl (cJ, 24, .inr (.inl (al pf)))), (fo, .inr (5, [.long (lI fa), .long (lI fb)])), (co, .inr (1, [.ref tm, .ref lw, .ref br, .int (iI n), .int (iI b), .int (iI mo)])), (tm, .inl (cI, 24, .inl (ai tf)))] := hD.sub [2, 3, 4, 5, 0, 1] (by decide +kernel) rfl
          have hw_z10 : True := hw_z10
          refine lv_lload hx hb dqLi_placeAt_63 (lv_at hl 0 rfl) ?_
          refine q_lmul hx hb dqLi_placeAt_65 ?_
          refine hv_l (fun v12 v12a v12b => ?_)
          refine q_ladd hx hb dqLi_placeAt_66 ?_
          refine hv_l (fun v13 v13a v13b => ?_)
          refine lv_lstore (lv' := [(8, .long (lI v13)), (6, .long (lI v6)), (4, .long (lI v3)), (3, .int (iI k)), (0, .ref li), (1, .ref co), (2, .int (iI x))]) hx hb dqLi_placeAt_67 hl (by decide) rfl (fun ls hl => ?_)
          refine lv_lload hx hb dqLi_placeAt_69 (lv_at hl 0 rfl) ?_
          refine lv_aload_n hx hb dqLi_placeAt_71 rfl (lv_at hl 4 rfl) ?_
          refine va_get (D := D) (ci := 6) (v := .ref fo) (C := RqLi) (T := TqLi) (N := 6) hx hb hts (in_c inqLi) hown hK hP 0 rfl rfl 2 (by decide) (hts (.fieldLink RqLi 21 "SpringSpaces$Line" "force" "LSpringSpaces$Force;") (List.mem_cons_of_mem _ tb_152)) (fun _ h9 => h9) rfl dqLi_placeAt_72 ?_
          refine af_l (wr := [(li, .inr (6, [.ref sa, .ref sb, .ref fo, .int (iI fi), .int (iI la), .long (lI xc)])), (sa, .inl (cJ, 24, .inr (.inl (al sf)))), (sb, .inl (cJ, 24, .inr (.inl (al pf)))), (co, .inr (1, [.ref tm, .ref lw, .ref br, .int (iI n), .int (iI b), .int (iI mo)])), (tm, .inl (cI, 24, .inl (ai tf)))]) (va_runV (As := []) (rest := [.long (lI v13)]) ⟨hx, hb, hml, hown, hts⟩ (c_Fo_below l D cI cJ cZ fo fa fb H.size) (cwV 0 hts (gi_V tb_459 tb_460 tb_461 tb_31 tb_462) rfl rfl rfl (by decide +kernel) ⟨Nat.le_of_ble_eq_true rfl, Nat.le_of_ble_eq_true rfl⟩) (pre_V (ci := 5) (q0 := 3) hK hN hP hD [3] rfl rfl rfl rfl) rfl rfl hl.1 rfl (lv_room (Nat.le_of_ble_eq_true rfl)) dqLi_placeAt_75 ⟨by first | omega | decide, by first | omega | decide⟩) hA hP hD hS [3] [0, 1, 2, 4, 5] rfl rfl (by decide +kernel) (by decide +kernel) (fun z14 u15 H locs hw_z14 hP hD hS => ?_)
          have hP : va_P D vwCl [(li, .inr (6, [.ref sa, .ref sb, .ref fo, .int (iI fi), .int (iI la), .long (lI xc)])), (sa, .inl (cJ, 24, .inr (.inl (al sf)))), (sb, .inl (cJ, 24, .inr (.inl (al pf)))), (fo, .inr (5, [.long (lI fa), .long (lI fb)])), (co, .inr (1, [.ref tm, .ref lw, .ref br, .int (iI n), .int (iI b), .int (iI mo)])), (tm, .inl (cI, 24, .inl (ai tf)))] H := hP.sub [0, 1, 2, 5, 3, 4] rfl
          have hD : va_D A [(li, .inr (6, [.ref sa, .ref sb, .ref fo, .int (iI fi), .int (iI la), .long (lI xc)])), (sa, .inl (cJ, 24, .inr (.inl (al sf)))), (sb, .inl (cJ, 24, .inr (.inl (al pf)))), (fo, .inr (5, [.long (lI fa), .long (lI fb)])), (co, .inr (1, [.ref tm, .ref lw, .ref br, .int (iI n), .int (iI b), .int (iI mo)])), (tm, .inl (cI, 24, .inl (ai tf)))] := hD.sub [0, 1, 2, 5, 3, 4] (by decide +kernel) rfl
          have hw_z14 : fb = z14 := Eq.symm hw_z14
          subst hw_z14
          refine lv_lload hx hb dqLi_placeAt_78 (lv_at hl 2 rfl) ?_
          refine q_lmul hx hb dqLi_placeAt_80 ?_
          refine hv_l (fun v16 v16a v16b => ?_)
          refine af_l (wr := [(li, .inr (6, [.ref sa, .ref sb, .ref fo, .int (iI fi), .int (iI la), .long (lI xc)])), (sa, .inl (cJ, 24, .inr (.inl (al sf)))), (sb, .inl (cJ, 24, .inr (.inl (al pf)))), (fo, .inr (5, [.long (lI fa), .long (lI fb)])), (co, .inr (1, [.ref tm, .ref lw, .ref br, .int (iI n), .int (iI b), .int (iI mo)])), (tm, .inl (cI, 24, .inl (ai tf)))]) (va_runSN (As := [.long (lI v13), .long (lI v16)]) (rest := []) ⟨hx, hb, hml, hown, hts⟩ (c_X_dividedDown l D cI cJ cZ v13 v16 H.size) ⟨va_cnB 2 hts (gi_0 tb_468) rfl rfl rfl (hN _ nl_Li_placeAt_116) (hts _ (List.mem_cons_of_mem _ tb_25)) (by decide +kernel) ⟨Nat.le_of_ble_eq_true rfl, Nat.le_of_ble_eq_true rfl⟩, (hts _ (List.mem_cons_of_mem _ tb_467)), trivial⟩ (pre_S hK hN hP hD [] rfl rfl) rfl rfl hl.1 rfl (lv_room (Nat.le_of_ble_eq_true rfl)) dqLi_placeAt_81 ⟨by first | omega | decide, by first | omega | decide⟩) hA hP hD hS [] [0, 1, 2, 3, 4, 5] rfl rfl (by decide +kernel) (by decide +kernel) (fun z17 u18 H locs hw_z17 hP hD hS => ?_)
          have hP : va_P D vwCl [(li, .inr (6, [.ref sa, .ref sb, .ref fo, .int (iI fi), .int (iI la), .long (lI xc)])), (sa, .inl (cJ, 24, .inr (.inl (al sf)))), (sb, .inl (cJ, 24, .inr (.inl (al pf)))), (fo, .inr (5, [.long (lI fa), .long (lI fb)])), (co, .inr (1, [.ref tm, .ref lw, .ref br, .int (iI n), .int (iI b), .int (iI mo)])), (tm, .inl (cI, 24, .inl (ai tf)))] H := hP
          have hD : va_D A [(li, .inr (6, [.ref sa, .ref sb, .ref fo, .int (iI fi), .int (iI la), .long (lI xc)])), (sa, .inl (cJ, 24, .inr (.inl (al sf)))), (sb, .inl (cJ, 24, .inr (.inl (al pf)))), (fo, .inr (5, [.long (lI fa), .long (lI fb)])), (co, .inr (1, [.ref tm, .ref lw, .ref br, .int (iI n), .int (iI b), .int (iI mo)])), (tm, .inl (cI, 24, .inl (ai tf)))] := hD
          have hw_z17 : True := hw_z17
          refine q_l2i hx hb dqLi_placeAt_84 ?_
          exact hret H locs _ ls z17 () rfl hS (by first | rfl | trivial | omega | exact bl_y (by omega) | exact bl_n (by omega) | (apply Or.inl; (and_intros <;> first | rfl | omega)) | (apply Or.inr; apply Or.inl; (and_intros <;> first | rfl | omega)) | (apply Or.inr; (and_intros <;> first | rfl | omega)) | (apply Or.inr; apply Or.inr; apply Or.inl; (and_intros <;> first | rfl | omega)) | (apply Or.inr; apply Or.inr; (and_intros <;> first | rfl | omega)) | (apply Or.inr; apply Or.inr; apply Or.inr; apply Or.inl; (and_intros <;> first | rfl | omega)) | (apply Or.inr; apply Or.inr; apply Or.inr; (and_intros <;> first | rfl | omega)) | (apply Or.inr; apply Or.inr; apply Or.inr; apply Or.inr; apply Or.inl; (and_intros <;> first | rfl | omega)) | (apply Or.inr; apply Or.inr; apply Or.inr; apply Or.inr; (and_intros <;> first | rfl | omega))) hP hD dqLi_placeAt_85
        · refine lv_aload_n hx hb dqLi_placeAt_15 rfl (lv_at hl 2 rfl) ?_
          refine lv_iload_n hx hb dqLi_placeAt_16 rfl (lv_at hl 0 rfl) ?_
          refine lv_iconst (v := iI 1) hx hb dqLi_placeAt_17 rfl ?_
          refine q_iadd hx hb dqLi_placeAt_18 ?_
          refine af_i (wr := [(li, .inr (6, [.ref sa, .ref sb, .ref fo, .int (iI fi), .int (iI la), .long (lI xc)])), (sa, .inl (cJ, 24, .inr (.inl (al sf)))), (sb, .inl (cJ, 24, .inr (.inl (al pf)))), (fo, .inr (5, [.long (lI fa), .long (lI fb)]))]) (va_runV (As := [.int (iI (k + 1))]) (rest := []) ⟨hx, hb, hml, hown, hts⟩ (c_Co_timeOf l D cI cJ cZ co (k + 1) tm lw br n b mo tf (by omega) (by omega) H.size) (cwV 1 hts (gi_V tb_567 tb_568 tb_569 tb_26 tb_570) rfl rfl rfl (by decide +kernel) ⟨Nat.le_of_ble_eq_true rfl, Nat.le_of_ble_eq_true rfl⟩) (pre_V (ci := 1) (q0 := 4) hK hN hP hD [4, 5] rfl rfl rfl rfl) rfl rfl hl.1 rfl (lv_room (Nat.le_of_ble_eq_true rfl)) dqLi_placeAt_19 ⟨by first | omega | decide, by first | omega | decide⟩) hA hP hD hS [4, 5] [0, 1, 2, 3] rfl rfl (by decide +kernel) (by decide +kernel) (fun z19 u20 H locs hw_z19 hP hD hS => ?_)
          have hP : va_P D vwCl [(li, .inr (6, [.ref sa, .ref sb, .ref fo, .int (iI fi), .int (iI la), .long (lI xc)])), (sa, .inl (cJ, 24, .inr (.inl (al sf)))), (sb, .inl (cJ, 24, .inr (.inl (al pf)))), (fo, .inr (5, [.long (lI fa), .long (lI fb)])), (co, .inr (1, [.ref tm, .ref lw, .ref br, .int (iI n), .int (iI b), .int (iI mo)])), (tm, .inl (cI, 24, .inl (ai tf)))] H := hP
          have hD : va_D A [(li, .inr (6, [.ref sa, .ref sb, .ref fo, .int (iI fi), .int (iI la), .long (lI xc)])), (sa, .inl (cJ, 24, .inr (.inl (al sf)))), (sb, .inl (cJ, 24, .inr (.inl (al pf)))), (fo, .inr (5, [.long (lI fa), .long (lI fb)])), (co, .inr (1, [.ref tm, .ref lw, .ref br, .int (iI n), .int (iI b), .int (iI mo)])), (tm, .inl (cI, 24, .inl (ai tf)))] := hD
          have hw_z19 : tf (k + 1) = z19 := Eq.symm hw_z19
          subst hw_z19
          refine lv_iload_n hx hb dqLi_placeAt_22 rfl (lv_at hl 3 rfl) ?_
          refine q_iw_gt (tgt := 32) hx hb dqLi_placeAt_23 (by decide) ?_ ?_
          · refine lv_aload_n hx hb dqLi_placeAt_32 rfl (lv_at hl 2 rfl) ?_
            refine lv_iload_n hx hb dqLi_placeAt_33 rfl (lv_at hl 0 rfl) ?_
            refine af_i (wr := [(li, .inr (6, [.ref sa, .ref sb, .ref fo, .int (iI fi), .int (iI la), .long (lI xc)])), (sa, .inl (cJ, 24, .inr (.inl (al sf)))), (sb, .inl (cJ, 24, .inr (.inl (al pf)))), (fo, .inr (5, [.long (lI fa), .long (lI fb)]))]) (va_runV (As := [.int (iI k)]) (rest := []) ⟨hx, hb, hml, hown, hts⟩ (c_Co_durationOf l D cI cJ cZ co k tm lw br n b mo tf (by omega) (by omega) H.size) (cwV 1 hts (gi_V tb_418 tb_419 tb_420 tb_26 tb_421) rfl rfl rfl (by decide +kernel) ⟨Nat.le_of_ble_eq_true rfl, Nat.le_of_ble_eq_true rfl⟩) (pre_V (ci := 1) (q0 := 4) hK hN hP hD [4, 5] rfl rfl rfl rfl) rfl rfl hl.1 rfl (lv_room (Nat.le_of_ble_eq_true rfl)) dqLi_placeAt_34 ⟨by first | omega | decide, by first | omega | decide⟩) hA hP hD hS [4, 5] [0, 1, 2, 3] rfl rfl (by decide +kernel) (by decide +kernel) (fun z21 u22 H locs hw_z21 hP hD hS => ?_)
            have hP : va_P D vwCl [(li, .inr (6, [.ref sa, .ref sb, .ref fo, .int (iI fi), .int (iI la), .long (lI xc)])), (sa, .inl (cJ, 24, .inr (.inl (al sf)))), (sb, .inl (cJ, 24, .inr (.inl (al pf)))), (fo, .inr (5, [.long (lI fa), .long (lI fb)])), (co, .inr (1, [.ref tm, .ref lw, .ref br, .int (iI n), .int (iI b), .int (iI mo)])), (tm, .inl (cI, 24, .inl (ai tf)))] H := hP
            have hD : va_D A [(li, .inr (6, [.ref sa, .ref sb, .ref fo, .int (iI fi), .int (iI la), .long (lI xc)])), (sa, .inl (cJ, 24, .inr (.inl (al sf)))), (sb, .inl (cJ, 24, .inr (.inl (al pf)))), (fo, .inr (5, [.long (lI fa), .long (lI fb)])), (co, .inr (1, [.ref tm, .ref lw, .ref br, .int (iI n), .int (iI b), .int (iI mo)])), (tm, .inl (cI, 24, .inl (ai tf)))] := hD
            have hw_z21 : tf (k + 1) - tf k = z21 := Eq.symm hw_z21
            subst hw_z21
            refine q_i2l_w hx hb dqLi_placeAt_37 (fun v23 v23a v23b => ?_)
            refine lv_lstore (lv' := [(4, .long (lI v23)), (3, .int (iI k)), (0, .ref li), (1, .ref co), (2, .int (iI x))]) hx hb dqLi_placeAt_38 hl (by decide) rfl (fun ls hl => ?_)
            refine lv_iload_n hx hb dqLi_placeAt_40 rfl (lv_at hl 4 rfl) ?_
            refine lv_aload_n hx hb dqLi_placeAt_41 rfl (lv_at hl 3 rfl) ?_
            refine lv_iload_n hx hb dqLi_placeAt_42 rfl (lv_at hl 1 rfl) ?_
            refine af_i (wr := [(li, .inr (6, [.ref sa, .ref sb, .ref fo, .int (iI fi), .int (iI la), .long (lI xc)])), (sa, .inl (cJ, 24, .inr (.inl (al sf)))), (sb, .inl (cJ, 24, .inr (.inl (al pf)))), (fo, .inr (5, [.long (lI fa), .long (lI fb)]))]) (va_runV (As := [.int (iI k)]) (rest := [.int (iI x)]) ⟨hx, hb, hml, hown, hts⟩ (c_Co_timeOf l D cI cJ cZ co k tm lw br n b mo tf (by omega) (by omega) H.size) (cwV 1 hts (gi_V tb_567 tb_568 tb_569 tb_26 tb_570) rfl rfl rfl (by decide +kernel) ⟨Nat.le_of_ble_eq_true rfl, Nat.le_of_ble_eq_true rfl⟩) (pre_V (ci := 1) (q0 := 4) hK hN hP hD [4, 5] rfl rfl rfl rfl) rfl rfl hl.1 rfl (lv_room (Nat.le_of_ble_eq_true rfl)) dqLi_placeAt_43 ⟨by first | omega | decide, by first | omega | decide⟩) hA hP hD hS [4, 5] [0, 1, 2, 3] rfl rfl (by decide +kernel) (by decide +kernel) (fun z24 u25 H locs hw_z24 hP hD hS => ?_)
            have hP : va_P D vwCl [(li, .inr (6, [.ref sa, .ref sb, .ref fo, .int (iI fi), .int (iI la), .long (lI xc)])), (sa, .inl (cJ, 24, .inr (.inl (al sf)))), (sb, .inl (cJ, 24, .inr (.inl (al pf)))), (fo, .inr (5, [.long (lI fa), .long (lI fb)])), (co, .inr (1, [.ref tm, .ref lw, .ref br, .int (iI n), .int (iI b), .int (iI mo)])), (tm, .inl (cI, 24, .inl (ai tf)))] H := hP
            have hD : va_D A [(li, .inr (6, [.ref sa, .ref sb, .ref fo, .int (iI fi), .int (iI la), .long (lI xc)])), (sa, .inl (cJ, 24, .inr (.inl (al sf)))), (sb, .inl (cJ, 24, .inr (.inl (al pf)))), (fo, .inr (5, [.long (lI fa), .long (lI fb)])), (co, .inr (1, [.ref tm, .ref lw, .ref br, .int (iI n), .int (iI b), .int (iI mo)])), (tm, .inl (cI, 24, .inl (ai tf)))] := hD
            have hw_z24 : tf k = z24 := Eq.symm hw_z24
            subst hw_z24
            refine q_isub hx hb dqLi_placeAt_46 ?_
            refine q_i2l_w hx hb dqLi_placeAt_47 (fun v26 v26a v26b => ?_)
            refine lv_lstore (lv' := [(6, .long (lI v26)), (4, .long (lI v23)), (3, .int (iI k)), (0, .ref li), (1, .ref co), (2, .int (iI x))]) hx hb dqLi_placeAt_48 hl (by decide) rfl (fun ls hl => ?_)
            refine lv_aload_n hx hb dqLi_placeAt_50 rfl (lv_at hl 3 rfl) ?_
            refine lv_iload_n hx hb dqLi_placeAt_51 rfl (lv_at hl 2 rfl) ?_
            refine af_l (wr := [(co, .inr (1, [.ref tm, .ref lw, .ref br, .int (iI n), .int (iI b), .int (iI mo)])), (tm, .inl (cI, 24, .inl (ai tf)))]) (va_runV (As := [.int (iI k)]) (rest := []) ⟨hx, hb, hml, hown, hts⟩ (c_Li_widthsAboveBefore l D cI cJ cZ li k sa sb fo fi la xc sf pf fa fb (by omega) (by omega) (by omega) (by omega) (by omega) (by omega) H.size) (cwV 1 hts (gi_V tb_554 tb_556 tb_7 tb_30 tb_557) rfl rfl rfl (by decide +kernel) ⟨Nat.le_of_ble_eq_true rfl, Nat.le_of_ble_eq_true rfl⟩) (pre_V (ci := 6) (q0 := 0) hK hN hP hD [0, 1, 2, 3] rfl rfl rfl rfl) rfl rfl hl.1 rfl (lv_room (Nat.le_of_ble_eq_true rfl)) dqLi_placeAt_52 ⟨by first | omega | decide, by first | omega | decide⟩) hA hP hD hS [0, 1, 2, 3] [4, 5] rfl rfl (by decide +kernel) (by decide +kernel) (fun z27 u28 H locs hw_z27 hP hD hS => ?_)
            have hP : va_P D vwCl [(li, .inr (6, [.ref sa, .ref sb, .ref fo, .int (iI fi), .int (iI la), .long (lI xc)])), (sa, .inl (cJ, 24, .inr (.inl (al sf)))), (sb, .inl (cJ, 24, .inr (.inl (al pf)))), (fo, .inr (5, [.long (lI fa), .long (lI fb)])), (co, .inr (1, [.ref tm, .ref lw, .ref br, .int (iI n), .int (iI b), .int (iI mo)])), (tm, .inl (cI, 24, .inl (ai tf)))] H := hP.sub [2, 3, 4, 5, 0, 1] rfl
            have hD : va_D A [(li, .inr (6, [.ref sa, .ref sb, .ref fo, .int (iI fi), .int (iI la), .long (lI xc)])), (sa, .inl (cJ, 24, .inr (.inl (al sf)))), (sb, .inl (cJ, 24, .inr (.inl (al pf)))), (fo, .inr (5, [.long (lI fa), .long (lI fb)])), (co, .inr (1, [.ref tm, .ref lw, .ref br, .int (iI n), .int (iI b), .int (iI mo)])), (tm, .inl (cI, 24, .inl (ai tf)))] := hD.sub [2, 3, 4, 5, 0, 1] (by decide +kernel) rfl
            have hw_z27 : True := hw_z27
            refine lv_lload hx hb dqLi_placeAt_55 (lv_at hl 1 rfl) ?_
            refine q_lmul hx hb dqLi_placeAt_57 ?_
            refine hv_l (fun v29 v29a v29b => ?_)
            refine lv_aload_n hx hb dqLi_placeAt_58 rfl (lv_at hl 3 rfl) ?_
            refine lv_iload_n hx hb dqLi_placeAt_59 rfl (lv_at hl 2 rfl) ?_
            refine af_l (wr := [(co, .inr (1, [.ref tm, .ref lw, .ref br, .int (iI n), .int (iI b), .int (iI mo)])), (tm, .inl (cI, 24, .inl (ai tf)))]) (va_runV (As := [.int (iI k)]) (rest := [.long (lI v29)]) ⟨hx, hb, hml, hown, hts⟩ (c_Li_widthAbove l D cI cJ cZ li k sa sb fo fi la xc sf pf fa fb (by omega) (by omega) H.size) (cwV 1 hts (gi_V tb_529 tb_531 tb_6 tb_30 tb_532) rfl rfl rfl (by decide +kernel) ⟨Nat.le_of_ble_eq_true rfl, Nat.le_of_ble_eq_true rfl⟩) (pre_V (ci := 6) (q0 := 0) hK hN hP hD [0, 1, 2, 3] rfl rfl rfl rfl) rfl rfl hl.1 rfl (lv_room (Nat.le_of_ble_eq_true rfl)) dqLi_placeAt_60 ⟨by first | omega | decide, by first | omega | decide⟩) hA hP hD hS [0, 1, 2, 3] [4, 5] rfl rfl (by decide +kernel) (by decide +kernel) (fun z30 u31 H locs hw_z30 hP hD hS => ?_)
            have hP : va_P D vwCl [(li, .inr (6, [.ref sa, .ref sb, .ref fo, .int (iI fi), .int (iI la), .long (lI xc)])), (sa, .inl (cJ, 24, .inr (.inl (al sf)))), (sb, .inl (cJ, 24, .inr (.inl (al pf)))), (fo, .inr (5, [.long (lI fa), .long (lI fb)])), (co, .inr (1, [.ref tm, .ref lw, .ref br, .int (iI n), .int (iI b), .int (iI mo)])), (tm, .inl (cI, 24, .inl (ai tf)))] H := hP.sub [2, 3, 4, 5, 0, 1] rfl
            have hD : va_D A [(li, .inr (6, [.ref sa, .ref sb, .ref fo, .int (iI fi), .int (iI la), .long (lI xc)])), (sa, .inl (cJ, 24, .inr (.inl (al sf)))), (sb, .inl (cJ, 24, .inr (.inl (al pf)))), (fo, .inr (5, [.long (lI fa), .long (lI fb)])), (co, .inr (1, [.ref tm, .ref lw, .ref br, .int (iI n), .int (iI b), .int (iI mo)])), (tm, .inl (cI, 24, .inl (ai tf)))] := hD.sub [2, 3, 4, 5, 0, 1] (by decide +kernel) rfl
            have hw_z30 : True := hw_z30
            refine lv_lload hx hb dqLi_placeAt_63 (lv_at hl 0 rfl) ?_
            refine q_lmul hx hb dqLi_placeAt_65 ?_
            refine hv_l (fun v32 v32a v32b => ?_)
            refine q_ladd hx hb dqLi_placeAt_66 ?_
            refine hv_l (fun v33 v33a v33b => ?_)
            refine lv_lstore (lv' := [(8, .long (lI v33)), (6, .long (lI v26)), (4, .long (lI v23)), (3, .int (iI k)), (0, .ref li), (1, .ref co), (2, .int (iI x))]) hx hb dqLi_placeAt_67 hl (by decide) rfl (fun ls hl => ?_)
            refine lv_lload hx hb dqLi_placeAt_69 (lv_at hl 0 rfl) ?_
            refine lv_aload_n hx hb dqLi_placeAt_71 rfl (lv_at hl 4 rfl) ?_
            refine va_get (D := D) (ci := 6) (v := .ref fo) (C := RqLi) (T := TqLi) (N := 6) hx hb hts (in_c inqLi) hown hK hP 0 rfl rfl 2 (by decide) (hts (.fieldLink RqLi 21 "SpringSpaces$Line" "force" "LSpringSpaces$Force;") (List.mem_cons_of_mem _ tb_152)) (fun _ h9 => h9) rfl dqLi_placeAt_72 ?_
            refine af_l (wr := [(li, .inr (6, [.ref sa, .ref sb, .ref fo, .int (iI fi), .int (iI la), .long (lI xc)])), (sa, .inl (cJ, 24, .inr (.inl (al sf)))), (sb, .inl (cJ, 24, .inr (.inl (al pf)))), (co, .inr (1, [.ref tm, .ref lw, .ref br, .int (iI n), .int (iI b), .int (iI mo)])), (tm, .inl (cI, 24, .inl (ai tf)))]) (va_runV (As := []) (rest := [.long (lI v33)]) ⟨hx, hb, hml, hown, hts⟩ (c_Fo_below l D cI cJ cZ fo fa fb H.size) (cwV 0 hts (gi_V tb_459 tb_460 tb_461 tb_31 tb_462) rfl rfl rfl (by decide +kernel) ⟨Nat.le_of_ble_eq_true rfl, Nat.le_of_ble_eq_true rfl⟩) (pre_V (ci := 5) (q0 := 3) hK hN hP hD [3] rfl rfl rfl rfl) rfl rfl hl.1 rfl (lv_room (Nat.le_of_ble_eq_true rfl)) dqLi_placeAt_75 ⟨by first | omega | decide, by first | omega | decide⟩) hA hP hD hS [3] [0, 1, 2, 4, 5] rfl rfl (by decide +kernel) (by decide +kernel) (fun z34 u35 H locs hw_z34 hP hD hS => ?_)
            have hP : va_P D vwCl [(li, .inr (6, [.ref sa, .ref sb, .ref fo, .int (iI fi), .int (iI la), .long (lI xc)])), (sa, .inl (cJ, 24, .inr (.inl (al sf)))), (sb, .inl (cJ, 24, .inr (.inl (al pf)))), (fo, .inr (5, [.long (lI fa), .long (lI fb)])), (co, .inr (1, [.ref tm, .ref lw, .ref br, .int (iI n), .int (iI b), .int (iI mo)])), (tm, .inl (cI, 24, .inl (ai tf)))] H := hP.sub [0, 1, 2, 5, 3, 4] rfl
            have hD : va_D A [(li, .inr (6, [.ref sa, .ref sb, .ref fo, .int (iI fi), .int (iI la), .long (lI xc)])), (sa, .inl (cJ, 24, .inr (.inl (al sf)))), (sb, .inl (cJ, 24, .inr (.inl (al pf)))), (fo, .inr (5, [.long (lI fa), .long (lI fb)])), (co, .inr (1, [.ref tm, .ref lw, .ref br, .int (iI n), .int (iI b), .int (iI mo)])), (tm, .inl (cI, 24, .inl (ai tf)))] := hD.sub [0, 1, 2, 5, 3, 4] (by decide +kernel) rfl
            have hw_z34 : fb = z34 := Eq.symm hw_z34
            subst hw_z34
            refine lv_lload hx hb dqLi_placeAt_78 (lv_at hl 2 rfl) ?_
            refine q_lmul hx hb dqLi_placeAt_80 ?_
            refine hv_l (fun v36 v36a v36b => ?_)
            refine af_l (wr := [(li, .inr (6, [.ref sa, .ref sb, .ref fo, .int (iI fi), .int (iI la), .long (lI xc)])), (sa, .inl (cJ, 24, .inr (.inl (al sf)))), (sb, .inl (cJ, 24, .inr (.inl (al pf)))), (fo, .inr (5, [.long (lI fa), .long (lI fb)])), (co, .inr (1, [.ref tm, .ref lw, .ref br, .int (iI n), .int (iI b), .int (iI mo)])), (tm, .inl (cI, 24, .inl (ai tf)))]) (va_runSN (As := [.long (lI v33), .long (lI v36)]) (rest := []) ⟨hx, hb, hml, hown, hts⟩ (c_X_dividedDown l D cI cJ cZ v33 v36 H.size) ⟨va_cnB 2 hts (gi_0 tb_468) rfl rfl rfl (hN _ nl_Li_placeAt_116) (hts _ (List.mem_cons_of_mem _ tb_25)) (by decide +kernel) ⟨Nat.le_of_ble_eq_true rfl, Nat.le_of_ble_eq_true rfl⟩, (hts _ (List.mem_cons_of_mem _ tb_467)), trivial⟩ (pre_S hK hN hP hD [] rfl rfl) rfl rfl hl.1 rfl (lv_room (Nat.le_of_ble_eq_true rfl)) dqLi_placeAt_81 ⟨by first | omega | decide, by first | omega | decide⟩) hA hP hD hS [] [0, 1, 2, 3, 4, 5] rfl rfl (by decide +kernel) (by decide +kernel) (fun z37 u38 H locs hw_z37 hP hD hS => ?_)
            have hP : va_P D vwCl [(li, .inr (6, [.ref sa, .ref sb, .ref fo, .int (iI fi), .int (iI la), .long (lI xc)])), (sa, .inl (cJ, 24, .inr (.inl (al sf)))), (sb, .inl (cJ, 24, .inr (.inl (al pf)))), (fo, .inr (5, [.long (lI fa), .long (lI fb)])), (co, .inr (1, [.ref tm, .ref lw, .ref br, .int (iI n), .int (iI b), .int (iI mo)])), (tm, .inl (cI, 24, .inl (ai tf)))] H := hP
            have hD : va_D A [(li, .inr (6, [.ref sa, .ref sb, .ref fo, .int (iI fi), .int (iI la), .long (lI xc)])), (sa, .inl (cJ, 24, .inr (.inl (al sf)))), (sb, .inl (cJ, 24, .inr (.inl (al pf)))), (fo, .inr (5, [.long (lI fa), .long (lI fb)])), (co, .inr (1, [.ref tm, .ref lw, .ref br, .int (iI n), .int (iI b), .int (iI mo)])), (tm, .inl (cI, 24, .inl (ai tf)))] := hD
            have hw_z37 : True := hw_z37
            refine q_l2i hx hb dqLi_placeAt_84 ?_
            exact hret H locs _ ls z37 () rfl hS (by first | rfl | trivial | omega | exact bl_y (by omega) | exact bl_n (by omega) | (apply Or.inl; (and_intros <;> first | rfl | omega)) | (apply Or.inr; apply Or.inl; (and_intros <;> first | rfl | omega)) | (apply Or.inr; (and_intros <;> first | rfl | omega)) | (apply Or.inr; apply Or.inr; apply Or.inl; (and_intros <;> first | rfl | omega)) | (apply Or.inr; apply Or.inr; (and_intros <;> first | rfl | omega)) | (apply Or.inr; apply Or.inr; apply Or.inr; apply Or.inl; (and_intros <;> first | rfl | omega)) | (apply Or.inr; apply Or.inr; apply Or.inr; (and_intros <;> first | rfl | omega)) | (apply Or.inr; apply Or.inr; apply Or.inr; apply Or.inr; apply Or.inl; (and_intros <;> first | rfl | omega)) | (apply Or.inr; apply Or.inr; apply Or.inr; apply Or.inr; (and_intros <;> first | rfl | omega))) hP hD dqLi_placeAt_85
          · refine lv_iinc (v := iI (k + 1)) (lv' := [(3, .int (iI (k + 1))), (0, .ref li), (1, .ref co), (2, .int (iI x))]) hx hb dqLi_placeAt_26 hl (k := 0) rfl (iI_add _ _) (by decide) rfl (fun ls hl => ?_)
            refine lv_goto (tgt := 5) hx hb dqLi_placeAt_29 (by decide) ?_
            exact ih_5 (k + 1) H locs ls (by omega) (by omega) (by omega) hP hD hS (lv_sub hl [0, 1, 2, 3] rfl)
    exact loop_5 (Int.toNat (la - fi) + 1) fi H locs ls (by omega) (by omega) (by omega) hP hD hS (lv_sub hl [0, 1, 2, 3] rfl)
  rw [hH0, hL0] at goal
  exact goal
def rm_Br_size : Room := { frames := 0, cells := 0, slots := 0, locals := 0 }
set_option maxHeartbeats 4000000 in
set_option maxRecDepth 100000 in
theorem c_Br_size (l : Launch) (D : va_G) (cI cJ cZ : ClassId) (bk : Nat) (ba : Nat) (bb : Nat) (bc : Nat) (bd : Nat) (bz : Int)  : Mi l yqBr_size wsqBr_size rm_Br_size D cI cJ cZ [.ref bk] [(bk, .inr (7, [.ref ba, .ref bb, .ref bc, .ref bd, .int (iI bz)]))] (S := Unit) (fun z _ => z = bz) (fun _ => [(bk, .inr (7, [.ref ba, .ref bb, .ref bc, .ref bd, .int (iI bz)]))]) 0 0 := by
  refine en_i (cc := cqBr_size) (maxL := 1) (ty := .int) (by decide +kernel) rfl (Nat.le_of_ble_eq_true rfl) ?_
  intro p e s m args below meth c A Q hx hb hml hin hts hown hA hP hK hD hN hS hret ls hl
  have hl : lv_has ls 1 [(0, .ref bk)] := hl
  obtain ⟨H, hH0⟩ : ∃ H, H = s.heap := ⟨_, rfl⟩
  obtain ⟨locs, hL0⟩ : ∃ locs : List Loc, locs = [] := ⟨_, rfl⟩
  rw [← hH0] at hP
  have hS : va_S A s.heap H locs := by rw [hH0, hL0]; exact hS
  have goal : W p l e rm_Br_size s m args below meth c H locs 0 0 Q (F0 m 0 ls []) := by
    refine lv_aload_n hx hb dqBr_size_0 rfl (lv_at hl 0 rfl) ?_
    refine va_get (D := D) (ci := 7) (v := .int (iI bz)) (C := RqBr) (T := TqBr) (N := 5) hx hb hts (in_c inqBr) hown hK hP 0 rfl rfl 4 (by decide) (hts (.fieldLink RqBr 25 "SpringSpaces$Breaks" "size" "I") (List.mem_cons_of_mem _ tb_179)) (fun _ h9 => h9) rfl dqBr_size_1 ?_
    exact hret H locs _ ls bz () rfl hS (by first | rfl | trivial | omega | exact bl_y (by omega) | exact bl_n (by omega) | (apply Or.inl; (and_intros <;> first | rfl | omega)) | (apply Or.inr; apply Or.inl; (and_intros <;> first | rfl | omega)) | (apply Or.inr; (and_intros <;> first | rfl | omega)) | (apply Or.inr; apply Or.inr; apply Or.inl; (and_intros <;> first | rfl | omega)) | (apply Or.inr; apply Or.inr; (and_intros <;> first | rfl | omega)) | (apply Or.inr; apply Or.inr; apply Or.inr; apply Or.inl; (and_intros <;> first | rfl | omega)) | (apply Or.inr; apply Or.inr; apply Or.inr; (and_intros <;> first | rfl | omega)) | (apply Or.inr; apply Or.inr; apply Or.inr; apply Or.inr; apply Or.inl; (and_intros <;> first | rfl | omega)) | (apply Or.inr; apply Or.inr; apply Or.inr; apply Or.inr; (and_intros <;> first | rfl | omega))) hP hD dqBr_size_4
  rw [hH0, hL0] at goal
  exact goal
def rm_Br_beginOf : Room := { frames := 0, cells := 0, slots := 0, locals := 0 }
set_option maxHeartbeats 4000000 in
set_option maxRecDepth 100000 in
theorem c_Br_beginOf (l : Launch) (D : va_G) (cI cJ cZ : ClassId) (bk : Nat) (x : Int) (ba : Nat) (bb : Nat) (bc : Nat) (bd : Nat) (bz : Int) (bgf : Int → Int) (h1 : 0 ≤ x) (h2 : x < 24) : Mi l yqBr_beginOf wsqBr_beginOf rm_Br_beginOf D cI cJ cZ [.ref bk, .int (iI x)] [(bk, .inr (7, [.ref ba, .ref bb, .ref bc, .ref bd, .int (iI bz)])), (bd, .inl (cI, 24, .inl (ai bgf)))] (S := Unit) (fun z _ => True) (fun _ => [(bk, .inr (7, [.ref ba, .ref bb, .ref bc, .ref bd, .int (iI bz)])), (bd, .inl (cI, 24, .inl (ai bgf)))]) 0 0 := by
  refine en_i (cc := cqBr_beginOf) (maxL := 2) (ty := .int) (by decide +kernel) rfl (Nat.le_of_ble_eq_true rfl) ?_
  intro p e s m args below meth c A Q hx hb hml hin hts hown hA hP hK hD hN hS hret ls hl
  have hl : lv_has ls 2 [(0, .ref bk), (1, .int (iI x))] := hl
  obtain ⟨H, hH0⟩ : ∃ H, H = s.heap := ⟨_, rfl⟩
  obtain ⟨locs, hL0⟩ : ∃ locs : List Loc, locs = [] := ⟨_, rfl⟩
  rw [← hH0] at hP
  have hS : va_S A s.heap H locs := by rw [hH0, hL0]; exact hS
  have goal : W p l e rm_Br_beginOf s m args below meth c H locs 0 0 Q (F0 m 0 ls []) := by
    refine lv_aload_n hx hb dqBr_beginOf_0 rfl (lv_at hl 0 rfl) ?_
    refine va_get (D := D) (ci := 7) (v := .ref bd) (C := RqBr) (T := TqBr) (N := 5) hx hb hts (in_c inqBr) hown hK hP 0 rfl rfl 3 (by decide) (hts (.fieldLink RqBr 22 "SpringSpaces$Breaks" "begins" "[I") (List.mem_cons_of_mem _ tb_178)) (fun _ h9 => h9) rfl dqBr_beginOf_1 ?_
    refine lv_iload_n hx hb dqBr_beginOf_4 rfl (lv_at hl 1 rfl) ?_
    refine q_iald (i := x) hx hb hK hP 1 0 rfl rfl (by omega) (by omega) (by omega) dqBr_beginOf_5 ?_
    exact hret H locs _ ls (bgf x) () rfl hS (by first | rfl | trivial | omega | exact bl_y (by omega) | exact bl_n (by omega) | (apply Or.inl; (and_intros <;> first | rfl | omega)) | (apply Or.inr; apply Or.inl; (and_intros <;> first | rfl | omega)) | (apply Or.inr; (and_intros <;> first | rfl | omega)) | (apply Or.inr; apply Or.inr; apply Or.inl; (and_intros <;> first | rfl | omega)) | (apply Or.inr; apply Or.inr; (and_intros <;> first | rfl | omega)) | (apply Or.inr; apply Or.inr; apply Or.inr; apply Or.inl; (and_intros <;> first | rfl | omega)) | (apply Or.inr; apply Or.inr; apply Or.inr; (and_intros <;> first | rfl | omega)) | (apply Or.inr; apply Or.inr; apply Or.inr; apply Or.inr; apply Or.inl; (and_intros <;> first | rfl | omega)) | (apply Or.inr; apply Or.inr; apply Or.inr; apply Or.inr; (and_intros <;> first | rfl | omega))) hP hD dqBr_beginOf_6
  rw [hH0, hL0] at goal
  exact goal
