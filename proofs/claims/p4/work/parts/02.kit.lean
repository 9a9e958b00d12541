/-! ints and longs by whole numbers -/
def iI (z : Int) : Int32 := Int32.ofInt z
def lI (z : Int) : Int64 := Int64.ofInt z
theorem iI_T {z : Int} (h1 : -2147483648 ≤ z) (h2 : z ≤ 2147483647) : (iI z).toInt = z := Int32.toInt_ofInt_of_le (by omega) (by omega)
theorem lI_T {z : Int} (h1 : -9223372036854775808 ≤ z) (h2 : z ≤ 9223372036854775807) : (lI z).toInt = z := Int64.toInt_ofInt_of_le (by omega) (by omega)
theorem iI_of (x : Int32) : x = iI x.toInt := (Int32.ofInt_toInt x).symm
theorem lI_of (x : Int64) : x = lI x.toInt := (Int64.ofInt_toInt x).symm
theorem iI_ex (x : Int32) : ∃ z : Int, x = iI z ∧ -2147483648 ≤ z ∧ z ≤ 2147483647 := ⟨x.toInt, iI_of x, by have := Int32.le_toInt x; omega, by have := Int32.toInt_lt x; omega⟩
theorem iI_add (a b : Int) : iI a + iI b = iI (a + b) := (Int32.ofInt_add a b).symm
theorem iI_sub (a b : Int) : iI a - iI b = iI (a - b) := (Int32.ofInt_sub a b).symm
theorem iI_mul (a b : Int) : iI a * iI b = iI (a * b) := (Int32.ofInt_mul a b).symm
theorem iI_neg (a : Int) : -iI a = iI (-a) := (Int32.ofInt_neg a).symm
theorem lI_add (a b : Int) : lI a + lI b = lI (a + b) := (Int64.ofInt_add a b).symm
theorem lI_sub (a b : Int) : lI a - lI b = lI (a - b) := (Int64.ofInt_sub a b).symm
theorem lI_mul (a b : Int) : lI a * lI b = lI (a * b) := (Int64.ofInt_mul a b).symm
theorem lI_neg (a : Int) : -lI a = lI (-a) := (Int64.ofInt_neg a).symm
theorem iI_lt {a b : Int} (a1 : -2147483648 ≤ a) (a2 : a ≤ 2147483647) (b1 : -2147483648 ≤ b) (b2 : b ≤ 2147483647) : iI a < iI b ↔ a < b := by rw [Int32.lt_iff_toInt_lt, iI_T a1 a2, iI_T b1 b2]
theorem iI_le {a b : Int} (a1 : -2147483648 ≤ a) (a2 : a ≤ 2147483647) (b1 : -2147483648 ≤ b) (b2 : b ≤ 2147483647) : iI a ≤ iI b ↔ a ≤ b := by rw [Int32.le_iff_toInt_le, iI_T a1 a2, iI_T b1 b2]
theorem iI_eq {a b : Int} (a1 : -2147483648 ≤ a) (a2 : a ≤ 2147483647) (b1 : -2147483648 ≤ b) (b2 : b ≤ 2147483647) : iI a = iI b ↔ a = b := by rw [← Int32.toInt_inj, iI_T a1 a2, iI_T b1 b2]
theorem lI_lt {a b : Int} (a1 : -9223372036854775808 ≤ a) (a2 : a ≤ 9223372036854775807) (b1 : -9223372036854775808 ≤ b) (b2 : b ≤ 9223372036854775807) : lI a < lI b ↔ a < b := by rw [Int64.lt_iff_toInt_lt, lI_T a1 a2, lI_T b1 b2]
theorem lI_le {a b : Int} (a1 : -9223372036854775808 ≤ a) (a2 : a ≤ 9223372036854775807) (b1 : -9223372036854775808 ≤ b) (b2 : b ≤ 9223372036854775807) : lI a ≤ lI b ↔ a ≤ b := by rw [Int64.le_iff_toInt_le, lI_T a1 a2, lI_T b1 b2]
theorem lI_eq {a b : Int} (a1 : -9223372036854775808 ≤ a) (a2 : a ≤ 9223372036854775807) (b1 : -9223372036854775808 ≤ b) (b2 : b ≤ 9223372036854775807) : lI a = lI b ↔ a = b := by rw [← Int64.toInt_inj, lI_T a1 a2, lI_T b1 b2]
theorem iI_l {a : Int} (a1 : -2147483648 ≤ a) (a2 : a ≤ 2147483647) : (iI a).toInt64 = lI a := by
  rw [← Int64.toInt_inj, Int32.toInt_toInt64, iI_T a1 a2, lI_T (by omega) (by omega)]
theorem lI_i (a : Int) : (lI a).toInt32 = iI a := Int64.toInt32_ofInt
theorem lI_div {a b : Int} (a1 : -9223372036854775808 ≤ a) (a2 : a ≤ 9223372036854775807) (b1 : -9223372036854775808 ≤ b) (b2 : b ≤ 9223372036854775807) : lI a / lI b = lI (a.tdiv b) := by
  rw [← Int64.toInt_inj, Int64.toInt_div, lI_T a1 a2, lI_T b1 b2]
  exact (Int64.toInt_ofInt (n := a.tdiv b)).symm
theorem iI_div {a b : Int} (a1 : -2147483648 ≤ a) (a2 : a ≤ 2147483647) (b1 : -2147483648 ≤ b) (b2 : b ≤ 2147483647) : iI a / iI b = iI (a.tdiv b) := by
  rw [← Int32.toInt_inj, Int32.toInt_div, iI_T a1 a2, iI_T b1 b2]
  exact (Int32.toInt_ofInt (n := a.tdiv b)).symm
theorem iI_c {z : Int} (h1 : 0 ≤ z) (h2 : z ≤ 2147483647) : (iI z).toNatClampNeg = z.toNat := by
  show (iI z).toInt.toNat = _
  rw [iI_T (by omega) h2]
theorem iI_in {z : Int} {n : Nat} (h1 : 0 ≤ z) (h2 : z < n) (h3 : z ≤ 2147483647) : vp_in (iI z) n := vp_in_iff.mpr (by rw [iI_T (by omega) h3]; exact ⟨h1, h2⟩)
/-! arrays: the values by functions over Int -/
def ai (f : Int → Int) : Nat → Int32 := fun j => iI (f (j : Int))
def al (f : Int → Int) : Nat → Int64 := fun j => lI (f (j : Int))
def up (f : Int → Int) (k v : Int) : Int → Int := fun j => if j = k then v else f j
theorem up_s (f : Int → Int) (k v : Int) : up f k v k = v := if_pos rfl
theorem up_n {f : Int → Int} {k v j : Int} (h : j ≠ k) : up f k v j = f j := if_neg h
theorem ai_at (f : Int → Int) {z : Int} (h1 : 0 ≤ z) (h2 : z ≤ 2147483647) : ai f (iI z).toNatClampNeg = iI (f z) := by
  rw [iI_c h1 h2]; show iI (f (z.toNat : Int)) = _; rw [Int.toNat_of_nonneg h1]
theorem al_at (f : Int → Int) {z : Int} (h1 : 0 ≤ z) (h2 : z ≤ 2147483647) : al f (iI z).toNatClampNeg = lI (f z) := by
  rw [iI_c h1 h2]; show lI (f (z.toNat : Int)) = _; rw [Int.toNat_of_nonneg h1]
theorem ai_up (f : Int → Int) (v : Int) {z : Int} (h1 : 0 ≤ z) (h2 : z ≤ 2147483647) : upd (ai f) (iI z).toNatClampNeg (iI v) = ai (up f z v) := by
  rw [iI_c h1 h2]; funext j
  show (if j = z.toNat then iI v else iI (f j)) = iI (if (j : Int) = z then v else f j)
  by_cases h : j = z.toNat
  · rw [if_pos h, if_pos (by omega)]
  · rw [if_neg h, if_neg (by omega)]
theorem al_up (f : Int → Int) (v : Int) {z : Int} (h1 : 0 ≤ z) (h2 : z ≤ 2147483647) : vp_updL (al f) (iI z).toNatClampNeg (lI v) = al (up f z v) := by
  rw [iI_c h1 h2]; funext j
  show (if j = z.toNat then lI v else lI (f j)) = lI (if (j : Int) = z then v else f j)
  by_cases h : j = z.toNat
  · rw [if_pos h, if_pos (by omega)]
  · rw [if_neg h, if_neg (by omega)]
theorem nar_z {b : Int} (h : b = 0 ∨ b = 1) : vp_nar .boolean (iI b) = iI b := by rcases h with rfl | rfl <;> decide +kernel
theorem narrow_z {b : Int} (h : b = 0 ∨ b = 1) : narrow .boolean (.int (iI b)) = .int (iI b) := by rcases h with rfl | rfl <;> rfl
theorem fits_z {b : Int} (h : b = 0 ∨ b = 1) : fits .boolean (.int (iI b)) = true := by rcases h with rfl | rfl <;> decide +kernel

theorem lI_ex (x : Int64) : ∃ z : Int, x = lI z ∧ -9223372036854775808 ≤ z ∧ z ≤ 9223372036854775807 := ⟨x.toInt, lI_of x, by have := Int64.le_toInt x; omega, by have := Int64.toInt_lt x; omega⟩
theorem lI_can (a : Int) : ∃ z : Int, -9223372036854775808 ≤ z ∧ z ≤ 9223372036854775807 ∧ lI a = lI z := by
  obtain ⟨z, h, h1, h2⟩ := lI_ex (lI a); exact ⟨z, h1, h2, h⟩
theorem iI_can (a : Int) : ∃ z : Int, -2147483648 ≤ z ∧ z ≤ 2147483647 ∧ iI a = iI z := by
  obtain ⟨z, h, h1, h2⟩ := iI_ex (iI a); exact ⟨z, h1, h2, h⟩
theorem lI_max {a b : Int} (a1 : -9223372036854775808 ≤ a) (a2 : a ≤ 9223372036854775807) (b1 : -9223372036854775808 ≤ b) (b2 : b ≤ 9223372036854775807) : (if lI b < lI a then lI a else lI b) = lI (max a b) := by
  by_cases h : b < a
  · rw [if_pos ((lI_lt b1 b2 a1 a2).mpr h), show max a b = a by omega]
  · rw [if_neg (fun q => h ((lI_lt b1 b2 a1 a2).mp q)), show max a b = b by omega]
section QR
variable {p : Program} {l : Launch} {e : Env} {R : Room} {s : State} {m : MethodId} {args : Array Value} {below : List Frame} {meth : Method} {c : Code} {H : Heap} {locs : List Loc} {cells slots : Nat} {Q : State → Prop} {cc : ByteArray} {pc : Nat} {ls : Array Slot} {rest : List Value}
theorem tp_i {x y : Int32} (h : x = y) (k : W p l e R s m args below meth c H locs cells slots Q (F0 m pc ls (.int y :: rest))) : W p l e R s m args below meth c H locs cells slots Q (F0 m pc ls (.int x :: rest)) := h ▸ k
theorem tp_l {x y : Int64} (h : x = y) (k : W p l e R s m args below meth c H locs cells slots Q (F0 m pc ls (.long y :: rest))) : W p l e R s m args below meth c H locs cells slots Q (F0 m pc ls (.long x :: rest)) := h ▸ k
theorem q_iadd (hx : p.tables.exec = Jvm.exec) (hb : c.code = cc) {x y : Int} (hd : decode cc pc = .ok (.iadd, 1)) (k : W p l e R s m args below meth c H locs cells slots Q (F0 m (pc + 1) ls (.int (iI (x + y)) :: rest))) : W p l e R s m args below meth c H locs cells slots Q (F0 m pc ls (.int (iI y) :: .int (iI x) :: rest)) := lv_iadd hx hb hd (by rw [iI_add]; exact k)
theorem q_ladd (hx : p.tables.exec = Jvm.exec) (hb : c.code = cc) {x y : Int} (hd : decode cc pc = .ok (.ladd, 1)) (k : W p l e R s m args below meth c H locs cells slots Q (F0 m (pc + 1) ls (.long (lI (x + y)) :: rest))) : W p l e R s m args below meth c H locs cells slots Q (F0 m pc ls (.long (lI y) :: .long (lI x) :: rest)) := lv_ladd hx hb hd (by rw [lI_add]; exact k)
theorem q_isub (hx : p.tables.exec = Jvm.exec) (hb : c.code = cc) {x y : Int} (hd : decode cc pc = .ok (.isub, 1)) (k : W p l e R s m args below meth c H locs cells slots Q (F0 m (pc + 1) ls (.int (iI (x - y)) :: rest))) : W p l e R s m args below meth c H locs cells slots Q (F0 m pc ls (.int (iI y) :: .int (iI x) :: rest)) := lv_isub hx hb hd (by rw [iI_sub]; exact k)
theorem q_lsub (hx : p.tables.exec = Jvm.exec) (hb : c.code = cc) {x y : Int} (hd : decode cc pc = .ok (.lsub, 1)) (k : W p l e R s m args below meth c H locs cells slots Q (F0 m (pc + 1) ls (.long (lI (x - y)) :: rest))) : W p l e R s m args below meth c H locs cells slots Q (F0 m pc ls (.long (lI y) :: .long (lI x) :: rest)) := lv_lsub hx hb hd (by rw [lI_sub]; exact k)
theorem q_imul (hx : p.tables.exec = Jvm.exec) (hb : c.code = cc) {x y : Int} (hd : decode cc pc = .ok (.imul, 1)) (k : W p l e R s m args below meth c H locs cells slots Q (F0 m (pc + 1) ls (.int (iI (x * y)) :: rest))) : W p l e R s m args below meth c H locs cells slots Q (F0 m pc ls (.int (iI y) :: .int (iI x) :: rest)) := lv_imul hx hb hd (by rw [iI_mul]; exact k)
theorem q_lmul (hx : p.tables.exec = Jvm.exec) (hb : c.code = cc) {x y : Int} (hd : decode cc pc = .ok (.lmul, 1)) (k : W p l e R s m args below meth c H locs cells slots Q (F0 m (pc + 1) ls (.long (lI (x * y)) :: rest))) : W p l e R s m args below meth c H locs cells slots Q (F0 m pc ls (.long (lI y) :: .long (lI x) :: rest)) := lv_lmul hx hb hd (by rw [lI_mul]; exact k)
theorem q_ineg (hx : p.tables.exec = Jvm.exec) (hb : c.code = cc) {x : Int} (hd : decode cc pc = .ok (.ineg, 1)) (k : W p l e R s m args below meth c H locs cells slots Q (F0 m (pc + 1) ls (.int (iI (-x)) :: rest))) : W p l e R s m args below meth c H locs cells slots Q (F0 m pc ls (.int (iI x) :: rest)) := lv_ineg hx hb hd (by rw [iI_neg]; exact k)
theorem q_lneg (hx : p.tables.exec = Jvm.exec) (hb : c.code = cc) {x : Int} (hd : decode cc pc = .ok (.lneg, 1)) (k : W p l e R s m args below meth c H locs cells slots Q (F0 m (pc + 1) ls (.long (lI (-x)) :: rest))) : W p l e R s m args below meth c H locs cells slots Q (F0 m pc ls (.long (lI x) :: rest)) := lv_lneg hx hb hd (by rw [lI_neg]; exact k)
theorem q_i2l (hx : p.tables.exec = Jvm.exec) (hb : c.code = cc) {x : Int} (hd : decode cc pc = .ok (.i2l, 1)) (h1 : -2147483648 ≤ x) (h2 : x ≤ 2147483647) (k : W p l e R s m args below meth c H locs cells slots Q (F0 m (pc + 1) ls (.long (lI x) :: rest))) : W p l e R s m args below meth c H locs cells slots Q (F0 m pc ls (.int (iI x) :: rest)) := lv_i2l hx hb hd (iI_l h1 h2) k
theorem q_l2i (hx : p.tables.exec = Jvm.exec) (hb : c.code = cc) {x : Int} (hd : decode cc pc = .ok (.l2i, 1)) (k : W p l e R s m args below meth c H locs cells slots Q (F0 m (pc + 1) ls (.int (iI x) :: rest))) : W p l e R s m args below meth c H locs cells slots Q (F0 m pc ls (.long (lI x) :: rest)) := lv_l2i hx hb hd (lI_i x) k
theorem q_ldiv (hx : p.tables.exec = Jvm.exec) (hb : c.code = cc) {x y : Int} (hd : decode cc pc = .ok (.ldiv, 1)) (x1 : -9223372036854775808 ≤ x) (x2 : x ≤ 9223372036854775807) (y1 : -9223372036854775808 ≤ y) (y2 : y ≤ 9223372036854775807) (y0 : y ≠ 0) (k : W p l e R s m args below meth c H locs cells slots Q (F0 m (pc + 1) ls (.long (lI (x.tdiv y)) :: rest))) : W p l e R s m args below meth c H locs cells slots Q (F0 m pc ls (.long (lI y) :: .long (lI x) :: rest)) := lv_ldiv hx hb hd (fun h => y0 ((lI_eq y1 y2 (by omega) (by omega)).mp (h.trans (show (0 : Int64) = lI 0 from rfl)))) (by rw [lI_div x1 x2 y1 y2]; exact k)
theorem q_lrem (hx : p.tables.exec = Jvm.exec) (hb : c.code = cc) {x y : Int} (hd : decode cc pc = .ok (.lrem, 1)) (x1 : -9223372036854775808 ≤ x) (x2 : x ≤ 9223372036854775807) (y1 : -9223372036854775808 ≤ y) (y2 : y ≤ 9223372036854775807) (y0 : y ≠ 0) (k : W p l e R s m args below meth c H locs cells slots Q (F0 m (pc + 1) ls (.long (lI (x.tmod y)) :: rest))) : W p l e R s m args below meth c H locs cells slots Q (F0 m pc ls (.long (lI y) :: .long (lI x) :: rest)) := lv_lrem hx hb hd (fun h => y0 ((lI_eq y1 y2 (by omega) (by omega)).mp (h.trans (show (0 : Int64) = lI 0 from rfl)))) (by rw [lI_div x1 x2 y1 y2, lI_mul, lI_sub, show x - x.tdiv y * y = x.tmod y by rw [Int.tmod_def, Int.mul_comm]]; exact k)
theorem q_idiv (hx : p.tables.exec = Jvm.exec) (hb : c.code = cc) {x y : Int} (hd : decode cc pc = .ok (.idiv, 1)) (x1 : -2147483648 ≤ x) (x2 : x ≤ 2147483647) (y1 : -2147483648 ≤ y) (y2 : y ≤ 2147483647) (y0 : y ≠ 0) (k : W p l e R s m args below meth c H locs cells slots Q (F0 m (pc + 1) ls (.int (iI (x.tdiv y)) :: rest))) : W p l e R s m args below meth c H locs cells slots Q (F0 m pc ls (.int (iI y) :: .int (iI x) :: rest)) := lv_idiv hx hb hd (fun h => y0 ((iI_eq y1 y2 (by omega) (by omega)).mp (h.trans (show (0 : Int32) = iI 0 from rfl)))) (by rw [iI_div x1 x2 y1 y2]; exact k)
theorem q_irem (hx : p.tables.exec = Jvm.exec) (hb : c.code = cc) {x y : Int} (hd : decode cc pc = .ok (.irem, 1)) (x1 : -2147483648 ≤ x) (x2 : x ≤ 2147483647) (y1 : -2147483648 ≤ y) (y2 : y ≤ 2147483647) (y0 : y ≠ 0) (k : W p l e R s m args below meth c H locs cells slots Q (F0 m (pc + 1) ls (.int (iI (x.tmod y)) :: rest))) : W p l e R s m args below meth c H locs cells slots Q (F0 m pc ls (.int (iI y) :: .int (iI x) :: rest)) := lv_irem hx hb hd (fun h => y0 ((iI_eq y1 y2 (by omega) (by omega)).mp (h.trans (show (0 : Int32) = iI 0 from rfl)))) (by rw [iI_div x1 x2 y1 y2, iI_mul, iI_sub, show x - x.tdiv y * y = x.tmod y by rw [Int.tmod_def, Int.mul_comm]]; exact k)
theorem q_icmp_eq (hx : p.tables.exec = Jvm.exec) (hb : c.code = cc) {x y : Int} {off : Int} {tgt : Nat} (hd : decode cc pc = .ok (.if_icmp .eq off, 3)) (ht : (pc : Int) + off = (tgt : Int)) (x1 : -2147483648 ≤ x) (x2 : x ≤ 2147483647) (y1 : -2147483648 ≤ y) (y2 : y ≤ 2147483647) (kt : x = y → W p l e R s m args below meth c H locs cells slots Q (F0 m tgt ls rest)) (kf : x ≠ y → W p l e R s m args below meth c H locs cells slots Q (F0 m (pc + 3) ls rest)) : W p l e R s m args below meth c H locs cells slots Q (F0 m pc ls (.int (iI y) :: .int (iI x) :: rest)) := lv_icmp_eq hx hb hd ht (fun h => kt ((iI_eq x1 x2 y1 y2).mp h)) (fun h => kf (fun q => h ((iI_eq x1 x2 y1 y2).mpr q)))
theorem q_icmp_ne (hx : p.tables.exec = Jvm.exec) (hb : c.code = cc) {x y : Int} {off : Int} {tgt : Nat} (hd : decode cc pc = .ok (.if_icmp .ne off, 3)) (ht : (pc : Int) + off = (tgt : Int)) (x1 : -2147483648 ≤ x) (x2 : x ≤ 2147483647) (y1 : -2147483648 ≤ y) (y2 : y ≤ 2147483647) (kt : x ≠ y → W p l e R s m args below meth c H locs cells slots Q (F0 m tgt ls rest)) (kf : x = y → W p l e R s m args below meth c H locs cells slots Q (F0 m (pc + 3) ls rest)) : W p l e R s m args below meth c H locs cells slots Q (F0 m pc ls (.int (iI y) :: .int (iI x) :: rest)) := lv_icmp_ne hx hb hd ht (fun h => kt (fun q => h ((iI_eq x1 x2 y1 y2).mpr q))) (fun h => kf ((iI_eq x1 x2 y1 y2).mp h))
theorem q_icmp_lt (hx : p.tables.exec = Jvm.exec) (hb : c.code = cc) {x y : Int} {off : Int} {tgt : Nat} (hd : decode cc pc = .ok (.if_icmp .lt off, 3)) (ht : (pc : Int) + off = (tgt : Int)) (x1 : -2147483648 ≤ x) (x2 : x ≤ 2147483647) (y1 : -2147483648 ≤ y) (y2 : y ≤ 2147483647) (kt : x < y → W p l e R s m args below meth c H locs cells slots Q (F0 m tgt ls rest)) (kf : y ≤ x → W p l e R s m args below meth c H locs cells slots Q (F0 m (pc + 3) ls rest)) : W p l e R s m args below meth c H locs cells slots Q (F0 m pc ls (.int (iI y) :: .int (iI x) :: rest)) := lv_icmp_lt hx hb hd ht (fun h => kt ((iI_lt x1 x2 y1 y2).mp h)) (fun h => kf (Int.not_lt.mp (fun q => h ((iI_lt x1 x2 y1 y2).mpr q))))
theorem q_icmp_ge (hx : p.tables.exec = Jvm.exec) (hb : c.code = cc) {x y : Int} {off : Int} {tgt : Nat} (hd : decode cc pc = .ok (.if_icmp .ge off, 3)) (ht : (pc : Int) + off = (tgt : Int)) (x1 : -2147483648 ≤ x) (x2 : x ≤ 2147483647) (y1 : -2147483648 ≤ y) (y2 : y ≤ 2147483647) (kt : y ≤ x → W p l e R s m args below meth c H locs cells slots Q (F0 m tgt ls rest)) (kf : x < y → W p l e R s m args below meth c H locs cells slots Q (F0 m (pc + 3) ls rest)) : W p l e R s m args below meth c H locs cells slots Q (F0 m pc ls (.int (iI y) :: .int (iI x) :: rest)) := lv_icmp_ge hx hb hd ht (fun h => kt ((iI_le y1 y2 x1 x2).mp h)) (fun h => kf (Int.not_le.mp (fun q => h ((iI_le y1 y2 x1 x2).mpr q))))
theorem q_icmp_gt (hx : p.tables.exec = Jvm.exec) (hb : c.code = cc) {x y : Int} {off : Int} {tgt : Nat} (hd : decode cc pc = .ok (.if_icmp .gt off, 3)) (ht : (pc : Int) + off = (tgt : Int)) (x1 : -2147483648 ≤ x) (x2 : x ≤ 2147483647) (y1 : -2147483648 ≤ y) (y2 : y ≤ 2147483647) (kt : y < x → W p l e R s m args below meth c H locs cells slots Q (F0 m tgt ls rest)) (kf : x ≤ y → W p l e R s m args below meth c H locs cells slots Q (F0 m (pc + 3) ls rest)) : W p l e R s m args below meth c H locs cells slots Q (F0 m pc ls (.int (iI y) :: .int (iI x) :: rest)) := lv_icmp_gt hx hb hd ht (fun h => kt ((iI_lt y1 y2 x1 x2).mp h)) (fun h => kf (Int.not_lt.mp (fun q => h ((iI_lt y1 y2 x1 x2).mpr q))))
theorem q_icmp_le (hx : p.tables.exec = Jvm.exec) (hb : c.code = cc) {x y : Int} {off : Int} {tgt : Nat} (hd : decode cc pc = .ok (.if_icmp .le off, 3)) (ht : (pc : Int) + off = (tgt : Int)) (x1 : -2147483648 ≤ x) (x2 : x ≤ 2147483647) (y1 : -2147483648 ≤ y) (y2 : y ≤ 2147483647) (kt : x ≤ y → W p l e R s m args below meth c H locs cells slots Q (F0 m tgt ls rest)) (kf : y < x → W p l e R s m args below meth c H locs cells slots Q (F0 m (pc + 3) ls rest)) : W p l e R s m args below meth c H locs cells slots Q (F0 m pc ls (.int (iI y) :: .int (iI x) :: rest)) := lv_icmp_le hx hb hd ht (fun h => kt ((iI_le x1 x2 y1 y2).mp h)) (fun h => kf (Int.not_le.mp (fun q => h ((iI_le x1 x2 y1 y2).mpr q))))
theorem q_if_eq (hx : p.tables.exec = Jvm.exec) (hb : c.code = cc) {x : Int} {off : Int} {tgt : Nat} (hd : decode cc pc = .ok (.ifCond .eq off, 3)) (ht : (pc : Int) + off = (tgt : Int)) (x1 : -2147483648 ≤ x) (x2 : x ≤ 2147483647) (kt : x = 0 → W p l e R s m args below meth c H locs cells slots Q (F0 m tgt ls rest)) (kf : x ≠ 0 → W p l e R s m args below meth c H locs cells slots Q (F0 m (pc + 3) ls rest)) : W p l e R s m args below meth c H locs cells slots Q (F0 m pc ls (.int (iI x) :: rest)) := by
  have y1 : (-2147483648 : Int) ≤ 0 := by omega
  have y2 : (0 : Int) ≤ 2147483647 := by omega
  have z0 : (0 : Int32) = iI 0 := rfl
  exact lv_if_eq hx hb hd ht (fun h => by rw [z0] at h; exact kt ((iI_eq x1 x2 y1 y2).mp h)) (fun h => by rw [z0] at h; exact kf (fun q => h ((iI_eq x1 x2 y1 y2).mpr q)))
theorem q_if_ne (hx : p.tables.exec = Jvm.exec) (hb : c.code = cc) {x : Int} {off : Int} {tgt : Nat} (hd : decode cc pc = .ok (.ifCond .ne off, 3)) (ht : (pc : Int) + off = (tgt : Int)) (x1 : -2147483648 ≤ x) (x2 : x ≤ 2147483647) (kt : x ≠ 0 → W p l e R s m args below meth c H locs cells slots Q (F0 m tgt ls rest)) (kf : x = 0 → W p l e R s m args below meth c H locs cells slots Q (F0 m (pc + 3) ls rest)) : W p l e R s m args below meth c H locs cells slots Q (F0 m pc ls (.int (iI x) :: rest)) := by
  have y1 : (-2147483648 : Int) ≤ 0 := by omega
  have y2 : (0 : Int) ≤ 2147483647 := by omega
  have z0 : (0 : Int32) = iI 0 := rfl
  exact lv_if_ne hx hb hd ht (fun h => by rw [z0] at h; exact kt (fun q => h ((iI_eq x1 x2 y1 y2).mpr q))) (fun h => by rw [z0] at h; exact kf ((iI_eq x1 x2 y1 y2).mp h))
theorem q_if_lt (hx : p.tables.exec = Jvm.exec) (hb : c.code = cc) {x : Int} {off : Int} {tgt : Nat} (hd : decode cc pc = .ok (.ifCond .lt off, 3)) (ht : (pc : Int) + off = (tgt : Int)) (x1 : -2147483648 ≤ x) (x2 : x ≤ 2147483647) (kt : x < 0 → W p l e R s m args below meth c H locs cells slots Q (F0 m tgt ls rest)) (kf : 0 ≤ x → W p l e R s m args below meth c H locs cells slots Q (F0 m (pc + 3) ls rest)) : W p l e R s m args below meth c H locs cells slots Q (F0 m pc ls (.int (iI x) :: rest)) := by
  have y1 : (-2147483648 : Int) ≤ 0 := by omega
  have y2 : (0 : Int) ≤ 2147483647 := by omega
  have z0 : (0 : Int32) = iI 0 := rfl
  exact lv_if_lt hx hb hd ht (fun h => by rw [z0] at h; exact kt ((iI_lt x1 x2 y1 y2).mp h)) (fun h => by rw [z0] at h; exact kf (Int.not_lt.mp (fun q => h ((iI_lt x1 x2 y1 y2).mpr q))))
theorem q_if_ge (hx : p.tables.exec = Jvm.exec) (hb : c.code = cc) {x : Int} {off : Int} {tgt : Nat} (hd : decode cc pc = .ok (.ifCond .ge off, 3)) (ht : (pc : Int) + off = (tgt : Int)) (x1 : -2147483648 ≤ x) (x2 : x ≤ 2147483647) (kt : 0 ≤ x → W p l e R s m args below meth c H locs cells slots Q (F0 m tgt ls rest)) (kf : x < 0 → W p l e R s m args below meth c H locs cells slots Q (F0 m (pc + 3) ls rest)) : W p l e R s m args below meth c H locs cells slots Q (F0 m pc ls (.int (iI x) :: rest)) := by
  have y1 : (-2147483648 : Int) ≤ 0 := by omega
  have y2 : (0 : Int) ≤ 2147483647 := by omega
  have z0 : (0 : Int32) = iI 0 := rfl
  exact lv_if_ge hx hb hd ht (fun h => by rw [z0] at h; exact kt ((iI_le y1 y2 x1 x2).mp h)) (fun h => by rw [z0] at h; exact kf (Int.not_le.mp (fun q => h ((iI_le y1 y2 x1 x2).mpr q))))
theorem q_if_gt (hx : p.tables.exec = Jvm.exec) (hb : c.code = cc) {x : Int} {off : Int} {tgt : Nat} (hd : decode cc pc = .ok (.ifCond .gt off, 3)) (ht : (pc : Int) + off = (tgt : Int)) (x1 : -2147483648 ≤ x) (x2 : x ≤ 2147483647) (kt : 0 < x → W p l e R s m args below meth c H locs cells slots Q (F0 m tgt ls rest)) (kf : x ≤ 0 → W p l e R s m args below meth c H locs cells slots Q (F0 m (pc + 3) ls rest)) : W p l e R s m args below meth c H locs cells slots Q (F0 m pc ls (.int (iI x) :: rest)) := by
  have y1 : (-2147483648 : Int) ≤ 0 := by omega
  have y2 : (0 : Int) ≤ 2147483647 := by omega
  have z0 : (0 : Int32) = iI 0 := rfl
  exact lv_if_gt hx hb hd ht (fun h => by rw [z0] at h; exact kt ((iI_lt y1 y2 x1 x2).mp h)) (fun h => by rw [z0] at h; exact kf (Int.not_lt.mp (fun q => h ((iI_lt y1 y2 x1 x2).mpr q))))
theorem q_if_le (hx : p.tables.exec = Jvm.exec) (hb : c.code = cc) {x : Int} {off : Int} {tgt : Nat} (hd : decode cc pc = .ok (.ifCond .le off, 3)) (ht : (pc : Int) + off = (tgt : Int)) (x1 : -2147483648 ≤ x) (x2 : x ≤ 2147483647) (kt : x ≤ 0 → W p l e R s m args below meth c H locs cells slots Q (F0 m tgt ls rest)) (kf : 0 < x → W p l e R s m args below meth c H locs cells slots Q (F0 m (pc + 3) ls rest)) : W p l e R s m args below meth c H locs cells slots Q (F0 m pc ls (.int (iI x) :: rest)) := by
  have y1 : (-2147483648 : Int) ≤ 0 := by omega
  have y2 : (0 : Int) ≤ 2147483647 := by omega
  have z0 : (0 : Int32) = iI 0 := rfl
  exact lv_if_le hx hb hd ht (fun h => by rw [z0] at h; exact kt ((iI_le x1 x2 y1 y2).mp h)) (fun h => by rw [z0] at h; exact kf (Int.not_le.mp (fun q => h ((iI_le x1 x2 y1 y2).mpr q))))
theorem lg_cmp_v {x y : Int64} : (y < x ∧ lg_cmp x y = 1) ∨ (x = y ∧ lg_cmp x y = 0) ∨ (x < y ∧ lg_cmp x y = -1) := by
  unfold lg_cmp
  by_cases h1 : y < x
  · exact Or.inl ⟨h1, if_pos h1⟩
  · by_cases h2 : x = y
    · exact Or.inr (Or.inl ⟨h2, by rw [if_neg (show ¬ x > y from h1), if_pos h2]⟩)
    · refine Or.inr (Or.inr ⟨?_, by rw [if_neg (show ¬ x > y from h1), if_neg h2]⟩)
      rw [Int64.lt_iff_toInt_lt] at h1 ⊢
      rw [← Int64.toInt_inj] at h2
      omega
theorem q_lcmp_eq (hx : p.tables.exec = Jvm.exec) (hb : c.code = cc) {x y : Int} {off : Int} {tgt : Nat} (hd : decode cc pc = .ok (.lcmp, 1)) (hd2 : decode cc (pc + 1) = .ok (.ifCond .eq off, 3)) (ht : ((pc + 1 : Nat) : Int) + off = (tgt : Int)) (x1 : -9223372036854775808 ≤ x) (x2 : x ≤ 9223372036854775807) (y1 : -9223372036854775808 ≤ y) (y2 : y ≤ 9223372036854775807) (kt : x = y → W p l e R s m args below meth c H locs cells slots Q (F0 m tgt ls rest)) (kf : x ≠ y → W p l e R s m args below meth c H locs cells slots Q (F0 m (pc + 4) ls rest)) : W p l e R s m args below meth c H locs cells slots Q (F0 m pc ls (.long (lI y) :: .long (lI x) :: rest)) := by
  refine W.lcmp hx hb hd ?_
  have e : lg_cmp (lI x) (lI y) = iI (if y < x then 1 else if x = y then 0 else -1) := by
    rcases @lg_cmp_v (lI x) (lI y) with ⟨h, q⟩ | ⟨h, q⟩ | ⟨h, q⟩
    · rw [q, if_pos ((lI_lt y1 y2 x1 x2).mp h)]; rfl
    · have h := (lI_eq x1 x2 y1 y2).mp h
      rw [q, if_neg (by omega), if_pos h]; rfl
    · have h := (lI_lt x1 x2 y1 y2).mp h
      rw [q, if_neg (by omega), if_neg (by omega)]; rfl
  rw [e]
  have r1 : -2147483648 ≤ (if y < x then 1 else if x = y then 0 else -1 : Int) ∧ (if y < x then 1 else if x = y then 0 else -1 : Int) ≤ 2147483647 := by split <;> (try split) <;> omega
  refine q_if_eq hx hb hd2 ht r1.1 r1.2 (fun h => kt ?_) (fun h => kf ?_) <;> (split at h <;> (try split at h) <;> omega)
theorem q_lcmp_ne (hx : p.tables.exec = Jvm.exec) (hb : c.code = cc) {x y : Int} {off : Int} {tgt : Nat} (hd : decode cc pc = .ok (.lcmp, 1)) (hd2 : decode cc (pc + 1) = .ok (.ifCond .ne off, 3)) (ht : ((pc + 1 : Nat) : Int) + off = (tgt : Int)) (x1 : -9223372036854775808 ≤ x) (x2 : x ≤ 9223372036854775807) (y1 : -9223372036854775808 ≤ y) (y2 : y ≤ 9223372036854775807) (kt : x ≠ y → W p l e R s m args below meth c H locs cells slots Q (F0 m tgt ls rest)) (kf : x = y → W p l e R s m args below meth c H locs cells slots Q (F0 m (pc + 4) ls rest)) : W p l e R s m args below meth c H locs cells slots Q (F0 m pc ls (.long (lI y) :: .long (lI x) :: rest)) := by
  refine W.lcmp hx hb hd ?_
  have e : lg_cmp (lI x) (lI y) = iI (if y < x then 1 else if x = y then 0 else -1) := by
    rcases @lg_cmp_v (lI x) (lI y) with ⟨h, q⟩ | ⟨h, q⟩ | ⟨h, q⟩
    · rw [q, if_pos ((lI_lt y1 y2 x1 x2).mp h)]; rfl
    · have h := (lI_eq x1 x2 y1 y2).mp h
      rw [q, if_neg (by omega), if_pos h]; rfl
    · have h := (lI_lt x1 x2 y1 y2).mp h
      rw [q, if_neg (by omega), if_neg (by omega)]; rfl
  rw [e]
  have r1 : -2147483648 ≤ (if y < x then 1 else if x = y then 0 else -1 : Int) ∧ (if y < x then 1 else if x = y then 0 else -1 : Int) ≤ 2147483647 := by split <;> (try split) <;> omega
  refine q_if_ne hx hb hd2 ht r1.1 r1.2 (fun h => kt ?_) (fun h => kf ?_) <;> (split at h <;> (try split at h) <;> omega)
theorem q_lcmp_lt (hx : p.tables.exec = Jvm.exec) (hb : c.code = cc) {x y : Int} {off : Int} {tgt : Nat} (hd : decode cc pc = .ok (.lcmp, 1)) (hd2 : decode cc (pc + 1) = .ok (.ifCond .lt off, 3)) (ht : ((pc + 1 : Nat) : Int) + off = (tgt : Int)) (x1 : -9223372036854775808 ≤ x) (x2 : x ≤ 9223372036854775807) (y1 : -9223372036854775808 ≤ y) (y2 : y ≤ 9223372036854775807) (kt : x < y → W p l e R s m args below meth c H locs cells slots Q (F0 m tgt ls rest)) (kf : y ≤ x → W p l e R s m args below meth c H locs cells slots Q (F0 m (pc + 4) ls rest)) : W p l e R s m args below meth c H locs cells slots Q (F0 m pc ls (.long (lI y) :: .long (lI x) :: rest)) := by
  refine W.lcmp hx hb hd ?_
  have e : lg_cmp (lI x) (lI y) = iI (if y < x then 1 else if x = y then 0 else -1) := by
    rcases @lg_cmp_v (lI x) (lI y) with ⟨h, q⟩ | ⟨h, q⟩ | ⟨h, q⟩
    · rw [q, if_pos ((lI_lt y1 y2 x1 x2).mp h)]; rfl
    · have h := (lI_eq x1 x2 y1 y2).mp h
      rw [q, if_neg (by omega), if_pos h]; rfl
    · have h := (lI_lt x1 x2 y1 y2).mp h
      rw [q, if_neg (by omega), if_neg (by omega)]; rfl
  rw [e]
  have r1 : -2147483648 ≤ (if y < x then 1 else if x = y then 0 else -1 : Int) ∧ (if y < x then 1 else if x = y then 0 else -1 : Int) ≤ 2147483647 := by split <;> (try split) <;> omega
  refine q_if_lt hx hb hd2 ht r1.1 r1.2 (fun h => kt ?_) (fun h => kf ?_) <;> (split at h <;> (try split at h) <;> omega)
theorem q_lcmp_ge (hx : p.tables.exec = Jvm.exec) (hb : c.code = cc) {x y : Int} {off : Int} {tgt : Nat} (hd : decode cc pc = .ok (.lcmp, 1)) (hd2 : decode cc (pc + 1) = .ok (.ifCond .ge off, 3)) (ht : ((pc + 1 : Nat) : Int) + off = (tgt : Int)) (x1 : -9223372036854775808 ≤ x) (x2 : x ≤ 9223372036854775807) (y1 : -9223372036854775808 ≤ y) (y2 : y ≤ 9223372036854775807) (kt : y ≤ x → W p l e R s m args below meth c H locs cells slots Q (F0 m tgt ls rest)) (kf : x < y → W p l e R s m args below meth c H locs cells slots Q (F0 m (pc + 4) ls rest)) : W p l e R s m args below meth c H locs cells slots Q (F0 m pc ls (.long (lI y) :: .long (lI x) :: rest)) := by
  refine W.lcmp hx hb hd ?_
  have e : lg_cmp (lI x) (lI y) = iI (if y < x then 1 else if x = y then 0 else -1) := by
    rcases @lg_cmp_v (lI x) (lI y) with ⟨h, q⟩ | ⟨h, q⟩ | ⟨h, q⟩
    · rw [q, if_pos ((lI_lt y1 y2 x1 x2).mp h)]; rfl
    · have h := (lI_eq x1 x2 y1 y2).mp h
      rw [q, if_neg (by omega), if_pos h]; rfl
    · have h := (lI_lt x1 x2 y1 y2).mp h
      rw [q, if_neg (by omega), if_neg (by omega)]; rfl
  rw [e]
  have r1 : -2147483648 ≤ (if y < x then 1 else if x = y then 0 else -1 : Int) ∧ (if y < x then 1 else if x = y then 0 else -1 : Int) ≤ 2147483647 := by split <;> (try split) <;> omega
  refine q_if_ge hx hb hd2 ht r1.1 r1.2 (fun h => kt ?_) (fun h => kf ?_) <;> (split at h <;> (try split at h) <;> omega)
theorem q_lcmp_gt (hx : p.tables.exec = Jvm.exec) (hb : c.code = cc) {x y : Int} {off : Int} {tgt : Nat} (hd : decode cc pc = .ok (.lcmp, 1)) (hd2 : decode cc (pc + 1) = .ok (.ifCond .gt off, 3)) (ht : ((pc + 1 : Nat) : Int) + off = (tgt : Int)) (x1 : -9223372036854775808 ≤ x) (x2 : x ≤ 9223372036854775807) (y1 : -9223372036854775808 ≤ y) (y2 : y ≤ 9223372036854775807) (kt : y < x → W p l e R s m args below meth c H locs cells slots Q (F0 m tgt ls rest)) (kf : x ≤ y → W p l e R s m args below meth c H locs cells slots Q (F0 m (pc + 4) ls rest)) : W p l e R s m args below meth c H locs cells slots Q (F0 m pc ls (.long (lI y) :: .long (lI x) :: rest)) := by
  refine W.lcmp hx hb hd ?_
  have e : lg_cmp (lI x) (lI y) = iI (if y < x then 1 else if x = y then 0 else -1) := by
    rcases @lg_cmp_v (lI x) (lI y) with ⟨h, q⟩ | ⟨h, q⟩ | ⟨h, q⟩
    · rw [q, if_pos ((lI_lt y1 y2 x1 x2).mp h)]; rfl
    · have h := (lI_eq x1 x2 y1 y2).mp h
      rw [q, if_neg (by omega), if_pos h]; rfl
    · have h := (lI_lt x1 x2 y1 y2).mp h
      rw [q, if_neg (by omega), if_neg (by omega)]; rfl
  rw [e]
  have r1 : -2147483648 ≤ (if y < x then 1 else if x = y then 0 else -1 : Int) ∧ (if y < x then 1 else if x = y then 0 else -1 : Int) ≤ 2147483647 := by split <;> (try split) <;> omega
  refine q_if_gt hx hb hd2 ht r1.1 r1.2 (fun h => kt ?_) (fun h => kf ?_) <;> (split at h <;> (try split at h) <;> omega)
theorem q_lcmp_le (hx : p.tables.exec = Jvm.exec) (hb : c.code = cc) {x y : Int} {off : Int} {tgt : Nat} (hd : decode cc pc = .ok (.lcmp, 1)) (hd2 : decode cc (pc + 1) = .ok (.ifCond .le off, 3)) (ht : ((pc + 1 : Nat) : Int) + off = (tgt : Int)) (x1 : -9223372036854775808 ≤ x) (x2 : x ≤ 9223372036854775807) (y1 : -9223372036854775808 ≤ y) (y2 : y ≤ 9223372036854775807) (kt : x ≤ y → W p l e R s m args below meth c H locs cells slots Q (F0 m tgt ls rest)) (kf : y < x → W p l e R s m args below meth c H locs cells slots Q (F0 m (pc + 4) ls rest)) : W p l e R s m args below meth c H locs cells slots Q (F0 m pc ls (.long (lI y) :: .long (lI x) :: rest)) := by
  refine W.lcmp hx hb hd ?_
  have e : lg_cmp (lI x) (lI y) = iI (if y < x then 1 else if x = y then 0 else -1) := by
    rcases @lg_cmp_v (lI x) (lI y) with ⟨h, q⟩ | ⟨h, q⟩ | ⟨h, q⟩
    · rw [q, if_pos ((lI_lt y1 y2 x1 x2).mp h)]; rfl
    · have h := (lI_eq x1 x2 y1 y2).mp h
      rw [q, if_neg (by omega), if_pos h]; rfl
    · have h := (lI_lt x1 x2 y1 y2).mp h
      rw [q, if_neg (by omega), if_neg (by omega)]; rfl
  rw [e]
  have r1 : -2147483648 ≤ (if y < x then 1 else if x = y then 0 else -1 : Int) ∧ (if y < x then 1 else if x = y then 0 else -1 : Int) ≤ 2147483647 := by split <;> (try split) <;> omega
  refine q_if_le hx hb hd2 ht r1.1 r1.2 (fun h => kt ?_) (fun h => kf ?_) <;> (split at h <;> (try split at h) <;> omega)
theorem hv_i {x : Int32} (k : ∀ z : Int, -2147483648 ≤ z → z ≤ 2147483647 → W p l e R s m args below meth c H locs cells slots Q (F0 m pc ls (.int (iI z) :: rest))) : W p l e R s m args below meth c H locs cells slots Q (F0 m pc ls (.int x :: rest)) := by
  obtain ⟨z, rfl, h1, h2⟩ := iI_ex x; exact k z h1 h2
theorem hv_l {x : Int64} (k : ∀ z : Int, -9223372036854775808 ≤ z → z ≤ 9223372036854775807 → W p l e R s m args below meth c H locs cells slots Q (F0 m pc ls (.long (lI z) :: rest))) : W p l e R s m args below meth c H locs cells slots Q (F0 m pc ls (.long x :: rest)) := by
  obtain ⟨z, rfl, h1, h2⟩ := lI_ex x; exact k z h1 h2
theorem q_i2l_w (hx : p.tables.exec = Jvm.exec) (hb : c.code = cc) {x : Int32} (hd : decode cc pc = .ok (.i2l, 1)) (k : ∀ z : Int, -9223372036854775808 ≤ z → z ≤ 9223372036854775807 → W p l e R s m args below meth c H locs cells slots Q (F0 m (pc + 1) ls (.long (lI z) :: rest))) : W p l e R s m args below meth c H locs cells slots Q (F0 m pc ls (.int x :: rest)) := lv_i2l hx hb hd rfl (hv_l k)
theorem q_ldiv_w (hx : p.tables.exec = Jvm.exec) (hb : c.code = cc) {x : Int64} {y : Int} (hd : decode cc pc = .ok (.ldiv, 1)) (y1 : -9223372036854775808 ≤ y) (y2 : y ≤ 9223372036854775807) (y0 : y ≠ 0) (k : ∀ z : Int, -9223372036854775808 ≤ z → z ≤ 9223372036854775807 → W p l e R s m args below meth c H locs cells slots Q (F0 m (pc + 1) ls (.long (lI z) :: rest))) : W p l e R s m args below meth c H locs cells slots Q (F0 m pc ls (.long (lI y) :: .long x :: rest)) := lv_ldiv hx hb hd (fun h => y0 ((lI_eq y1 y2 (by omega) (by omega)).mp (h.trans (show (0 : Int64) = lI 0 from rfl)))) (hv_l k)
theorem q_lrem_w (hx : p.tables.exec = Jvm.exec) (hb : c.code = cc) {x y : Int} (hd : decode cc pc = .ok (.lrem, 1)) (x1 : -9223372036854775808 ≤ x) (x2 : x ≤ 9223372036854775807) (y1 : -9223372036854775808 ≤ y) (y2 : y ≤ 9223372036854775807) (y0 : y ≠ 0) (k : ∀ z : Int, -9223372036854775808 ≤ z → z ≤ 9223372036854775807 → z.natAbs < y.natAbs → W p l e R s m args below meth c H locs cells slots Q (F0 m (pc + 1) ls (.long (lI z) :: rest))) : W p l e R s m args below meth c H locs cells slots Q (F0 m pc ls (.long (lI y) :: .long (lI x) :: rest)) := by
  refine q_lrem hx hb hd x1 x2 y1 y2 y0 ?_
  have h : (x.tmod y).natAbs < y.natAbs := by rw [Int.natAbs_tmod]; exact Nat.mod_lt _ (by omega)
  exact k _ (by omega) (by omega) h
theorem q_iw_eq (hx : p.tables.exec = Jvm.exec) (hb : c.code = cc) {x y : Int32} {off : Int} {tgt : Nat} (hd : decode cc pc = .ok (.if_icmp .eq off, 3)) (ht : (pc : Int) + off = (tgt : Int)) (kt : W p l e R s m args below meth c H locs cells slots Q (F0 m tgt ls rest)) (kf : W p l e R s m args below meth c H locs cells slots Q (F0 m (pc + 3) ls rest)) : W p l e R s m args below meth c H locs cells slots Q (F0 m pc ls (.int y :: .int x :: rest)) := lv_icmp_eq hx hb hd ht (fun _ => kt) (fun _ => kf)
theorem q_ifw_eq (hx : p.tables.exec = Jvm.exec) (hb : c.code = cc) {x : Int32} {off : Int} {tgt : Nat} (hd : decode cc pc = .ok (.ifCond .eq off, 3)) (ht : (pc : Int) + off = (tgt : Int)) (kt : W p l e R s m args below meth c H locs cells slots Q (F0 m tgt ls rest)) (kf : W p l e R s m args below meth c H locs cells slots Q (F0 m (pc + 3) ls rest)) : W p l e R s m args below meth c H locs cells slots Q (F0 m pc ls (.int x :: rest)) := lv_if_eq hx hb hd ht (fun _ => kt) (fun _ => kf)
theorem q_lw_eq (hx : p.tables.exec = Jvm.exec) (hb : c.code = cc) {x y : Int64} {off : Int} {tgt : Nat} (hd : decode cc pc = .ok (.lcmp, 1)) (hd2 : decode cc (pc + 1) = .ok (.ifCond .eq off, 3)) (ht : ((pc + 1 : Nat) : Int) + off = (tgt : Int)) (kt : W p l e R s m args below meth c H locs cells slots Q (F0 m tgt ls rest)) (kf : W p l e R s m args below meth c H locs cells slots Q (F0 m (pc + 4) ls rest)) : W p l e R s m args below meth c H locs cells slots Q (F0 m pc ls (.long y :: .long x :: rest)) := W.lcmp hx hb hd (q_ifw_eq hx hb hd2 ht kt kf)
theorem q_iw_ne (hx : p.tables.exec = Jvm.exec) (hb : c.code = cc) {x y : Int32} {off : Int} {tgt : Nat} (hd : decode cc pc = .ok (.if_icmp .ne off, 3)) (ht : (pc : Int) + off = (tgt : Int)) (kt : W p l e R s m args below meth c H locs cells slots Q (F0 m tgt ls rest)) (kf : W p l e R s m args below meth c H locs cells slots Q (F0 m (pc + 3) ls rest)) : W p l e R s m args below meth c H locs cells slots Q (F0 m pc ls (.int y :: .int x :: rest)) := lv_icmp_ne hx hb hd ht (fun _ => kt) (fun _ => kf)
theorem q_ifw_ne (hx : p.tables.exec = Jvm.exec) (hb : c.code = cc) {x : Int32} {off : Int} {tgt : Nat} (hd : decode cc pc = .ok (.ifCond .ne off, 3)) (ht : (pc : Int) + off = (tgt : Int)) (kt : W p l e R s m args below meth c H locs cells slots Q (F0 m tgt ls rest)) (kf : W p l e R s m args below meth c H locs cells slots Q (F0 m (pc + 3) ls rest)) : W p l e R s m args below meth c H locs cells slots Q (F0 m pc ls (.int x :: rest)) := lv_if_ne hx hb hd ht (fun _ => kt) (fun _ => kf)
theorem q_lw_ne (hx : p.tables.exec = Jvm.exec) (hb : c.code = cc) {x y : Int64} {off : Int} {tgt : Nat} (hd : decode cc pc = .ok (.lcmp, 1)) (hd2 : decode cc (pc + 1) = .ok (.ifCond .ne off, 3)) (ht : ((pc + 1 : Nat) : Int) + off = (tgt : Int)) (kt : W p l e R s m args below meth c H locs cells slots Q (F0 m tgt ls rest)) (kf : W p l e R s m args below meth c H locs cells slots Q (F0 m (pc + 4) ls rest)) : W p l e R s m args below meth c H locs cells slots Q (F0 m pc ls (.long y :: .long x :: rest)) := W.lcmp hx hb hd (q_ifw_ne hx hb hd2 ht kt kf)
theorem q_iw_lt (hx : p.tables.exec = Jvm.exec) (hb : c.code = cc) {x y : Int32} {off : Int} {tgt : Nat} (hd : decode cc pc = .ok (.if_icmp .lt off, 3)) (ht : (pc : Int) + off = (tgt : Int)) (kt : W p l e R s m args below meth c H locs cells slots Q (F0 m tgt ls rest)) (kf : W p l e R s m args below meth c H locs cells slots Q (F0 m (pc + 3) ls rest)) : W p l e R s m args below meth c H locs cells slots Q (F0 m pc ls (.int y :: .int x :: rest)) := lv_icmp_lt hx hb hd ht (fun _ => kt) (fun _ => kf)
theorem q_ifw_lt (hx : p.tables.exec = Jvm.exec) (hb : c.code = cc) {x : Int32} {off : Int} {tgt : Nat} (hd : decode cc pc = .ok (.ifCond .lt off, 3)) (ht : (pc : Int) + off = (tgt : Int)) (kt : W p l e R s m args below meth c H locs cells slots Q (F0 m tgt ls rest)) (kf : W p l e R s m args below meth c H locs cells slots Q (F0 m (pc + 3) ls rest)) : W p l e R s m args below meth c H locs cells slots Q (F0 m pc ls (.int x :: rest)) := lv_if_lt hx hb hd ht (fun _ => kt) (fun _ => kf)
theorem q_lw_lt (hx : p.tables.exec = Jvm.exec) (hb : c.code = cc) {x y : Int64} {off : Int} {tgt : Nat} (hd : decode cc pc = .ok (.lcmp, 1)) (hd2 : decode cc (pc + 1) = .ok (.ifCond .lt off, 3)) (ht : ((pc + 1 : Nat) : Int) + off = (tgt : Int)) (kt : W p l e R s m args below meth c H locs cells slots Q (F0 m tgt ls rest)) (kf : W p l e R s m args below meth c H locs cells slots Q (F0 m (pc + 4) ls rest)) : W p l e R s m args below meth c H locs cells slots Q (F0 m pc ls (.long y :: .long x :: rest)) := W.lcmp hx hb hd (q_ifw_lt hx hb hd2 ht kt kf)
theorem q_iw_ge (hx : p.tables.exec = Jvm.exec) (hb : c.code = cc) {x y : Int32} {off : Int} {tgt : Nat} (hd : decode cc pc = .ok (.if_icmp .ge off, 3)) (ht : (pc : Int) + off = (tgt : Int)) (kt : W p l e R s m args below meth c H locs cells slots Q (F0 m tgt ls rest)) (kf : W p l e R s m args below meth c H locs cells slots Q (F0 m (pc + 3) ls rest)) : W p l e R s m args below meth c H locs cells slots Q (F0 m pc ls (.int y :: .int x :: rest)) := lv_icmp_ge hx hb hd ht (fun _ => kt) (fun _ => kf)
theorem q_ifw_ge (hx : p.tables.exec = Jvm.exec) (hb : c.code = cc) {x : Int32} {off : Int} {tgt : Nat} (hd : decode cc pc = .ok (.ifCond .ge off, 3)) (ht : (pc : Int) + off = (tgt : Int)) (kt : W p l e R s m args below meth c H locs cells slots Q (F0 m tgt ls rest)) (kf : W p l e R s m args below meth c H locs cells slots Q (F0 m (pc + 3) ls rest)) : W p l e R s m args below meth c H locs cells slots Q (F0 m pc ls (.int x :: rest)) := lv_if_ge hx hb hd ht (fun _ => kt) (fun _ => kf)
theorem q_lw_ge (hx : p.tables.exec = Jvm.exec) (hb : c.code = cc) {x y : Int64} {off : Int} {tgt : Nat} (hd : decode cc pc = .ok (.lcmp, 1)) (hd2 : decode cc (pc + 1) = .ok (.ifCond .ge off, 3)) (ht : ((pc + 1 : Nat) : Int) + off = (tgt : Int)) (kt : W p l e R s m args below meth c H locs cells slots Q (F0 m tgt ls rest)) (kf : W p l e R s m args below meth c H locs cells slots Q (F0 m (pc + 4) ls rest)) : W p l e R s m args below meth c H locs cells slots Q (F0 m pc ls (.long y :: .long x :: rest)) := W.lcmp hx hb hd (q_ifw_ge hx hb hd2 ht kt kf)
theorem q_iw_gt (hx : p.tables.exec = Jvm.exec) (hb : c.code = cc) {x y : Int32} {off : Int} {tgt : Nat} (hd : decode cc pc = .ok (.if_icmp .gt off, 3)) (ht : (pc : Int) + off = (tgt : Int)) (kt : W p l e R s m args below meth c H locs cells slots Q (F0 m tgt ls rest)) (kf : W p l e R s m args below meth c H locs cells slots Q (F0 m (pc + 3) ls rest)) : W p l e R s m args below meth c H locs cells slots Q (F0 m pc ls (.int y :: .int x :: rest)) := lv_icmp_gt hx hb hd ht (fun _ => kt) (fun _ => kf)
theorem q_ifw_gt (hx : p.tables.exec = Jvm.exec) (hb : c.code = cc) {x : Int32} {off : Int} {tgt : Nat} (hd : decode cc pc = .ok (.ifCond .gt off, 3)) (ht : (pc : Int) + off = (tgt : Int)) (kt : W p l e R s m args below meth c H locs cells slots Q (F0 m tgt ls rest)) (kf : W p l e R s m args below meth c H locs cells slots Q (F0 m (pc + 3) ls rest)) : W p l e R s m args below meth c H locs cells slots Q (F0 m pc ls (.int x :: rest)) := lv_if_gt hx hb hd ht (fun _ => kt) (fun _ => kf)
theorem q_lw_gt (hx : p.tables.exec = Jvm.exec) (hb : c.code = cc) {x y : Int64} {off : Int} {tgt : Nat} (hd : decode cc pc = .ok (.lcmp, 1)) (hd2 : decode cc (pc + 1) = .ok (.ifCond .gt off, 3)) (ht : ((pc + 1 : Nat) : Int) + off = (tgt : Int)) (kt : W p l e R s m args below meth c H locs cells slots Q (F0 m tgt ls rest)) (kf : W p l e R s m args below meth c H locs cells slots Q (F0 m (pc + 4) ls rest)) : W p l e R s m args below meth c H locs cells slots Q (F0 m pc ls (.long y :: .long x :: rest)) := W.lcmp hx hb hd (q_ifw_gt hx hb hd2 ht kt kf)
theorem q_iw_le (hx : p.tables.exec = Jvm.exec) (hb : c.code = cc) {x y : Int32} {off : Int} {tgt : Nat} (hd : decode cc pc = .ok (.if_icmp .le off, 3)) (ht : (pc : Int) + off = (tgt : Int)) (kt : W p l e R s m args below meth c H locs cells slots Q (F0 m tgt ls rest)) (kf : W p l e R s m args below meth c H locs cells slots Q (F0 m (pc + 3) ls rest)) : W p l e R s m args below meth c H locs cells slots Q (F0 m pc ls (.int y :: .int x :: rest)) := lv_icmp_le hx hb hd ht (fun _ => kt) (fun _ => kf)
theorem q_ifw_le (hx : p.tables.exec = Jvm.exec) (hb : c.code = cc) {x : Int32} {off : Int} {tgt : Nat} (hd : decode cc pc = .ok (.ifCond .le off, 3)) (ht : (pc : Int) + off = (tgt : Int)) (kt : W p l e R s m args below meth c H locs cells slots Q (F0 m tgt ls rest)) (kf : W p l e R s m args below meth c H locs cells slots Q (F0 m (pc + 3) ls rest)) : W p l e R s m args below meth c H locs cells slots Q (F0 m pc ls (.int x :: rest)) := lv_if_le hx hb hd ht (fun _ => kt) (fun _ => kf)
theorem q_lw_le (hx : p.tables.exec = Jvm.exec) (hb : c.code = cc) {x y : Int64} {off : Int} {tgt : Nat} (hd : decode cc pc = .ok (.lcmp, 1)) (hd2 : decode cc (pc + 1) = .ok (.ifCond .le off, 3)) (ht : ((pc + 1 : Nat) : Int) + off = (tgt : Int)) (kt : W p l e R s m args below meth c H locs cells slots Q (F0 m tgt ls rest)) (kf : W p l e R s m args below meth c H locs cells slots Q (F0 m (pc + 4) ls rest)) : W p l e R s m args below meth c H locs cells slots Q (F0 m pc ls (.long y :: .long x :: rest)) := W.lcmp hx hb hd (q_ifw_le hx hb hd2 ht kt kf)
theorem q_iald (hx : p.tables.exec = Jvm.exec) (hb : c.code = cc) {D : va_G} {cl : List vw_C} {a : Nat} {tys : List (ClassId × FieldType)} {ws : va_W} (hK : va_K D cl tys s) (hP : va_P D cl ws H) (q0 t0 : Nat) {cA : ClassId} {n : Nat} {f : Int → Int} (ha : ws[q0]? = some (a, .inl (cA, n, .inl (ai f)))) (ht : tys[t0]? = some (cA, .int)) {i : Int} (i1 : 0 ≤ i) (i2 : i < n) (i3 : i ≤ 2147483647) (hd : decode cc pc = .ok (.iaload, 1)) (kk : W p l e R s m args below meth c H locs cells slots Q (F0 m (pc + 1) ls (.int (iI (f i)) :: rest))) : W p l e R s m args below meth c H locs cells slots Q (F0 m pc ls (.int (iI i) :: .ref a :: rest)) := va_iald hx hb hK hP q0 t0 ha ht (iI_in i1 i2 i3) hd (by rw [ai_at f i1 i3]; exact kk)
theorem q_zald (hx : p.tables.exec = Jvm.exec) (hb : c.code = cc) {D : va_G} {cl : List vw_C} {a : Nat} {tys : List (ClassId × FieldType)} {ws : va_W} (hK : va_K D cl tys s) (hP : va_P D cl ws H) (q0 t0 : Nat) {cA : ClassId} {n : Nat} {f : Int → Int} (ha : ws[q0]? = some (a, .inl (cA, n, .inl (ai f)))) (ht : tys[t0]? = some (cA, .boolean)) {i : Int} (i1 : 0 ≤ i) (i2 : i < n) (i3 : i ≤ 2147483647) (hd : decode cc pc = .ok (.baload, 1)) (kk : W p l e R s m args below meth c H locs cells slots Q (F0 m (pc + 1) ls (.int (iI (f i)) :: rest))) : W p l e R s m args below meth c H locs cells slots Q (F0 m pc ls (.int (iI i) :: .ref a :: rest)) := va_zald hx hb hK hP q0 t0 ha ht (iI_in i1 i2 i3) hd (by rw [ai_at f i1 i3]; exact kk)
theorem q_lald (hx : p.tables.exec = Jvm.exec) (hb : c.code = cc) {D : va_G} {cl : List vw_C} {a : Nat} {tys : List (ClassId × FieldType)} {ws : va_W} (hK : va_K D cl tys s) (hP : va_P D cl ws H) (q0 t0 : Nat) {cA : ClassId} {n : Nat} {f : Int → Int} (ha : ws[q0]? = some (a, .inl (cA, n, .inr (.inl (al f))))) (ht : tys[t0]? = some (cA, .long)) {i : Int} (i1 : 0 ≤ i) (i2 : i < n) (i3 : i ≤ 2147483647) (hd : decode cc pc = .ok (.laload, 1)) (kk : W p l e R s m args below meth c H locs cells slots Q (F0 m (pc + 1) ls (.long (lI (f i)) :: rest))) : W p l e R s m args below meth c H locs cells slots Q (F0 m pc ls (.int (iI i) :: .ref a :: rest)) := va_lald hx hb hK hP q0 t0 ha ht (iI_in i1 i2 i3) hd (by rw [al_at f i1 i3]; exact kk)
theorem q_iast (hx : p.tables.exec = Jvm.exec) (hb : c.code = cc) {D : va_G} {cl : List vw_C} {A : Nat → Prop} {a : Nat} {tys : List (ClassId × FieldType)} {ws : va_W} {H0 : Heap} (hK : va_K D cl tys s) (hP : va_P D cl ws H) (hD : va_D A ws) (hS : va_S A H0 H locs) (q0 t0 : Nat) {cA : ClassId} {n : Nat} {f : Int → Int} (ha : ws[q0]? = some (a, .inl (cA, n, .inl (ai f)))) (ht : tys[t0]? = some (cA, .int)) {i x : Int} (i1 : 0 ≤ i) (i2 : i < n) (i3 : i ≤ 2147483647) (hd : decode cc pc = .ok (.iastore, 1)) (kk : ∀ (H1 : Heap) (locs1 : List Loc), va_P D cl (ws.set q0 (a, .inl (cA, n, .inl (ai (up f i x))))) H1 → va_D A (ws.set q0 (a, .inl (cA, n, .inl (ai (up f i x))))) → va_S A H0 H1 locs1 → W p l e R s m args below meth c H1 locs1 cells slots Q (F0 m (pc + 1) ls rest)) : W p l e R s m args below meth c H locs cells slots Q (F0 m pc ls (.int (iI x) :: .int (iI i) :: .ref a :: rest)) := va_iast hx hb hK hP hD hS q0 t0 ha ht (iI_in i1 i2 i3) hd (by rw [ai_up f x i1 i3]; exact kk)
theorem q_zast (hx : p.tables.exec = Jvm.exec) (hb : c.code = cc) {D : va_G} {cl : List vw_C} {A : Nat → Prop} {a : Nat} {tys : List (ClassId × FieldType)} {ws : va_W} {H0 : Heap} (hK : va_K D cl tys s) (hP : va_P D cl ws H) (hD : va_D A ws) (hS : va_S A H0 H locs) (q0 t0 : Nat) {cA : ClassId} {n : Nat} {f : Int → Int} (ha : ws[q0]? = some (a, .inl (cA, n, .inl (ai f)))) (ht : tys[t0]? = some (cA, .boolean)) {i x : Int} (hz : x = 0 ∨ x = 1) (i1 : 0 ≤ i) (i2 : i < n) (i3 : i ≤ 2147483647) (hd : decode cc pc = .ok (.bastore, 1)) (kk : ∀ (H1 : Heap) (locs1 : List Loc), va_P D cl (ws.set q0 (a, .inl (cA, n, .inl (ai (up f i x))))) H1 → va_D A (ws.set q0 (a, .inl (cA, n, .inl (ai (up f i x))))) → va_S A H0 H1 locs1 → W p l e R s m args below meth c H1 locs1 cells slots Q (F0 m (pc + 1) ls rest)) : W p l e R s m args below meth c H locs cells slots Q (F0 m pc ls (.int (iI x) :: .int (iI i) :: .ref a :: rest)) := va_zast hx hb hK hP hD hS q0 t0 ha ht (iI_in i1 i2 i3) hd (by rw [nar_z hz, ai_up f x i1 i3]; exact kk)
theorem q_last (hx : p.tables.exec = Jvm.exec) (hb : c.code = cc) {D : va_G} {cl : List vw_C} {A : Nat → Prop} {a : Nat} {tys : List (ClassId × FieldType)} {ws : va_W} {H0 : Heap} (hK : va_K D cl tys s) (hP : va_P D cl ws H) (hD : va_D A ws) (hS : va_S A H0 H locs) (q0 t0 : Nat) {cA : ClassId} {n : Nat} {f : Int → Int} (ha : ws[q0]? = some (a, .inl (cA, n, .inr (.inl (al f))))) (ht : tys[t0]? = some (cA, .long)) {i x : Int} (i1 : 0 ≤ i) (i2 : i < n) (i3 : i ≤ 2147483647) (hd : decode cc pc = .ok (.lastore, 1)) (kk : ∀ (H1 : Heap) (locs1 : List Loc), va_P D cl (ws.set q0 (a, .inl (cA, n, .inr (.inl (al (up f i x)))))) H1 → va_D A (ws.set q0 (a, .inl (cA, n, .inr (.inl (al (up f i x)))))) → va_S A H0 H1 locs1 → W p l e R s m args below meth c H1 locs1 cells slots Q (F0 m (pc + 1) ls rest)) : W p l e R s m args below meth c H locs cells slots Q (F0 m pc ls (.long (lI x) :: .int (iI i) :: .ref a :: rest)) := va_last hx hb hK hP hD hS q0 t0 ha ht (iI_in i1 i2 i3) hd (by rw [al_up f x i1 i3]; exact kk)
end QR
/-! standard contracts: a world of cells before, a world behind; the array classes are fixed; the links among nest mates are known -/
abbrev TY (cI cJ cZ : ClassId) : List (ClassId × FieldType) := [(cI, .int), (cJ, .long), (cZ, .boolean)]
def NW (U : State) : Prop := ∀ q ∈ nestLinks, va_Nw (.methodLinkNest q.1 q.2.1 q.2.2.1 q.2.2.2) U
def PB (D : va_G) (cI cJ cZ : ClassId) (ws : va_W) (sz : Nat) (U : State) : Prop := U.heap.size = sz ∧ va_P D vwCl ws U.heap ∧ va_K D vwCl (TY cI cJ cZ) U ∧ va_D (fun _ => True) ws ∧ NW U
def PA {S : Type} (D : va_G) (A : Nat → Prop) (ws' : S → va_W) (u : S) (t : State) : Prop := va_P D vwCl (ws' u) t.heap ∧ va_D A (ws' u)
def Mi (l : Launch) (y : MethodName) (wd : List Cond) (rm : Room) (D : va_G) (cI cJ cZ : ClassId) (av : List Value) (ws : va_W) {S : Type} (post : Int → S → Prop) (ws' : S → va_W) (mc ms : Nat) : Prop :=
  ∀ sz : Nat, Met l y wd rm (va_Pc av (PB D cI cJ cZ ws sz)) (va_Qi (fun r u => ∃ z, r = iI z ∧ post z u) (PA D (va_A ws sz) ws') (va_A ws sz)) mc ms (va_A ws sz)
def Ml (l : Launch) (y : MethodName) (wd : List Cond) (rm : Room) (D : va_G) (cI cJ cZ : ClassId) (av : List Value) (ws : va_W) {S : Type} (post : Int → S → Prop) (ws' : S → va_W) (mc ms : Nat) : Prop :=
  ∀ sz : Nat, Met l y wd rm (va_Pc av (PB D cI cJ cZ ws sz)) (va_Ql (fun r u => ∃ z, r = lI z ∧ post z u) (PA D (va_A ws sz) ws') (va_A ws sz)) mc ms (va_A ws sz)
def Mv (l : Launch) (y : MethodName) (wd : List Cond) (rm : Room) (D : va_G) (cI cJ cZ : ClassId) (av : List Value) (ws : va_W) {S : Type} (post : S → Prop) (ws' : S → va_W) (mc ms : Nat) : Prop :=
  ∀ sz : Nat, Met l y wd rm (va_Pc av (PB D cI cJ cZ ws sz)) (va_Qv post (PA D (va_A ws sz) ws') (va_A ws sz)) mc ms (va_A ws sz)
theorem fm_of {ws wc : va_W} {is : List Nat} (h : is.map (fun i => ws[i]?) = wc.map some) : is.filterMap (fun i => ws[i]?) = wc := by
  have e : is.filterMap (fun i => ws[i]?) = (is.map (fun i => ws[i]?)).filterMap id := by rw [List.filterMap_map]; rfl
  rw [e, h, List.filterMap_map]
  exact List.filterMap_some
theorem pb_blind {D : va_G} {cI cJ cZ : ClassId} {av : List Value} {wc : va_W} {sz : Nat} : FrameBlind (va_Pc av (PB D cI cJ cZ wc sz)) := fun a U g mk q => by
  obtain ⟨q0, q1, qP, qK, qD, qN⟩ := q
  exact ⟨q0, q1, qP, va_K.moved (u := U) (U := U.calling g mk a) (Vm.Alike.refl U.vm) qK, qD, fun x hx => va_Nw.same rfl rfl (qN x hx)⟩
theorem pb_of {s U : State} {H : Heap} {D : va_G} {cI cJ cZ : ClassId} {ws wc : va_W} {A : Nat → Prop} (hK : va_K D vwCl (TY cI cJ cZ) s) (hN : NW s) (hP : va_P D vwCl ws H) (hD : va_D A ws) (is : List Nat) (hnd : va_nd is = true) (hC : is.map (fun i => ws[i]?) = wc.map some) (hU : U.heap = H) (hW : s.WarmedH U.vm) : PB D cI cJ cZ wc H.size U :=
  ⟨by rw [hU], by rw [hU]; exact hP.sub is (fm_of hC), va_K.moved hW.alike hK, (hD.sub is hnd hC).weaken (fun _ _ _ _ => trivial), fun q hq => va_Nw.warmM hW (hN q hq)⟩
theorem pre_S {s : State} {H : Heap} {D : va_G} {cI cJ cZ : ClassId} {ws wc : va_W} {A : Nat → Prop} {av : List Value} (hK : va_K D vwCl (TY cI cJ cZ) s) (hN : NW s) (hP : va_P D vwCl ws H) (hD : va_D A ws) (is : List Nat) (hnd : va_nd is = true) (hC : is.map (fun i => ws[i]?) = wc.map some) : PreS s H (va_Pc av (PB D cI cJ cZ wc H.size)) av :=
  ⟨pb_blind, fun _ hU hW => ⟨rfl, pb_of hK hN hP hD is hnd hC hU hW⟩⟩
theorem pre_V {s : State} {H : Heap} {D : va_G} {cI cJ cZ : ClassId} {ws wc : va_W} {A : Nat → Prop} {As : List Value} {b q0 ci : Nat} {q : vw_C} {fs : List Value} (hK : va_K D vwCl (TY cI cJ cZ) s) (hN : NW s) (hP : va_P D vwCl ws H) (hD : va_D A ws) (is : List Nat) (hnd : va_nd is = true) (hC : is.map (fun i => ws[i]?) = wc.map some) (hc : vwCl[ci]? = some q) (he : ws[q0]? = some (b, .inr (ci, fs))) : PreV s H q.1 b (va_Pc (.ref b :: As) (PB D cI cJ cZ wc H.size)) As :=
  ⟨pb_blind, va_recv hK hP hc he, fun _ hU hW => ⟨rfl, pb_of hK hN hP hD is hnd hC hU hW⟩⟩
section AF
variable {p : Program} {l : Launch} {e : Env} {R : Room} {s : State} {m : MethodId} {args : Array Value} {below : List Frame} {meth : Method} {c : Code} {H : Heap} {locs : List Loc} {cells slots : Nat} {Q : State → Prop}
variable {pc : Nat} {ls : Array Slot} {rest st0 : List Value} {a : Array Value} {A : Nat → Prop} {mc ms : Nat} {D : va_G} {ws wc wr : va_W}
theorem af_i {S : Type} {post : Int → S → Prop} {ws' : S → va_W} (hr : va_Run p l e R s m args below meth c H locs cells slots mc ms (F0 m pc ls st0) rest (va_Qi (fun r u => ∃ z, r = iI z ∧ post z u) (PA D (va_A wc H.size) ws') (va_A wc H.size) a) (va_A wc H.size)) (hA : ∀ q, s.heap.size ≤ q → A q) (hP : va_P D vwCl ws H) (hD : va_D A ws) (hS : va_S A s.heap H locs)
    (isC isR : List Nat) (hC : isC.map (fun i => ws[i]?) = wc.map some) (hR : isR.map (fun i => ws[i]?) = wr.map some) (hn : va_nd isR = true) (hdis : ∀ i ∈ isR, i ∉ isC)
    (kk : ∀ (z : Int) (u : S) (H1 : Heap) (locs1 : List Loc), post z u → va_P D vwCl (wr ++ ws' u) H1 → va_D A (wr ++ ws' u) → va_S A s.heap H1 locs1 → W p l e R s m args below meth c H1 locs1 (cells + mc) (slots + ms) Q (F0 m (pc + 3) ls (.int (iI z) :: rest))) : W p l e R s m args below meth c H locs cells slots Q (F0 m pc ls st0) := by
  have hFc := va_free (wc := wc) hD hS hA isC hC
  refine va_calli hr hS (fun q _ h => hFc q h) hFc (fun r u t H1 locs1 ht hvm hw hB hz1 hk1 hS1 => ?_)
  obtain ⟨z, rfl, hw⟩ := hw
  obtain ⟨hP1, hD1⟩ := hB
  rw [ht] at hP1
  obtain ⟨hP2, hD2⟩ := va_join hP hD isC isR hC hR hn hdis hk1 hFc hP1 hD1
  exact kk z u H1 locs1 hw hP2 hD2 hS1
theorem af_l {S : Type} {post : Int → S → Prop} {ws' : S → va_W} (hr : va_Run p l e R s m args below meth c H locs cells slots mc ms (F0 m pc ls st0) rest (va_Ql (fun r u => ∃ z, r = lI z ∧ post z u) (PA D (va_A wc H.size) ws') (va_A wc H.size) a) (va_A wc H.size)) (hA : ∀ q, s.heap.size ≤ q → A q) (hP : va_P D vwCl ws H) (hD : va_D A ws) (hS : va_S A s.heap H locs)
    (isC isR : List Nat) (hC : isC.map (fun i => ws[i]?) = wc.map some) (hR : isR.map (fun i => ws[i]?) = wr.map some) (hn : va_nd isR = true) (hdis : ∀ i ∈ isR, i ∉ isC)
    (kk : ∀ (z : Int) (u : S) (H1 : Heap) (locs1 : List Loc), post z u → va_P D vwCl (wr ++ ws' u) H1 → va_D A (wr ++ ws' u) → va_S A s.heap H1 locs1 → W p l e R s m args below meth c H1 locs1 (cells + mc) (slots + ms) Q (F0 m (pc + 3) ls (.long (lI z) :: rest))) : W p l e R s m args below meth c H locs cells slots Q (F0 m pc ls st0) := by
  have hFc := va_free (wc := wc) hD hS hA isC hC
  refine va_calll hr hS (fun q _ h => hFc q h) hFc (fun r u t H1 locs1 ht hvm hw hB hz1 hk1 hS1 => ?_)
  obtain ⟨z, rfl, hw⟩ := hw
  obtain ⟨hP1, hD1⟩ := hB
  rw [ht] at hP1
  obtain ⟨hP2, hD2⟩ := va_join hP hD isC isR hC hR hn hdis hk1 hFc hP1 hD1
  exact kk z u H1 locs1 hw hP2 hD2 hS1
theorem af_v {S : Type} {post : S → Prop} {ws' : S → va_W} (hr : va_Run p l e R s m args below meth c H locs cells slots mc ms (F0 m pc ls st0) rest (va_Qv post (PA D (va_A wc H.size) ws') (va_A wc H.size) a) (va_A wc H.size)) (hA : ∀ q, s.heap.size ≤ q → A q) (hP : va_P D vwCl ws H) (hD : va_D A ws) (hS : va_S A s.heap H locs)
    (isC isR : List Nat) (hC : isC.map (fun i => ws[i]?) = wc.map some) (hR : isR.map (fun i => ws[i]?) = wr.map some) (hn : va_nd isR = true) (hdis : ∀ i ∈ isR, i ∉ isC)
    (kk : ∀ (u : S) (H1 : Heap) (locs1 : List Loc), post u → va_P D vwCl (wr ++ ws' u) H1 → va_D A (wr ++ ws' u) → va_S A s.heap H1 locs1 → W p l e R s m args below meth c H1 locs1 (cells + mc) (slots + ms) Q (F0 m (pc + 3) ls rest)) : W p l e R s m args below meth c H locs cells slots Q (F0 m pc ls st0) := by
  have hFc := va_free (wc := wc) hD hS hA isC hC
  refine va_callv hr hS (fun q _ h => hFc q h) hFc (fun u t H1 locs1 ht hvm hw hB hz1 hk1 hS1 => ?_)
  obtain ⟨hP1, hD1⟩ := hB
  rw [ht] at hP1
  obtain ⟨hP2, hD2⟩ := va_join hP hD isC isR hC hR hn hdis hk1 hFc hP1 hD1
  exact kk u H1 locs1 hw hP2 hD2 hS1
end AF
/-! a method's start and its ends -/
section EN
variable {l : Launch} {y : MethodName} {wd wd' : List Cond} {rm : Room} {D : va_G} {cI cJ cZ : ClassId} {av : List Value} {ws : va_W} {S : Type} {ws' : S → va_W} {mc ms : Nat} {cc : ByteArray} {maxL : Nat} {ty : FieldType}
theorem en_i {post : Int → S → Prop} (hy : plainFor y = true) (hw : wd = Cond.code y cc maxL (some ty) :: wd') (hlen : (lg_sl av).length ≤ maxL)
    (body : ∀ (p : Program) (e : Env) (s : State) (m : MethodId) (args : Array Value) (below : List Frame) (meth : Method) (c : Code) (A : Nat → Prop) (Q : State → Prop), p.tables.exec = Jvm.exec → c.code = cc → c.maxLocals = maxL → meth.name = y.name → (∀ w ∈ wd, w.before args s = true) → s.vm.findClass y.cls = some m.cls → (∀ q, s.heap.size ≤ q → A q) → va_P D vwCl ws s.heap → va_K D vwCl (TY cI cJ cZ) s → va_D A ws → NW s → va_S A s.heap s.heap [] → (∀ (H : Heap) (locs : List Loc) (pc : Nat) (ls : Array Slot) (z : Int) (u : S), narrow ty (.int (iI z)) = .int (iI z) → va_S A s.heap H locs → post z u → va_P D vwCl (ws' u) H → va_D A (ws' u) → decode cc pc = .ok (.ireturn, 1) → W p l e rm s m args below meth c H locs mc ms Q (F0 m pc ls [.int (iI z)])) →
      ∀ ls : Array Slot, lv_has ls maxL (lv_args 0 av) → W p l e rm s m args below meth c s.heap [] 0 0 Q (F0 m 0 ls [])) : Mi l y wd rm D cI cJ cZ av ws post ws' mc ms := by
  intro sz
  refine va_MetF (cc := cc) (maxL := maxL) (ret := some ty) hy hw ?_
  intro p e s m args below meth c s₁ B hml hv
  obtain ⟨rfl, hsz, hP, hK, hD0, hN⟩ := hv
  subst hsz
  have hD := hD0.self (sz := s.heap.size)
  rw [lg_entry_eq]
  exact body p e s m _ below meth c (va_A ws s.heap.size) _ B.exec B.bytes hml (name_of_methodNamed B.named B.method).1 (atoms_spec (ws := wd) B.pre) (findClass_of_methodNamed B.named) (fun q h => Or.inr h) hP hK hD hN va_S.rf
    (fun H locs pc ls z u hn hS hp hP hD hd => W.zret B.exec B.bytes B.returns hn (fun t ht _ => ⟨⟨iI z, u, rfl, ⟨z, rfl, hp⟩, by rw [ht]; exact hP, hD⟩, hS.F ht⟩) hS.2.2 hd B.notSynchronized) _ (lv_entry av hlen)
theorem en_l {post : Int → S → Prop} (hy : plainFor y = true) (hw : wd = Cond.code y cc maxL (some .long) :: wd') (hlen : (lg_sl av).length ≤ maxL)
    (body : ∀ (p : Program) (e : Env) (s : State) (m : MethodId) (args : Array Value) (below : List Frame) (meth : Method) (c : Code) (A : Nat → Prop) (Q : State → Prop), p.tables.exec = Jvm.exec → c.code = cc → c.maxLocals = maxL → meth.name = y.name → (∀ w ∈ wd, w.before args s = true) → s.vm.findClass y.cls = some m.cls → (∀ q, s.heap.size ≤ q → A q) → va_P D vwCl ws s.heap → va_K D vwCl (TY cI cJ cZ) s → va_D A ws → NW s → va_S A s.heap s.heap [] → (∀ (H : Heap) (locs : List Loc) (pc : Nat) (ls : Array Slot) (z : Int) (u : S), va_S A s.heap H locs → post z u → va_P D vwCl (ws' u) H → va_D A (ws' u) → decode cc pc = .ok (.lreturn, 1) → W p l e rm s m args below meth c H locs mc ms Q (F0 m pc ls [.long (lI z)])) →
      ∀ ls : Array Slot, lv_has ls maxL (lv_args 0 av) → W p l e rm s m args below meth c s.heap [] 0 0 Q (F0 m 0 ls [])) : Ml l y wd rm D cI cJ cZ av ws post ws' mc ms := by
  intro sz
  refine va_MetF (cc := cc) (maxL := maxL) (ret := some .long) hy hw ?_
  intro p e s m args below meth c s₁ B hml hv
  obtain ⟨rfl, hsz, hP, hK, hD0, hN⟩ := hv
  subst hsz
  have hD := hD0.self (sz := s.heap.size)
  rw [lg_entry_eq]
  exact body p e s m _ below meth c (va_A ws s.heap.size) _ B.exec B.bytes hml (name_of_methodNamed B.named B.method).1 (atoms_spec (ws := wd) B.pre) (findClass_of_methodNamed B.named) (fun q h => Or.inr h) hP hK hD hN va_S.rf
    (fun H locs pc ls z u hS hp hP hD hd => W.lret B.exec B.bytes B.returns (fun t ht _ => ⟨⟨lI z, u, rfl, ⟨z, rfl, hp⟩, by rw [ht]; exact hP, hD⟩, hS.F ht⟩) hS.2.2 hd B.notSynchronized) _ (lv_entry av hlen)
theorem en_v {post : S → Prop} (hy : plainFor y = true) (hw : wd = Cond.code y cc maxL (none) :: wd') (hlen : (lg_sl av).length ≤ maxL)
    (body : ∀ (p : Program) (e : Env) (s : State) (m : MethodId) (args : Array Value) (below : List Frame) (meth : Method) (c : Code) (A : Nat → Prop) (Q : State → Prop), p.tables.exec = Jvm.exec → c.code = cc → c.maxLocals = maxL → meth.name = y.name → (∀ w ∈ wd, w.before args s = true) → s.vm.findClass y.cls = some m.cls → (∀ q, s.heap.size ≤ q → A q) → va_P D vwCl ws s.heap → va_K D vwCl (TY cI cJ cZ) s → va_D A ws → NW s → va_S A s.heap s.heap [] → (∀ (H : Heap) (locs : List Loc) (pc : Nat) (ls : Array Slot) (u : S), va_S A s.heap H locs → post u → va_P D vwCl (ws' u) H → va_D A (ws' u) → decode cc pc = .ok (.return_, 1) → W p l e rm s m args below meth c H locs mc ms Q (F0 m pc ls [])) →
      ∀ ls : Array Slot, lv_has ls maxL (lv_args 0 av) → W p l e rm s m args below meth c s.heap [] 0 0 Q (F0 m 0 ls [])) : Mv l y wd rm D cI cJ cZ av ws post ws' mc ms := by
  intro sz
  refine va_MetF (cc := cc) (maxL := maxL) (ret := none) hy hw ?_
  intro p e s m args below meth c s₁ B hml hv
  obtain ⟨rfl, hsz, hP, hK, hD0, hN⟩ := hv
  subst hsz
  have hD := hD0.self (sz := s.heap.size)
  rw [lg_entry_eq]
  exact body p e s m _ below meth c (va_A ws s.heap.size) _ B.exec B.bytes hml (name_of_methodNamed B.named B.method).1 (atoms_spec (ws := wd) B.pre) (findClass_of_methodNamed B.named) (fun q h => Or.inr h) hP hK hD hN va_S.rf
    (fun H locs pc ls u hS hp hP hD hd => W.vret B.exec B.bytes B.returns (fun t ht _ => ⟨⟨u, rfl, hp, by rw [ht]; exact hP, hD⟩, hS.F ht⟩) hS.2.2 hd B.notSynchronized) _ (lv_entry av hlen)
end EN
/-! truth values -/
def bl (z : Int) (P : Prop) : Prop := (z = 1 ∧ P) ∨ (z = 0 ∧ ¬ P)
theorem bl_1 {z : Int} {P : Prop} (h : bl z P) : -2147483648 ≤ z := by rcases h with ⟨h, -⟩ | ⟨h, -⟩ <;> omega
theorem bl_2 {z : Int} {P : Prop} (h : bl z P) : z ≤ 2147483647 := by rcases h with ⟨h, -⟩ | ⟨h, -⟩ <;> omega
theorem bl_01 {z : Int} {P : Prop} (h : bl z P) : z = 0 ∨ z = 1 := by rcases h with ⟨h, -⟩ | ⟨h, -⟩ <;> omega
theorem bl_t {z : Int} {P : Prop} (h : bl z P) (q : z ≠ 0) : P := by rcases h with ⟨-, h⟩ | ⟨h, -⟩ <;> first | exact h | exact absurd h q
theorem bl_f {z : Int} {P : Prop} (h : bl z P) (q : z = 0) : ¬ P := by
  rcases h with ⟨h, -⟩ | ⟨-, h⟩
  · omega
  · exact h
theorem bl_y {P : Prop} (h : P) : bl 1 P := Or.inl ⟨rfl, h⟩
theorem bl_n {P : Prop} (h : ¬ P) : bl 0 P := Or.inr ⟨rfl, h⟩
theorem bl_c {z : Int} {P R : Prop} (h : bl z P) (e : P ↔ R) : bl z R := h.imp (fun h => ⟨h.1, e.mp h.2⟩) (fun h => ⟨h.1, fun r => h.2 (e.mpr r)⟩)
theorem bl_e {z : Int} {P : Prop} (h : bl z P) : (z = 1 ↔ P) ∧ (z = 0 ↔ ¬ P) := by rcases h with ⟨h, q⟩ | ⟨h, q⟩ <;> subst h <;> simp [q]
/-- two array classes of one kind are one -/
theorem arr_same {D : va_G} {cl : List vw_C} {t1 t2 : List (ClassId × FieldType)} {s : State} (h1 : va_K D cl t1 s) (h2 : va_K D cl t2 s) {i j : Nat} {c1 c2 : ClassId} {ty : FieldType} (e1 : t1[i]? = some (c1, ty)) (e2 : t2[j]? = some (c2, ty)) (hty : ty = .int ∨ ty = .long ∨ ty = .boolean) : c1 = c2 := by
  have a := (h1.2 i _ e1).2
  have b := (h2.2 j _ e2).2
  rcases hty with rfl | rfl | rfl <;> exact Option.some.inj (Eq.trans (Eq.symm a) b)

