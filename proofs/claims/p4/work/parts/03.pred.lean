/-! pictures of the cells -/
def pw (k : Int) : Int := 2 ^ k.toNat
theorem pw_b {k : Int} (h1 : 0 ≤ k) (h2 : k ≤ 16) : 1 ≤ pw k ∧ pw k ≤ 65536 := by
  obtain ⟨n, rfl⟩ := Int.eq_ofNat_of_zero_le h1
  have hn : n ≤ 16 := by omega
  have : ∀ n : Fin 17, 1 ≤ (2 : Int) ^ n.val ∧ (2 : Int) ^ n.val ≤ 65536 := by decide +kernel
  exact this ⟨n, by omega⟩
theorem pw_s {k : Int} (h1 : 0 ≤ k) : pw (k + 1) = 2 * pw k := by
  unfold pw; rw [show (k + 1).toNat = k.toNat + 1 by omega, Int.pow_succ, Int.mul_comm]
theorem pw_0 : pw 0 = 1 := rfl
theorem sh_2 {k : Int} (h1 : 0 ≤ k) (h2 : k ≤ 16) : iI 2 <<< (iI k &&& 31) = iI (2 * pw k) := by
  obtain ⟨n, rfl⟩ := Int.eq_ofNat_of_zero_le h1
  have hn : n ≤ 16 := by omega
  have : ∀ n : Fin 17, iI 2 <<< (iI (n.val : Int) &&& 31) = iI (2 * pw (n.val : Int)) := by decide +kernel
  exact this ⟨n, by omega⟩
theorem sh_1 {k : Int} (h1 : 0 ≤ k) (h2 : k ≤ 16) : iI 1 <<< (iI k &&& 31) = iI (pw k) := by
  obtain ⟨n, rfl⟩ := Int.eq_ofNat_of_zero_le h1
  have hn : n ≤ 16 := by omega
  have : ∀ n : Fin 17, iI 1 <<< (iI (n.val : Int) &&& 31) = iI (pw (n.val : Int)) := by decide +kernel
  exact this ⟨n, by omega⟩
theorem sh_L {k : Int} (h1 : 0 ≤ k) (h2 : k ≤ 16) : lI 65536 >>> ((iI k).toInt64 &&& 63) = lI (pw (16 - k)) := by
  obtain ⟨n, rfl⟩ := Int.eq_ofNat_of_zero_le h1
  have hn : n ≤ 16 := by omega
  have : ∀ n : Fin 17, lI 65536 >>> ((iI (n.val : Int)).toInt64 &&& 63) = lI (pw (16 - (n.val : Int))) := by decide +kernel
  exact this ⟨n, by omega⟩
theorem sh_I {k : Int} (h1 : 0 ≤ k) (h2 : k ≤ 16) : iI 65536 >>> (iI k &&& 31) = iI (pw (16 - k)) := by
  obtain ⟨n, rfl⟩ := Int.eq_ofNat_of_zero_le h1
  have hn : n ≤ 16 := by omega
  have : ∀ n : Fin 17, iI 65536 >>> (iI (n.val : Int) &&& 31) = iI (pw (16 - (n.val : Int))) := by decide +kernel
  exact this ⟨n, by omega⟩
theorem sh_D {d k : Int} (d1 : 0 ≤ d) (d2 : d ≤ 2147483647) (h1 : 0 ≤ k) (h2 : k ≤ 17) : iI d >>> (iI k &&& 31) = iI (d / pw k) := by
  obtain ⟨n, rfl⟩ := Int.eq_ofNat_of_zero_le h1
  have hn : n ≤ 17 := by omega
  have e : ∀ n : Fin 18, ((iI (n.val : Int) &&& 31).toBitVec.smod 32).toNat = n.val := by decide +kernel
  have e := e ⟨n, by omega⟩
  rw [← Int32.toInt_inj]
  have q : (iI d >>> (iI (n : Int) &&& 31)).toInt = d / 2 ^ n := by
    show (BitVec.sshiftRight' (iI d).toBitVec ((iI (n : Int) &&& 31).toBitVec.smod 32)).toInt = _
    rw [BitVec.toInt_sshiftRight', e]
    show (iI d).toInt >>> n = _
    rw [iI_T (by omega) d2, Int.shiftRight_eq_div_pow]
    norm_cast
  rw [q]
  have b1 : 0 ≤ d / 2 ^ n := Int.ediv_nonneg d1 (Int.pow_nonneg (by omega))
  have b2 : d / 2 ^ n ≤ d := Int.ediv_le_self _ d1
  exact (iI_T (z := d / 2 ^ n) (by omega) (by omega)).symm
theorem mul_b {a b A B : Int} (a0 : 0 ≤ a) (a1 : a ≤ A) (b0 : 0 ≤ b) (b1 : b ≤ B) : 0 ≤ a * b ∧ a * b ≤ A * B :=
  ⟨Int.mul_nonneg a0 b0, Int.mul_le_mul a1 b1 b0 (by omega)⟩
def TS (n : Int) (f : Int → Int) : Prop := (∀ j, 0 ≤ j → j < n → 0 ≤ f j ∧ f j ≤ 100000) ∧ (∀ j, 0 ≤ j → j + 1 < n → f j < f (j + 1))
def B01 (n : Int) (f : Int → Int) : Prop := ∀ j, 0 ≤ j → j < n → f j = 0 ∨ f j = 1
def ND (k : Int) (f g : Int → Int) : Prop := ∀ j, 0 ≤ j → j < k → 0 ≤ f j ∧ f j < g j ∧ g j ≤ 23
def CN (f : Int → Int) : Prop := ∀ j, 0 ≤ j → j ≤ 23 → 0 ≤ f j ∧ f j ≤ 23 - j
def NX (f : Int → Int) : Prop := ∀ j, 0 ≤ j → j ≤ 23 → 0 ≤ f j ∧ f j ≤ 23
def ZR (n : Int) (f : Int → Int) : Prop := ∀ j, 0 ≤ j → j < n → f j = 0
theorem B01.up {n : Int} {f : Int → Int} (h : B01 n f) {k v : Int} (hv : v = 0 ∨ v = 1) : B01 n (up f k v) := fun j a b => by
  by_cases e : j = k
  · rw [e, up_s]; exact hv
  · rw [up_n e]; exact h j a b
theorem ZR.up {n : Int} {f : Int → Int} (h : ZR n f) : ZR (n + 1) (up f n 0) := fun j a b => by
  by_cases e : j = n
  · rw [e, up_s]
  · rw [up_n e]; exact h j a (by omega)
theorem ZR.nil {f : Int → Int} : ZR 0 f := fun j a b => by omega
theorem ND.nil {f g : Int → Int} : ND 0 f g := fun j a b => by omega
theorem ND.up {k : Int} {f g : Int → Int} (h : ND k f g) {x y : Int} (x0 : 0 ≤ x) (xy : x < y) (y1 : y ≤ 23) : ND (k + 1) (up f k x) (up g k y) := fun j a b => by
  by_cases e : j = k
  · rw [e, up_s, up_s]; exact ⟨x0, xy, y1⟩
  · rw [up_n e, up_n e]; exact h j a (by omega)
theorem CN.up {f : Int → Int} (h : CN f) {k v : Int} (v0 : 0 ≤ v) (v1 : v ≤ 23 - k) : CN (up f k v) := fun j a b => by
  by_cases e : j = k
  · rw [e, up_s]; exact ⟨v0, v1⟩
  · rw [up_n e]; exact h j a b
theorem NX.up {f : Int → Int} (h : NX f) {k v : Int} (v0 : 0 ≤ v) (v1 : v ≤ 23) : NX (up f k v) := fun j a b => by
  by_cases e : j = k
  · rw [e, up_s]; exact ⟨v0, v1⟩
  · rw [up_n e]; exact h j a b
theorem TS.dur {n : Int} {f : Int → Int} (h : TS n f) {j : Int} (a : 0 ≤ j) (b : j + 1 < n) : 1 ≤ f (j + 1) - f j ∧ f (j + 1) - f j ≤ 100000 := by
  have h1 := h.1 j a (by omega); have h2 := h.1 (j + 1) (by omega) b; have h3 := h.2 j a b; omega
/-- the spring's number -/
def SPR (b m d z : Int) : Prop := ∃ k : Int, 0 ≤ k ∧ k ≤ 16 ∧ pw k ≤ d ∧ d < 2 * pw k ∧ z = 65536 * (b + m * k) + m * (d - pw k) * pw (16 - k)
theorem pw_le {a b : Int} (h0 : 0 ≤ a) (h : a ≤ b) : pw a ≤ pw b := by
  unfold pw
  have h := Nat.pow_le_pow_right (n := 2) (by omega) (show a.toNat ≤ b.toNat by omega)
  exact_mod_cast h
theorem SPR.one {b m d z z' : Int} (h : SPR b m d z) (h' : SPR b m d z') : z = z' := by
  obtain ⟨k, k0, k1, k2, k3, rfl⟩ := h
  obtain ⟨q, q0, q1, q2, q3, rfl⟩ := h'
  have e : k = q := by
    rcases Int.lt_trichotomy k q with h | h | h
    · have := pw_le (a := k + 1) (b := q) (by omega) (by omega); rw [pw_s k0] at this; omega
    · exact h
    · have := pw_le (a := q + 1) (b := k) (by omega) (by omega); rw [pw_s q0] at this; omega
  rw [e]
theorem SPR.bd {b m d z : Int} (h : SPR b m d z) (b0 : 0 ≤ b) (b1 : b ≤ 100) (m0 : 0 ≤ m) (m1 : m ≤ 100) : 0 ≤ z ∧ z ≤ 134217728 := by
  obtain ⟨k, k0, k1, k2, k3, rfl⟩ := h
  have p := pw_b k0 k1
  have r := pw_b (k := 16 - k) (by omega) (by omega)
  have e : pw k * pw (16 - k) = 65536 := by
    have : ∀ n : Fin 17, pw (n.val : Int) * pw (16 - (n.val : Int)) = 65536 := by decide +kernel
    obtain ⟨n, rfl⟩ := Int.eq_ofNat_of_zero_le k0
    exact this ⟨n, by omega⟩
  have t1 := mul_b m0 m1 k0 k1
  have t2 := mul_b (a := d - pw k) (A := pw k) (b := pw (16 - k)) (B := pw (16 - k)) (by omega) (by omega) (by omega) (by omega)
  rw [e] at t2
  have t3 := mul_b m0 m1 t2.1 t2.2
  rw [← Int.mul_assoc] at t3
  omega
theorem pw_16 : pw 16 = 65536 := rfl
theorem mul_b1 {a b A B : Int} (a0 : 1 ≤ a) (a1 : a ≤ A) (b0 : 1 ≤ b) (b1 : b ≤ B) : 1 ≤ a * b ∧ a * b ≤ A * B := by
  have h := mul_b (a := a) (b := b) (A := A) (B := B) (by omega) a1 (by omega) b1
  have p : 0 < a * b := Int.mul_pos (by omega) (by omega)
  omega
/-! the reference's own -/
def SPB (f : Int → Int) : Prop := ∀ j, 0 ≤ j → j ≤ 23 → 0 ≤ f j ∧ f j ≤ 134217728
theorem SPB.up {f : Int → Int} (h : SPB f) {k v : Int} (v0 : 0 ≤ v) (v1 : v ≤ 134217728) : SPB (up f k v) := fun j a b => by
  by_cases e : j = k
  · rw [e, up_s]; exact ⟨v0, v1⟩
  · rw [up_n e]; exact h j a b
def ugn (g : Int → Int) (a : Int) : Nat → Int
  | 0 => 0
  | n + 1 => ugn g a n + (if g (a + n) = 0 then 1 else 0)
def ug (g : Int → Int) (a b : Int) : Int := ugn g a (b - a).toNat
theorem ugn_b (g : Int → Int) (a : Int) : ∀ n : Nat, 0 ≤ ugn g a n ∧ ugn g a n ≤ n
  | 0 => ⟨Int.le_refl 0, Int.le_refl 0⟩
  | n + 1 => by
    have h := ugn_b g a n
    unfold ugn
    split <;> omega
theorem ug_b (g : Int → Int) {a b : Int} (h : a ≤ b) : 0 ≤ ug g a b ∧ ug g a b ≤ b - a := by
  have q := ugn_b g a (b - a).toNat
  unfold ug; omega
theorem ugn_o (g : Int → Int) (a j : Int) : ∀ n : Nat, (j < a ∨ a + n ≤ j) → ugn (up g j 1) a n = ugn g a n
  | 0, _ => rfl
  | n + 1, h => by
    unfold ugn
    rw [ugn_o g a j n (by omega), up_n (by omega)]
theorem ugn_up (g : Int → Int) (a j : Int) (hj : g j = 0) : ∀ n : Nat, a ≤ j → j < a + n → ugn (up g j 1) a n = ugn g a n - 1
  | 0, h1, h2 => by omega
  | n + 1, h1, h2 => by
    by_cases e : j = a + n
    · unfold ugn
      rw [ugn_o g a j n (by omega), ← e, up_s, if_neg (by omega), if_pos hj]; omega
    · unfold ugn
      rw [ugn_up g a j hj n h1 (by omega), up_n (fun q => e q.symm)]; omega
theorem ug_up {g : Int → Int} {a b j : Int} (hj : g j = 0) (h1 : a ≤ j) (h2 : j < b) : ug (up g j 1) a b = ug g a b - 1 :=
  ugn_up g a j hj _ h1 (by omega)
def NXT (f k : Int) (g p : Int → Int) (x : Int) : Prop := (x = -1 ∧ ∀ j, f ≤ j → j < k → ¬ (g j = 0 ∧ 0 < p j)) ∨ (f ≤ x ∧ x < k ∧ g x = 0 ∧ 0 < p x)
theorem NXT.nil {f : Int} {g p : Int → Int} : NXT f f g p (-1) := Or.inl ⟨rfl, fun j a b => by omega⟩
theorem NXT.skip {f k x : Int} {g p : Int → Int} (h : NXT f k g p x) (q : g k = 0 ∧ 0 < p k → False) : NXT f (k + 1) g p x := by
  rcases h with ⟨h1, h2⟩ | ⟨h1, h2, h3⟩
  · refine Or.inl ⟨h1, fun j a b => ?_⟩
    by_cases e : j = k
    · rw [e]; exact q
    · exact h2 j a (by omega)
  · exact Or.inr ⟨h1, by omega, h3⟩
theorem NXT.keep {f k x : Int} {g p : Int → Int} (h : NXT f k g p x) (q : 0 ≤ x) : NXT f (k + 1) g p x := by
  rcases h with ⟨h1, h2⟩ | ⟨h1, h2, h3⟩
  · omega
  · exact Or.inr ⟨h1, by omega, h3⟩
theorem NXT.put {f k : Int} {g p : Int → Int} (a : f ≤ k) (b : g k = 0) (c : 0 < p k) : NXT f (k + 1) g p k := Or.inr ⟨a, by omega, b, c⟩
theorem NXT.got {f k x : Int} {g p : Int → Int} (h : NXT f k g p x) (q : 0 ≤ x) : f ≤ x ∧ x < k ∧ g x = 0 ∧ 0 < p x := by
  rcases h with ⟨h1, h2⟩ | h
  · omega
  · exact h
theorem NXT.pos {f k x s : Int} {g p : Int → Int} (h : NXT f k g p x) (q : x < 0) (f0 : 0 ≤ f) (hs : ∃ j, f ≤ j ∧ j < k ∧ 0 < p j) (hg : ∀ j, f ≤ j → j < k → g j ≠ 0 → 0 < s) : 0 < s := by
  rcases h with ⟨h1, h2⟩ | ⟨h1, -⟩
  · obtain ⟨j, a, b, c⟩ := hs
    exact hg j a b (fun e => h2 j a b ⟨e, c⟩)
  · omega
def IB (n : Int) (b : Int → Int) (c : Int) : Prop := c = 0 ∨ c = n - 1 ∨ b c ≠ 0
/-- a column whose best line is found -/
def GD (n : Int) (bl be : Int → Int) (c : Int) : Prop := c < be c ∧ be c ≤ n - 1 ∧ bl c = 1 + bl (be c) ∧ (be c = n - 1 ∨ 0 ≤ be (be c)) ∧ 1 ≤ bl c ∧ bl c ≤ n - 1 - c
def PRC (n a : Int) (b bl be : Int → Int) : Prop := bl (n - 1) = 0 ∧ ∀ c, a ≤ c → c < n - 1 → (be c < 0 ∨ GD n bl be c) ∧ (IB n b c → 0 ≤ be c)
def CUR (n c e : Int) (bl be : Int → Int) : Prop := (be c = -1 ∧ e = n - 1) ∨ GD n bl be c
theorem PRC.nil {n : Int} {b bl be : Int → Int} : PRC n (n - 1) b (up bl (n - 1) 0) be := ⟨up_s _ _ _, fun c a d => by omega⟩
theorem GD.up {n : Int} {bl be : Int → Int} {c a x y : Int} (h : GD n bl be c) (e : a < c) : GD n (up bl a x) (up be a y) c := by
  obtain ⟨h1, h2, h3, h4, h5, h6⟩ := h
  unfold GD
  rw [up_n (show c ≠ a by omega), up_n (show c ≠ a by omega), up_n (show be c ≠ a by omega), up_n (show be c ≠ a by omega)]
  exact ⟨h1, h2, h3, h4, h5, h6⟩
theorem PRC.upd {n a x y : Int} {b bl be : Int → Int} (h : PRC n (a + 1) b bl be) (ha : a < n - 1) : PRC n (a + 1) b (up bl a x) (up be a y) := by
  refine ⟨by rw [up_n (show n - 1 ≠ a by omega)]; exact h.1, fun c p q => ?_⟩
  have g := h.2 c p q
  rw [up_n (show c ≠ a by omega)]
  exact ⟨g.1.imp id (fun g => g.up (by omega)), g.2⟩
theorem PRC.up2 {n a y : Int} {b bl be : Int → Int} (h : PRC n (a + 1) b bl be) (ha : a < n - 1) : PRC n (a + 1) b bl (up be a y) := by
  have e : up bl a (bl a) = bl := by funext j; exact (Decidable.em (j = a)).elim (fun q => by rw [q, up_s]) (fun q => up_n q)
  have := h.upd (x := bl a) (y := y) ha
  rw [e] at this; exact this
theorem CUR.put {n c e : Int} {b bl be : Int → Int} (h : PRC n (c + 1) b bl be) (c0 : 0 ≤ c) (ce : c < e) (en : e ≤ n - 1) (hb : IB n b e) : GD n (up bl c (1 + bl e)) (up be c e) c := by
  unfold GD
  rw [up_s, up_s, up_n (show e ≠ c by omega), up_n (show e ≠ c by omega)]
  by_cases q : e = n - 1
  · have := h.1; rw [q]; refine ⟨by omega, by omega, rfl, Or.inl rfl, by omega, by omega⟩
  · have g := h.2 e (by omega) (by omega)
    have g0 := g.2 hb
    rcases g.1 with g | g
    · omega
    · obtain ⟨h1, h2, h3, h4, h5, h6⟩ := g
      exact ⟨ce, en, rfl, Or.inr g0, by omega, by omega⟩
theorem PRC.next {n c e : Int} {b bl be : Int → Int} (h : PRC n (c + 1) b bl be) (c0 : 0 ≤ c) (u : CUR n c e bl be) (hc : IB n b c → GD n bl be c) : PRC n c b bl be := by
  refine ⟨h.1, fun j p q => ?_⟩
  by_cases e1 : j = c
  · rw [e1]
    refine ⟨?_, fun i => ?_⟩
    · rcases u with u | u
      · exact Or.inl (by omega)
      · exact Or.inr u
    · have := (hc i).1; have := (hc i); obtain ⟨h1, -⟩ := this; omega
  · exact h.2 j (by omega) q
/-- where the telling of the begins stands -/
def AT (n c k m : Int) (bl be : Int → Int) : Prop := (c = n - 1 ∧ m - k = 0) ∨ (0 ≤ c ∧ c < n - 1 ∧ GD n bl be c ∧ bl c = m - k)
theorem AT.go {n c k m : Int} {b bl be : Int → Int} (h : PRC n 0 b bl be) (u : AT n c k m bl be) (q : k < m) : (0 ≤ c ∧ c ≤ 23 ∨ 24 < n) ∧ AT n (be c) (k + 1) m bl be := by
  rcases u with ⟨u1, u2⟩ | ⟨u1, u2, u3, u4⟩
  · omega
  · obtain ⟨h1, h2, h3, h4, h5, h6⟩ := u3
    refine ⟨by omega, ?_⟩
    by_cases e : be c = n - 1
    · refine Or.inl ⟨e, ?_⟩
      have := h.1; rw [e] at h3; omega
    · have g := h.2 (be c) (by omega) (by omega)
      rcases g.1 with g | g
      · omega
      · exact Or.inr ⟨by omega, by omega, g, by omega⟩
def IT4 (n k : Int) (f g : Int → Int) : Prop := (∀ s, 0 ≤ s → s < k → g (24 * s + n) = 0) ∧ (∀ j, (∀ s, 0 ≤ s → s < k → j ≠ 24 * s + n) → g j = f j)
theorem IT4.nil {n : Int} {f : Int → Int} : IT4 n 0 f f := ⟨fun s a b => by omega, fun _ _ => rfl⟩
theorem IT4.up {n k : Int} {f g : Int → Int} (h : IT4 n k f g) (k0 : 0 ≤ k) : IT4 n (k + 1) f (up g (24 * k + n) 0) := by
  refine ⟨fun s a b => ?_, fun j q => ?_⟩
  · by_cases e : s = k
    · rw [e, up_s]
    · rw [up_n (by omega)]; exact h.1 s a (by omega)
  · have e : j ≠ 24 * k + n := q k k0 (by omega)
    rw [up_n e]; exact h.2 j (fun s a b => q s a (by omega))
def ZB (f k : Int) (g : Int → Int) : Prop := ∀ j, f ≤ j → j < k → g j = 0
theorem ZB.nil {f : Int} {g : Int → Int} : ZB f f g := fun j a b => by omega
theorem ZB.up {f k : Int} {g : Int → Int} (h : ZB f k g) : ZB f (k + 1) (up g k 0) := fun j a b => by
  by_cases e : j = k
  · rw [e, up_s]
  · rw [up_n e]; exact h j a (by omega)
theorem pw_q {d k : Int} (k0 : 0 ≤ k) (k1 : k ≤ 16) (d0 : 1 ≤ d) (d1 : d ≤ 100000) : (0 ≤ d / pw (k + 1) ∧ d / pw (k + 1) ≤ d) ∧ (d / pw (k + 1) ≤ 0 → d < 2 * pw k) ∧ (0 < d / pw (k + 1) → k + 1 ≤ 16 ∧ pw (k + 1) ≤ d) := by
  have p := pw_b k0 k1
  rw [pw_s k0]
  have h := Int.ediv_mul_le d (b := 2 * pw k) (by omega)
  have h2 := Int.lt_ediv_add_one_mul_self d (b := 2 * pw k) (by omega)
  have h0 : 0 ≤ d / (2 * pw k) := Int.ediv_nonneg (by omega) (by omega)
  refine ⟨⟨h0, Int.ediv_le_self _ (by omega)⟩, fun q => ?_, fun q => ?_⟩
  · have e : d / (2 * pw k) = 0 := by omega
    rw [e] at h2; omega
  · have g : 2 * pw k ≤ d := by
      have := Int.mul_le_mul_of_nonneg_right (show 1 ≤ d / (2 * pw k) by omega) (show 0 ≤ 2 * pw k by omega)
      omega
    refine ⟨?_, g⟩
    apply Int.not_lt.mp; intro z
    have e : k = 16 := by omega
    rw [e, pw_16] at g; omega
theorem CUR.rng {n c e : Int} {bl be : Int → Int} (h : CUR n c e bl be) (c0 : 0 ≤ c) (n0 : 1 ≤ n) : -1 ≤ be c ∧ be c ≤ n - 1 := by
  rcases h with h | ⟨h1, h2, -⟩ <;> omega
theorem PRC0 {n : Int} {b bl be : Int → Int} (h : PRC n 0 b bl be) (n2 : 2 ≤ n) : 1 ≤ bl 0 ∧ bl 0 ≤ n - 1 := by
  have g := h.2 0 (by omega) (by omega)
  have := g.2 (Or.inl rfl)
  rcases g.1 with g | g
  · omega
  · obtain ⟨h1, h2, h3, h4, h5, h6⟩ := g; omega
theorem AT0 {n : Int} {b bl be : Int → Int} (h : PRC n 0 b bl be) (n2 : 2 ≤ n) : AT n 0 0 (bl 0) bl be := by
  have g := h.2 0 (by omega) (by omega)
  have q := g.2 (Or.inl rfl)
  rcases g.1 with g | g
  · omega
  · exact Or.inr ⟨by omega, by omega, g, by omega⟩
