/-! what the exact calls answer and do, the same words for both sides -/
def OKN (a2 c2 : Int) : Prop := a2 = 0 ∧ c2 = 0
def NON (a c a2 c2 : Int) : Prop := a2 = a ∧ c2 = c
def P_table (x y z b m b2 m2 a c a2 c2 : Int) : Prop := (0 ≤ x ∧ x ≤ 100 ∧ 0 ≤ y ∧ y ≤ 100 ∧ z = 1 ∧ b2 = x ∧ m2 = y ∧ a2 = 0 ∧ c2 = 0) ∨ (¬ (0 ≤ x ∧ x ≤ 100 ∧ 0 ≤ y ∧ y ≤ 100) ∧ z = -2 ∧ b2 = b ∧ m2 = m ∧ a2 = a ∧ c2 = c)
def P_column (x z n n2 : Int) (t l b t2 l2 b2 : Int → Int) (a c a2 c2 : Int) : Prop :=
  (¬ (0 ≤ x ∧ x ≤ 100000) ∧ z = -2 ∧ n2 = n ∧ t2 = t ∧ l2 = l ∧ b2 = b ∧ a2 = a ∧ c2 = c) ∨
  ((0 ≤ x ∧ x ≤ 100000) ∧ ¬ (n = 0 ∨ t (n - 1) < x) ∧ z = -3 ∧ n2 = n ∧ t2 = t ∧ l2 = l ∧ b2 = b ∧ a2 = a ∧ c2 = c) ∨
  ((0 ≤ x ∧ x ≤ 100000) ∧ (n = 0 ∨ t (n - 1) < x) ∧ n = 24 ∧ z = -4 ∧ n2 = n ∧ t2 = t ∧ l2 = l ∧ b2 = b ∧ a2 = a ∧ c2 = c) ∨
  ((0 ≤ x ∧ x ≤ 100000) ∧ (n = 0 ∨ t (n - 1) < x) ∧ n < 24 ∧ z = n ∧ n2 = n + 1 ∧ t2 = up t n x ∧ l2 = up l n 0 ∧ b2 = up b n 0 ∧ a2 = 0 ∧ c2 = 0)
def P_least (g x z n : Int) (l l2 : Int → Int) (a c a2 c2 : Int) : Prop :=
  (¬ (0 ≤ g ∧ g ≤ n - 2) ∧ z = -1 ∧ l2 = l ∧ a2 = a ∧ c2 = c) ∨
  ((0 ≤ g ∧ g ≤ n - 2) ∧ ¬ (0 ≤ x ∧ x ≤ 1000) ∧ z = -2 ∧ l2 = l ∧ a2 = a ∧ c2 = c) ∨
  ((0 ≤ g ∧ g ≤ n - 2) ∧ (0 ≤ x ∧ x ≤ 1000) ∧ z = l g ∧ l2 = up l g x ∧ a2 = 0 ∧ c2 = 0)
def P_item (s x e r k z n : Int) (h f g h2 f2 g2 : Int → Int) (a c a2 c2 : Int) : Prop :=
  (¬ ((0 ≤ s ∧ s ≤ 3) ∧ 0 ≤ x ∧ x ≤ n - 1) ∧ z = -1 ∧ h2 = h ∧ f2 = f ∧ g2 = g ∧ a2 = a ∧ c2 = c) ∨
  (((0 ≤ s ∧ s ≤ 3) ∧ 0 ≤ x ∧ x ≤ n - 1) ∧ ¬ (0 ≤ e ∧ e ≤ 500 ∧ 0 ≤ r ∧ r ≤ 500) ∧ z = -2 ∧ h2 = h ∧ f2 = f ∧ g2 = g ∧ a2 = a ∧ c2 = c) ∨
  (((0 ≤ s ∧ s ≤ 3) ∧ 0 ≤ x ∧ x ≤ n - 1) ∧ (0 ≤ e ∧ e ≤ 500 ∧ 0 ≤ r ∧ r ≤ 500) ∧ z = 1 - h k ∧ h2 = up h k 1 ∧ f2 = up f k e ∧ g2 = up g k r ∧ a2 = 0 ∧ c2 = 0)
def P_remove (s x k z n : Int) (h h2 : Int → Int) (a c a2 c2 : Int) : Prop :=
  (¬ (((0 ≤ s ∧ s ≤ 3) ∧ 0 ≤ x ∧ x ≤ n - 1) ∧ h k = 1) ∧ z = -1 ∧ h2 = h ∧ a2 = a ∧ c2 = c) ∨
  ((((0 ≤ s ∧ s ≤ 3) ∧ 0 ≤ x ∧ x ≤ n - 1) ∧ h k = 1) ∧ z = 1 ∧ h2 = up h k 0 ∧ a2 = 0 ∧ c2 = 0)
def P_bar (x y z n : Int) (b b2 : Int → Int) (a c a2 c2 : Int) : Prop :=
  (¬ (0 ≤ x ∧ x ≤ n - 1) ∧ z = -1 ∧ b2 = b ∧ a2 = a ∧ c2 = c) ∨
  ((0 ≤ x ∧ x ≤ n - 1) ∧ z = b x ∧ b2 = up b x y ∧ a2 = 0 ∧ c2 = 0)
def P_spring (x z b m : Int) : Prop := (¬ (1 ≤ x ∧ x ≤ 100000) ∧ z = -2) ∨ ((1 ≤ x ∧ x ≤ 100000) ∧ SPR b m x z)
/-! the two sides together -/
def EQ (n : Int) (f g : Int → Int) : Prop := ∀ j, 0 ≤ j → j < n → f j = g j
def EQI (n : Int) (f g : Int → Int) : Prop := ∀ s x, 0 ≤ s → s ≤ 3 → 0 ≤ x → x < n → f (s * 24 + x) = g (24 * s + x)
def HZ (n : Int) (f : Int → Int) : Prop := ∀ s x, 0 ≤ s → s ≤ 3 → n ≤ x → x < 24 → f (s * 24 + x) = 0
theorem EQ.upd {n k v : Int} {f g : Int → Int} (h : EQ n f g) : EQ n (up f k v) (up g k v) := fun j a b => by
  by_cases e : j = k
  · rw [e, up_s, up_s]
  · rw [up_n e, up_n e]; exact h j a b
theorem EQ.add {n v : Int} {f g : Int → Int} (h : EQ n f g) : EQ (n + 1) (up f n v) (up g n v) := fun j a b => by
  by_cases e : j = n
  · rw [e, up_s, up_s]
  · rw [up_n e, up_n e]; exact h j a (by omega)
theorem TS.add {n x : Int} {f : Int → Int} (h : TS n f) (n0 : 0 ≤ n) (x0 : 0 ≤ x) (x1 : x ≤ 100000) (q : n = 0 ∨ f (n - 1) < x) : TS (n + 1) (up f n x) := by
  refine ⟨fun j a b => ?_, fun j a b => ?_⟩
  · by_cases e : j = n
    · rw [e, up_s]; exact ⟨x0, x1⟩
    · rw [up_n e]; exact h.1 j a (by omega)
  · by_cases e : j + 1 = n
    · rw [e, up_s, up_n (by omega), show j = n - 1 by omega]
      rcases q with q | q
      · omega
      · exact q
    · rw [up_n (by omega), up_n e]; exact h.2 j a (by omega)
theorem TS.nil {f : Int → Int} : TS 0 f := ⟨fun j a b => by omega, fun j a b => by omega⟩
theorem EQ.nil {f g : Int → Int} : EQ 0 f g := fun j a b => by omega
theorem EQI.nil {f g : Int → Int} : EQI 0 f g := fun s x _ _ a b => by omega
theorem EQI.up {n s x v : Int} {f g : Int → Int} (h : EQI n f g) (s0 : 0 ≤ s) (s1 : s ≤ 3) (x0 : 0 ≤ x) (x1 : x ≤ n - 1) (n1 : n ≤ 24) : EQI n (up f (s * 24 + x) v) (up g (24 * s + x) v) := fun t y a b c d => by
  by_cases e : t * 24 + y = s * 24 + x
  · rw [e, up_s, show 24 * t + y = 24 * s + x by omega, up_s]
  · rw [up_n e, up_n (by omega)]; exact h t y a b c d
theorem EQI.add {n : Int} {f g g2 : Int → Int} (h : EQI n f g) (hz : HZ n f) (n0 : 0 ≤ n) (n1 : n < 24) (q : IT4 n 4 g g2) : EQI (n + 1) f g2 := fun s x a b c d => by
  by_cases e : x = n
  · rw [e, hz s n a b (by omega) n1, q.1 s a (by omega)]
  · rw [h s x a b c (by omega)]
    exact (q.2 (24 * s + x) (fun t a1 b1 => by omega)).symm
theorem IT4.b {n : Int} {f g : Int → Int} (q : IT4 n 4 f g) (h : B01 96 f) : B01 96 g := fun j a b => by
  by_cases e : ∃ s, 0 ≤ s ∧ s < 4 ∧ j = 24 * s + n
  · obtain ⟨s, s0, s1, rfl⟩ := e; exact Or.inl (q.1 s s0 s1)
  · rw [q.2 j (fun s a b c => e ⟨s, a, b, c⟩)]; exact h j a b
theorem HZ.up {n s x v : Int} {f : Int → Int} (h : HZ n f) (s0 : 0 ≤ s) (s1 : s ≤ 3) (x0 : 0 ≤ x) (x1 : x ≤ n - 1) (n1 : n ≤ 24) : HZ n (up f (s * 24 + x) v) := fun t y a b c d => by
  rw [up_n (by omega)]; exact h t y a b c d
theorem HZ.more {n : Int} {f : Int → Int} (h : HZ n f) : HZ (n + 1) f := fun t y a b c d => h t y a b (by omega) d
theorem ZR.b {f : Int → Int} (h : ZR 96 f) : B01 96 f := fun j a b => Or.inl (h j a b)
theorem ZR.hz {f : Int → Int} (h : ZR 96 f) : HZ 0 f := fun s x a b c d => h _ (by omega) (by omega)
theorem tie_col {x z z' n n' n2 n2' a c a2 c2 a' c' a2' c2' : Int} {t l b t2 l2 b2 t' l' b' t2' l2' b2' h h' h2' : Int → Int} (e : n' = n) (n0 : 0 ≤ n) (n1 : n ≤ 24)
    (E1 : EQ n t t') (E2 : EQ n l l') (E3 : EQ n b b') (E4 : EQI n h h') (T : TS n t) (T' : TS n' t') (B : B01 24 b) (B' : B01 24 b') (I : B01 96 h') (Z : HZ n h)
    (P : P_column x z n n2 t l b t2 l2 b2 a c a2 c2) (P' : P_column x z' n' n2' t' l' b' t2' l2' b2' a' c' a2' c2') (Q : (n2' = n' ∧ h2' = h') ∨ (n2' = n' + 1 ∧ IT4 n' 4 h' h2')) :
    z = z' ∧ n2' = n2 ∧ (0 ≤ n2 ∧ n2 ≤ 24) ∧ EQ n2 t2 t2' ∧ EQ n2 l2 l2' ∧ EQ n2 b2 b2' ∧ EQI n2 h h2' ∧ TS n2 t2 ∧ TS n2' t2' ∧ B01 24 b2 ∧ B01 24 b2' ∧ B01 96 h2' ∧ HZ n2 h ∧ ((n2 = n ∧ a2 = a ∧ c2 = c ∧ a2' = a' ∧ c2' = c') ∨ (a2 = 0 ∧ c2 = 0 ∧ a2' = 0 ∧ c2' = 0)) := by
  subst e
  have k : n' = 0 ∨ t (n' - 1) = t' (n' - 1) := by
    by_cases q : n' = 0
    · exact Or.inl q
    · exact Or.inr (E1 _ (by omega) (by omega))
  rcases P with ⟨p1, rfl, rfl, rfl, rfl, rfl, rfl, rfl⟩ | ⟨p1, p2, rfl, rfl, rfl, rfl, rfl, rfl, rfl⟩ | ⟨p1, p2, p3, rfl, rfl, rfl, rfl, rfl, rfl, rfl⟩ | ⟨p1, p2, p3, rfl, rfl, rfl, rfl, rfl, rfl, rfl⟩
  · rcases P' with ⟨q1, rfl, rfl, rfl, rfl, rfl, rfl, rfl⟩ | ⟨q1, q2, rfl, rfl, rfl, rfl, rfl, rfl, rfl⟩ | ⟨q1, q2, q3, rfl, rfl, rfl, rfl, rfl, rfl, rfl⟩ | ⟨q1, q2, q3, rfl, rfl, rfl, rfl, rfl, rfl, rfl⟩
    · rcases Q with ⟨-, rfl⟩ | ⟨q, -⟩
      · exact ⟨rfl, rfl, ⟨n0, n1⟩, E1, E2, E3, E4, T, T', B, B', I, Z, Or.inl ⟨rfl, rfl, rfl, rfl, rfl⟩⟩
      · omega
    all_goals omega
  · rcases P' with ⟨q1, rfl, rfl, rfl, rfl, rfl, rfl, rfl⟩ | ⟨q1, q2, rfl, rfl, rfl, rfl, rfl, rfl, rfl⟩ | ⟨q1, q2, q3, rfl, rfl, rfl, rfl, rfl, rfl, rfl⟩ | ⟨q1, q2, q3, rfl, rfl, rfl, rfl, rfl, rfl, rfl⟩
    · omega
    · rcases Q with ⟨-, rfl⟩ | ⟨q, -⟩
      · exact ⟨rfl, rfl, ⟨n0, n1⟩, E1, E2, E3, E4, T, T', B, B', I, Z, Or.inl ⟨rfl, rfl, rfl, rfl, rfl⟩⟩
      · omega
    all_goals omega
  · rcases P' with ⟨q1, rfl, rfl, rfl, rfl, rfl, rfl, rfl⟩ | ⟨q1, q2, rfl, rfl, rfl, rfl, rfl, rfl, rfl⟩ | ⟨q1, q2, q3, rfl, rfl, rfl, rfl, rfl, rfl, rfl⟩ | ⟨q1, q2, q3, rfl, rfl, rfl, rfl, rfl, rfl, rfl⟩
    · omega
    · omega
    · rcases Q with ⟨-, rfl⟩ | ⟨q, -⟩
      · exact ⟨rfl, rfl, ⟨n0, n1⟩, E1, E2, E3, E4, T, T', B, B', I, Z, Or.inl ⟨rfl, rfl, rfl, rfl, rfl⟩⟩
      · omega
    · omega
  · rcases P' with ⟨q1, rfl, rfl, rfl, rfl, rfl, rfl, rfl⟩ | ⟨q1, q2, rfl, rfl, rfl, rfl, rfl, rfl, rfl⟩ | ⟨q1, q2, q3, rfl, rfl, rfl, rfl, rfl, rfl, rfl⟩ | ⟨q1, q2, q3, rfl, rfl, rfl, rfl, rfl, rfl, rfl⟩
    · omega
    · omega
    · omega
    · rcases Q with ⟨q, -⟩ | ⟨-, q⟩
      · omega
      · exact ⟨rfl, rfl, ⟨by omega, by omega⟩, E1.add, E2.add, E3.add, E4.add Z n0 p3 q, T.add n0 p1.1 p1.2 p2, T'.add n0 p1.1 p1.2 q2, B.up (Or.inl rfl), B'.up (Or.inl rfl), q.b I, Z.more, Or.inr ⟨rfl, rfl, rfl, rfl⟩⟩
theorem tie_least {g x z z' n n' a c a2 c2 a' c' a2' c2' : Int} {l l2 l' l2' : Int → Int} (e : n' = n) (E : EQ n l l') (P : P_least g x z n l l2 a c a2 c2) (P' : P_least g x z' n' l' l2' a' c' a2' c2') : z = z' ∧ EQ n l2 l2' ∧ ((a2 = a ∧ c2 = c ∧ a2' = a' ∧ c2' = c') ∨ (a2 = 0 ∧ c2 = 0 ∧ a2' = 0 ∧ c2' = 0)) := by
  subst e
  rcases P with ⟨p1, rfl, rfl, rfl, rfl⟩ | ⟨p1, p2, rfl, rfl, rfl, rfl⟩ | ⟨p1, p2, rfl, rfl, rfl, rfl⟩ <;> rcases P' with ⟨q1, rfl, rfl, rfl, rfl⟩ | ⟨q1, q2, rfl, rfl, rfl, rfl⟩ | ⟨q1, q2, rfl, rfl, rfl, rfl⟩
  case inl.inl => exact ⟨rfl, E, Or.inl ⟨rfl, rfl, rfl, rfl⟩⟩
  case inr.inl.inr.inl => exact ⟨rfl, E, Or.inl ⟨rfl, rfl, rfl, rfl⟩⟩
  case inr.inr.inr.inr => exact ⟨E g p1.1 (by omega), E.upd, Or.inr ⟨rfl, rfl, rfl, rfl⟩⟩
  all_goals omega
theorem tie_bar {x y z z' n n' a c a2 c2 a' c' a2' c2' : Int} {b b2 b' b2' : Int → Int} (e : n' = n) (y01 : y = 0 ∨ y = 1) (E : EQ n b b') (B : B01 24 b) (B' : B01 24 b') (P : P_bar x y z n b b2 a c a2 c2) (P' : P_bar x y z' n' b' b2' a' c' a2' c2') : z = z' ∧ EQ n b2 b2' ∧ B01 24 b2 ∧ B01 24 b2' ∧ ((a2 = a ∧ c2 = c ∧ a2' = a' ∧ c2' = c') ∨ (a2 = 0 ∧ c2 = 0 ∧ a2' = 0 ∧ c2' = 0)) := by
  subst e
  rcases P with ⟨p1, rfl, rfl, rfl, rfl⟩ | ⟨p1, rfl, rfl, rfl, rfl⟩ <;> rcases P' with ⟨q1, rfl, rfl, rfl, rfl⟩ | ⟨q1, rfl, rfl, rfl, rfl⟩
  · exact ⟨rfl, E, B, B', Or.inl ⟨rfl, rfl, rfl, rfl⟩⟩
  · omega
  · omega
  · exact ⟨E x p1.1 (by omega), E.upd, B.up y01, B'.up y01, Or.inr ⟨rfl, rfl, rfl, rfl⟩⟩
theorem tie_item {s x e r z z' n n' a c a2 c2 a' c' a2' c2' : Int} {h f g h2 f2 g2 h' f' g' h2' f2' g2' : Int → Int} (en : n' = n) (n1 : n ≤ 24) (E : EQI n h h') (B : B01 96 h) (B' : B01 96 h') (Z : HZ n h) (P : P_item s x e r (s * 24 + x) z n h f g h2 f2 g2 a c a2 c2) (P' : P_item s x e r (24 * s + x) z' n' h' f' g' h2' f2' g2' a' c' a2' c2') : z = z' ∧ EQI n h2 h2' ∧ B01 96 h2 ∧ B01 96 h2' ∧ HZ n h2 ∧ ((a2 = a ∧ c2 = c ∧ a2' = a' ∧ c2' = c') ∨ (a2 = 0 ∧ c2 = 0 ∧ a2' = 0 ∧ c2' = 0)) := by
  subst en
  rcases P with ⟨p1, rfl, rfl, rfl, rfl, rfl, rfl⟩ | ⟨p1, p2, rfl, rfl, rfl, rfl, rfl, rfl⟩ | ⟨p1, p2, rfl, rfl, rfl, rfl, rfl, rfl⟩ <;> rcases P' with ⟨q1, rfl, rfl, rfl, rfl, rfl, rfl⟩ | ⟨q1, q2, rfl, rfl, rfl, rfl, rfl, rfl⟩ | ⟨q1, q2, rfl, rfl, rfl, rfl, rfl, rfl⟩
  case inl.inl => exact ⟨rfl, E, B, B', Z, Or.inl ⟨rfl, rfl, rfl, rfl⟩⟩
  case inr.inl.inr.inl => exact ⟨rfl, E, B, B', Z, Or.inl ⟨rfl, rfl, rfl, rfl⟩⟩
  case inr.inr.inr.inr => exact ⟨by rw [E s x p1.1.1 p1.1.2 p1.2.1 (by omega)], E.up p1.1.1 p1.1.2 p1.2.1 p1.2.2 n1, B.up (Or.inr rfl), B'.up (Or.inr rfl), Z.up p1.1.1 p1.1.2 p1.2.1 p1.2.2 n1, Or.inr ⟨rfl, rfl, rfl, rfl⟩⟩
  all_goals omega
theorem tie_remove {s x z z' n n' a c a2 c2 a' c' a2' c2' : Int} {h h2 h' h2' : Int → Int} (en : n' = n) (n1 : n ≤ 24) (E : EQI n h h') (B : B01 96 h) (B' : B01 96 h') (Z : HZ n h) (P : P_remove s x (s * 24 + x) z n h h2 a c a2 c2) (P' : P_remove s x (24 * s + x) z' n' h' h2' a' c' a2' c2') : z = z' ∧ EQI n h2 h2' ∧ B01 96 h2 ∧ B01 96 h2' ∧ HZ n h2 ∧ ((a2 = a ∧ c2 = c ∧ a2' = a' ∧ c2' = c') ∨ (a2 = 0 ∧ c2 = 0 ∧ a2' = 0 ∧ c2' = 0)) := by
  subst en
  have k : ((0 ≤ s ∧ s ≤ 3) ∧ 0 ≤ x ∧ x ≤ n' - 1) → h (s * 24 + x) = h' (24 * s + x) := fun q => E s x q.1.1 q.1.2 q.2.1 (by omega)
  rcases P with ⟨p1, rfl, rfl, rfl, rfl⟩ | ⟨p1, rfl, rfl, rfl, rfl⟩ <;> rcases P' with ⟨q1, rfl, rfl, rfl, rfl⟩ | ⟨q1, rfl, rfl, rfl, rfl⟩
  · exact ⟨rfl, E, B, B', Z, Or.inl ⟨rfl, rfl, rfl, rfl⟩⟩
  · exact absurd ⟨q1.1, (k q1.1).trans q1.2⟩ p1
  · exact absurd ⟨p1.1, (k p1.1).symm.trans p1.2⟩ q1
  · exact ⟨rfl, E.up p1.1.1.1 p1.1.1.2 p1.1.2.1 p1.1.2.2 n1, B.up (Or.inl rfl), B'.up (Or.inl rfl), Z.up p1.1.1.1 p1.1.1.2 p1.1.2.1 p1.1.2.2 n1, Or.inr ⟨rfl, rfl, rfl, rfl⟩⟩
theorem tie_spring {x z z' b m b' m' : Int} (eb : b' = b) (em : m' = m) (P : P_spring x z b m) (P' : P_spring x z' b' m') : z = z' := by
  subst eb em
  rcases P with ⟨p1, rfl⟩ | ⟨p1, p2⟩ <;> rcases P' with ⟨q1, rfl⟩ | ⟨q1, q2⟩
  · rfl
  · exact absurd q1 p1
  · exact absurd p1 q1
  · exact p2.one q2
