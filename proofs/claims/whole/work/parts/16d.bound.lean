/-! HOW MUCH A QUARTER CAN GIVE -/
theorem Ib_n {n : Nat} {b : Int} (h : (n : Int) ≤ b) (h2 : n < 2 ^ 31) : Ib (nI n) 0 b := by
  unfold Ib
  rw [nI_toInt h2]
  omega
theorem Ib.mono {x : Int32} {a b c d : Int} (h : Ib x a b) (h1 : c ≤ a) (h2 : b ≤ d) : Ib x c d := ⟨by have := h.1; omega, by have := h.2; omega⟩
theorem Ib.add {x y : Int32} {a b c d : Int} (h : Ib x a b) (g : Ib y c d) (h1 : -2147483648 ≤ a + c) (h2 : b + d ≤ 2147483647) : Ib (x + y) (a + c) (b + d) := by
  obtain ⟨p1, p2⟩ := h
  obtain ⟨q1, q2⟩ := g
  unfold Ib
  rw [Int32.toInt_add, Int.bmod_eq_of_le (by omega) (by omega)]
  omega
theorem Ib.sub {x y : Int32} {a b c d : Int} (h : Ib x a b) (g : Ib y c d) (h1 : -2147483648 ≤ a - d) (h2 : b - c ≤ 2147483647) : Ib (x - y) (a - d) (b - c) := by
  obtain ⟨p1, p2⟩ := h
  obtain ⟨q1, q2⟩ := g
  unfold Ib
  rw [Int32.toInt_sub, Int.bmod_eq_of_le (by omega) (by omega)]
  omega
theorem Ib.mul20 {x y : Int32} (h : Ib x 0 20) (g : Ib y 0 100) : Ib (x * y) 0 2000 := by
  obtain ⟨p1, p2⟩ := h
  obtain ⟨q1, q2⟩ := g
  have k1 : 0 ≤ x.toInt * y.toInt := Int.mul_nonneg p1 q1
  have k2 : x.toInt * y.toInt ≤ 20 * 100 := Int.mul_le_mul p2 q2 q1 (by decide)
  unfold Ib
  rw [Int32.toInt_mul, Int.bmod_eq_of_le (by omega) (by omega)]
  omega
theorem Ib.div100 {x : Int32} (h : Ib x 0 2000) : Ib (x / nI 100) 0 20 := by
  obtain ⟨p1, p2⟩ := h
  unfold Ib
  rw [Int32.toInt_div_of_ne_right _ _ (by decide), nI_toInt (by decide), Int.tdiv_eq_ediv_of_nonneg p1]
  omega
theorem Ib.mn {x y : Int32} {b d : Int} (h : Ib x 0 b) (g : Ib y 0 d) : Ib (mnI x y) 0 b ∧ (mnI x y).toInt ≤ y.toInt := by
  obtain ⟨p1, p2⟩ := h
  obtain ⟨q1, q2⟩ := g
  unfold mnI
  by_cases c : y < x
  · rw [if_pos c]
    rw [Int32.lt_iff_toInt_lt] at c
    exact ⟨⟨q1, by omega⟩, Int.le_refl _⟩
  · rw [if_neg c]
    rw [Int32.lt_iff_toInt_lt] at c
    exact ⟨⟨p1, p2⟩, by omega⟩
theorem Ib.mx {y : Int32} {c d : Int} (g : Ib y c d) (hd : 0 ≤ d) : Ib (mxI (nI 0) y) 0 d := by
  obtain ⟨q1, q2⟩ := g
  have e : (nI 0).toInt = 0 := nI_toInt (by decide)
  unfold mxI
  by_cases c : nI 0 < y
  · rw [if_pos c]
    rw [Int32.lt_iff_toInt_lt, e] at c
    exact ⟨by omega, q2⟩
  · rw [if_neg c]
    unfold Ib
    rw [e]
    omega
/-- what was told is within its bounds -/
def Vb (V : Vil) : Prop := (∀ h, h < nhV V → Ib (woV V h) 0 20) ∧ (∀ p q, p < npV V → q < 5 → Ib (tiV V (p * 5 + q)) (-10) 10) ∧ Ib (ruV V 2) 0 20 ∧ Ib (ruV V 3) 0 20 ∧ Ib (ruV V 4) 0 9
def Sb (V : Vil) (S : Scn) : Prop := ∀ h, h < nhV V → Ib (soS S h) 0 99 ∧ Ib (stS S h) 0 100
theorem Sb.of {V : Vil} {S T : Scn} (h : Sb V S) (e1 : soS T = soS S) (e2 : stS T = stS S) : Sb V T := fun k hk => by rw [e1, e2]; exact h k hk
theorem lvF_ss (W : Nat → Nat) (S : Scn) : ∀ n, soS (lvF W S n) = soS S ∧ stS (lvF W S n) = stS S := by
  intro n
  induction n with
  | zero => exact ⟨rfl, rfl⟩
  | succ n ih =>
    show soS (lvStep W (lvF W S n) n) = _ ∧ stS (lvStep W (lvF W S n) n) = _
    unfold lvStep
    split
    · split
      · exact ih
      · exact ih
    · exact ih
theorem cmF_ss (V : Vil) (L : Nat → Int32) (W : Nat → Nat) (S : Scn) : ∀ n, soS (cmF V L W S n) = soS S ∧ stS (cmF V L W S n) = stS S := by
  intro n
  induction n with
  | zero => exact lvF_ss W S _
  | succ n ih =>
    show soS (cmStep V L W S (cmF V L W S n) n) = _ ∧ stS (cmStep V L W S (cmF V L W S n) n) = _
    unfold cmStep
    split
    · exact ih
    · exact ih
theorem ltF_ss (V : Vil) (T : Scn) : ∀ n, soS (ltF V T n) = soS T ∧ stS (ltF V T n) = stS T := by
  intro n
  induction n with
  | zero => exact ⟨rfl, rfl⟩
  | succ n ih => exact ih
theorem alF_ss (T : Scn) : ∀ n, soS (alF T n) = soS T ∧ stS (alF T n) = stS T ∧ ltS (alF T n) = ltS T := by
  intro n
  induction n with
  | zero => exact ⟨rfl, rfl, rfl⟩
  | succ n ih => exact ih
theorem us_st {V : Vil} (hb : Vb V) {T : Scn} (hT : Sb V T) {h : Nat} (hh : h < nhV V) : Sb V (usStep V T h) := by
  obtain ⟨w1, w2, w3, w4, w5⟩ := hb
  intro k hk
  obtain ⟨k1, k2⟩ := hT k hk
  obtain ⟨g1, g2⟩ := hT h hh
  unfold usStep
  by_cases c : hav V T h = 5
  · rw [if_pos c]; exact ⟨k1, k2⟩
  · rw [if_neg c]
    show Ib (upd (soS T) h (soS T h - mnI (ruV V 4) (soS T h)) k) 0 99 ∧ Ib (upd (stS T) h (if hav V T h = owV V h then mnI (nI 100) (stS T h + ruV V 3) else mxI (nI 0) (stS T h - ruV V 2)) k) 0 100
    by_cases e : k = h
    · subst e
      rw [upd_self, upd_self]
      obtain ⟨m1, m2⟩ := Ib.mn w5 g1
      have s1 := g1.sub m1 (by decide) (by decide)
      have n1 : 0 ≤ (soS T k - mnI (ruV V 4) (soS T k)).toInt := by
        have a1 := g1.1
        have a2 := g1.2
        have a3 := m1.1
        rw [Int32.toInt_sub, Int.bmod_eq_of_le (by omega) (by omega)]
        omega
      refine ⟨⟨n1, by have := s1.2; omega⟩, ?_⟩
      split
      · have a := g2.add w4 (by decide) (by decide)
        exact (Ib.mn (Ib_n (b := 100) (by decide) (by decide)) a).1
      · have a := g2.sub w3 (by decide) (by decide)
        exact (Ib.mx a (by decide)).mono (by decide) (by decide)
    · rw [upd_ne _ _ e, upd_ne _ _ e]; exact ⟨k1, k2⟩
theorem us_F {V : Vil} (hb : Vb V) {T : Scn} (hT : Sb V T) : ∀ n, n ≤ nhV V → Sb V (usF V T n) := by
  intro n
  induction n with
  | zero => intro _; exact hT
  | succ n ih => intro hn; exact us_st hb (ih (by omega)) (by omega)
theorem gon_Sb {V : Vil} (hb : Vb V) {L : Nat → Int32} {W : Nat → Nat} {S : Scn} (hS : Sb V S) : Sb V (gon V L W S) := by
  have h1 : Sb V (cmF V L W S (npV V)) := hS.of (cmF_ss V L W S _).1 (cmF_ss V L W S _).2
  have h2 : Sb V (ltF V (cmF V L W S (npV V)) (npV V)) := h1.of (ltF_ss V _ _).1 (ltF_ss V _ _).2
  have h3 := us_F hb h2 (nhV V) (Nat.le_refl _)
  exact h3.of (alF_ss _ (npV V)).1 (alF_ss _ (npV V)).2.1
theorem hvF_wh {V : Vil} {S : Scn} {h : Nat} : ∀ n, n ≤ 5 → hvF V S h n = 5 ∨ whS S (hvF V S h n) = h := by
  intro n
  induction n with
  | zero => intro _; exact Or.inl rfl
  | succ n ih =>
    intro hn
    unfold hvF
    by_cases c : (cnt V S h n && (decide (hvF V S h n = 5) || ahd V S n (hvF V S h n))) = true
    · rw [if_pos c]
      have c1 := (Bool.and_eq_true_iff.mp c).1
      have c2 := (Bool.and_eq_true_iff.mp c1).1
      have c3 := (Bool.and_eq_true_iff.mp c2).1
      exact Or.inr (of_decide_eq_true c3)
    · rw [if_neg c]; exact ih (by omega)
/-- who has a house is in it -/
theorem hav_wh {V : Vil} (hV : Vok V) {S : Scn} {h : Nat} : hav V S h = 5 ∨ whS S (hav V S h) = h := by
  unfold hav
  by_cases c : hvF V S h (npV V) = 5 ∧ owV V h < 5 ∧ whS S (owV V h) = h
  · rw [if_pos c]; exact Or.inr c.2.2
  · rw [if_neg c]; exact hvF_wh (npV V) hV.2.1
theorem ts_b {V : Vil} (hb : Vb V) (T : Scn) {p : Nat} (hp : p < npV V) : ∀ n, n ≤ 5 → Ib (tsF V T p n) (-10 * n) (10 * n) := by
  intro n
  induction n with
  | zero => intro _; exact Ib_n (n := 0) (by decide) (by decide)
  | succ n ih =>
    intro hn
    have i1 := ih (by omega)
    unfold tsF
    split
    · exact (i1.add (hb.2.1 p n hp (by omega)) (by omega) (by omega)).mono (by omega) (by omega)
    · exact i1.mono (by omega) (by omega)
theorem ts_g {V : Vil} (hV : Vok V) (hb : Vb V) (T : Scn) {p : Nat} (hp : p < npV V) : Ib (tsG V T p) (-50) 50 := by
  have h5 := hV.2.1
  unfold tsG
  split
  · exact (Ib_n (n := 0) (b := 0) (by decide) (by decide)).mono (by decide) (by decide)
  · exact (ts_b hb T hp (npV V) h5).mono (by omega) (by omega)
theorem lt_b {V : Vil} (hV : Vok V) (hb : Vb V) (T : Scn) : ∀ n, n ≤ npV V → ∀ p, p < n → Ib (ltS (ltF V T n) p) (-50) 50 := by
  intro n
  induction n with
  | zero => intro _ p hp; exact absurd hp (Nat.not_lt_zero _)
  | succ n ih =>
    intro hn p hp
    show Ib (upd (ltS (ltF V T n)) n (tsG V (ltF V T n) n) p) _ _
    by_cases e : p = n
    · subst e; rw [upd_self]; exact ts_g hV hb _ (by omega)
    · rw [upd_ne _ _ e]; exact ih (by omega) p (by omega)
theorem us_g {V : Vil} (hV : Vok V) (hb : Vb V) {T : Scn} (hT : Sb V T) {p : Nat} (hl : Ib (ltS T p) (-50) 50) : ∀ n, n ≤ nhV V → (n ≤ whS T p → ltS (usF V T n) p = ltS T p) ∧ Ib (ltS (usF V T n) p) (-50) 79 := by
  intro n
  induction n with
  | zero => intro _; exact ⟨fun _ => rfl, hl.mono (by decide) (by decide)⟩
  | succ n ih =>
    intro hn
    obtain ⟨i1, i2⟩ := ih (by omega)
    obtain ⟨g1, g2⟩ := us_F hb hT n (by omega) n (by omega)
    have hw := hav_wh hV (S := usF V T n) (h := n)
    rw [usF_wh] at hw
    show (n + 1 ≤ whS T p → ltS (usStep V (usF V T n) n) p = _) ∧ Ib (ltS (usStep V (usF V T n) n) p) _ _
    unfold usStep
    generalize usF V T n = U at *
    by_cases c : hav V U n = 5
    · rw [if_pos c]; exact ⟨fun h => i1 (by omega), i2⟩
    · rw [if_neg c]
      have hw : whS T (hav V U n) = n := by
        rcases hw with z | z
        · exact absurd z c
        · exact z
      show (n + 1 ≤ whS T p → upd (ltS U) (hav V U n) (ltS U (hav V U n) + (woV V n * stS U n / nI 100 + mnI (ruV V 4) (soS U n))) p = _) ∧ Ib (upd (ltS U) (hav V U n) (ltS U (hav V U n) + (woV V n * stS U n / nI 100 + mnI (ruV V 4) (soS U n))) p) _ _
      by_cases e : p = hav V U n
      · rw [← e] at hw ⊢
        rw [upd_self, i1 (by omega)]
        have a1 := Ib.div100 (Ib.mul20 (hb.1 n (by omega)) g2)
        have a2 := (Ib.mn hb.2.2.2.2 g1).1
        have a3 := a1.add a2 (by decide) (by decide)
        exact ⟨fun h => absurd h (by omega), (hl.add a3 (by decide) (by decide)).mono (by decide) (by decide)⟩
      · rw [upd_ne _ _ e]; exact ⟨fun h => i1 (by omega), i2⟩
theorem gon_gb {V : Vil} (hV : Vok V) (hb : Vb V) {L : Nat → Int32} {W : Nat → Nat} {S : Scn} (hS : Sb V S) {p : Nat} (hp : p < npV V) : Ib (ltS (gon V L W S) p) (-128) 127 := by
  have h1 : Sb V (cmF V L W S (npV V)) := hS.of (cmF_ss V L W S _).1 (cmF_ss V L W S _).2
  have h2 : Sb V (ltF V (cmF V L W S (npV V)) (npV V)) := h1.of (ltF_ss V _ _).1 (ltF_ss V _ _).2
  have h3 := lt_b hV hb (cmF V L W S (npV V)) (npV V) (Nat.le_refl _) p hp
  have h4 := (us_g hV hb h2 h3 (nhV V) (Nat.le_refl _)).2
  show Ib (ltS (alF (usF V (ltF V (cmF V L W S (npV V)) (npV V)) (nhV V)) (npV V)) p) _ _
  rw [(alF_ss _ _).2.2]
  exact h4.mono (by decide) (by decide)
