/-! A QUARTER, as numbers: leaving, coming, ties, houses, sums -/
def upN (f : Nat → Nat) (k x : Nat) : Nat → Nat := fun j => if j = k then x else f j
theorem cl_upN (f : Nat → Nat) (k x : Nat) : (fun j => cl (upN f k x j)) = upd (fun j => cl (f j)) k (cl x) := by
  funext j
  by_cases h : j = k <;> simp [upN, upd, h]
theorem upN_self (f : Nat → Nat) (k x : Nat) : upN f k x k = x := if_pos rfl
theorem upN_ne (f : Nat → Nat) {k j : Nat} (x : Nat) (h : ¬ j = k) : upN f k x j = f j := if_neg h
theorem upd_self (f : Nat → Int32) (k : Nat) (x : Int32) : upd f k x k = x := if_pos rfl
theorem upd_ne (f : Nat → Int32) {k j : Nat} (x : Int32) (h : ¬ j = k) : upd f k x j = f j := if_neg h
/-- one leaves, or stays on -/
def lvStep (W : Nat → Nat) (T : Scn) (p : Nat) : Scn :=
  if whS T p = W p then (if whS T p = 5 then T else (psS T, whS T, upd (sdS T) p (sdS T p + nI 1), ltS T, alS T, soS T, stS T)) else (psS T, upN (whS T) p 5, upd (sdS T) p (nI 0), ltS T, alS T, soS T, stS T)
def lvF (W : Nat → Nat) (S : Scn) : Nat → Scn
  | 0 => S
  | p + 1 => lvStep W (lvF W S p) p
/-- who left, as bits -/
def mkF (W : Nat → Nat) (S : Scn) : Nat → Int32
  | 0 => nI 0
  | p + 1 => if whS S p = W p then mkF W S p else mkF W S p ||| (nI 1 <<< (nI p &&& 31))
theorem lvF_wh (W : Nat → Nat) (S : Scn) : ∀ n p, whS (lvF W S n) p = if p < n then (if whS S p = W p then whS S p else 5) else whS S p := by
  intro n
  induction n with
  | zero => intro p; simp [lvF]
  | succ n ih =>
    intro p
    show whS (lvStep W (lvF W S n) n) p = _
    have hn := ih n
    rw [if_neg (Nat.lt_irrefl n)] at hn
    unfold lvStep
    rw [hn]
    by_cases h1 : whS S n = W n
    · rw [if_pos h1]
      have : whS (if whS S n = 5 then lvF W S n else (psS (lvF W S n), whS (lvF W S n), upd (sdS (lvF W S n)) n (sdS (lvF W S n) n + nI 1), ltS (lvF W S n), alS (lvF W S n), soS (lvF W S n), stS (lvF W S n))) = whS (lvF W S n) := by split <;> rfl
      rw [this, ih p]
      by_cases h2 : p = n
      · subst h2; simp [h1]
      · by_cases h3 : p < n
        · rw [if_pos h3, if_pos (show p < n + 1 by omega)]
        · rw [if_neg h3, if_neg (show ¬ p < n + 1 by omega)]
    · rw [if_neg h1]
      show upN (whS (lvF W S n)) n 5 p = _
      by_cases h2 : p = n
      · subst h2; rw [upN_self, if_pos (by omega), if_neg h1]
      · rw [upN_ne _ _ h2, ih p]
        by_cases h3 : p < n
        · rw [if_pos h3, if_pos (show p < n + 1 by omega)]
        · rw [if_neg h3, if_neg (show ¬ p < n + 1 by omega)]
/-- a bit of an int -/
def bt (x : Int32) (p : Nat) : Bool := decide ((x >>> (nI p &&& 31)) &&& nI 1 = nI 1)
def mkB (b : Nat → Bool) : Nat → Int32
  | 0 => nI 0
  | p + 1 => if b p then mkB b p else mkB b p ||| (nI 1 <<< (nI p &&& 31))
theorem mkB_bits : ∀ (n : Nat), n ≤ 5 → ∀ (b0 b1 b2 b3 b4 : Bool) (p : Nat), p < n → bt (mkB (fun k => [b0, b1, b2, b3, b4].getD k false) n) p = ![b0, b1, b2, b3, b4].getD p false := by
  intro n hn b0 b1 b2 b3 b4 p hp
  have h : n = 0 ∨ n = 1 ∨ n = 2 ∨ n = 3 ∨ n = 4 ∨ n = 5 := by omega
  have h2 : p = 0 ∨ p = 1 ∨ p = 2 ∨ p = 3 ∨ p = 4 := by omega
  rcases h with rfl | rfl | rfl | rfl | rfl | rfl <;> rcases h2 with rfl | rfl | rfl | rfl | rfl <;> first | omega | (revert b0 b1 b2 b3 b4; decide +kernel)
theorem mkF_bit (W : Nat → Nat) (S : Scn) {n p : Nat} (hn : n ≤ 5) (hp : p < n) : bt (mkF W S n) p = !decide (whS S p = W p) := by
  have key : ∀ m, m ≤ 5 → mkF W S m = mkB (fun k => [decide (whS S 0 = W 0), decide (whS S 1 = W 1), decide (whS S 2 = W 2), decide (whS S 3 = W 3), decide (whS S 4 = W 4)].getD k false) m := by
    intro m
    induction m with
    | zero => intro _; rfl
    | succ m ih =>
      intro hm
      show (if whS S m = W m then mkF W S m else _) = if _ then _ else _
      rw [ih (by omega)]
      rcases (show m = 0 ∨ m = 1 ∨ m = 2 ∨ m = 3 ∨ m = 4 by omega) with rfl | rfl | rfl | rfl | rfl <;> simp
  rw [key n hn, mkB_bits n hn _ _ _ _ _ p hp]
  rcases (show p = 0 ∨ p = 1 ∨ p = 2 ∨ p = 3 ∨ p = 4 by omega) with rfl | rfl | rfl | rfl | rfl <;> rfl
/-- may p come to h -/
def may (V : Vil) (T : Scn) (L : Nat → Int32) (p h : Nat) : Bool :=
  decide (h < nhV V) && (decide (owV V h = p) || (decide (nI (gue V T h) < ruV V 0) && (decide (hav V T h = 5) || bt (L (hav V T h)) p)))
def cmStep (V : Vil) (L : Nat → Int32) (W : Nat → Nat) (S : Scn) (T : Scn) (p : Nat) : Scn :=
  if (!decide (whS S p = W p)) && may V T L p (W p) then (psS T, upN (whS T) p (W p), sdS T, ltS T, alS T, soS T, stS T) else T
def cmF (V : Vil) (L : Nat → Int32) (W : Nat → Nat) (S : Scn) : Nat → Scn
  | 0 => lvF W S (npV V)
  | p + 1 => cmStep V L W S (cmF V L W S p) p
/-- p's ties to the first so many in his house -/
def tsF (V : Vil) (T : Scn) (p : Nat) : Nat → Int32
  | 0 => nI 0
  | q + 1 => if (!decide (q = p)) && decide (whS T q = whS T p) then tsF V T p q + tiV V (p * 5 + q) else tsF V T p q
def tsG (V : Vil) (T : Scn) (p : Nat) : Int32 := if whS T p = 5 then nI 0 else tsF V T p (npV V)
def ltF (V : Vil) (T : Scn) : Nat → Scn
  | 0 => T
  | p + 1 => (psS (ltF V T p), whS (ltF V T p), sdS (ltF V T p), upd (ltS (ltF V T p)) p (tsG V (ltF V T p) p), alS (ltF V T p), soS (ltF V T p), stS (ltF V T p))
def mnI (x y : Int32) : Int32 := if y < x then y else x
def mxI (x y : Int32) : Int32 := if x < y then y else x
/-- a house is used -/
def usStep (V : Vil) (T : Scn) (h : Nat) : Scn :=
  if hav V T h = 5 then T else
  (psS T, whS T, sdS T, upd (ltS T) (hav V T h) (ltS T (hav V T h) + (woV V h * stS T h / nI 100 + mnI (ruV V 4) (soS T h))), alS T, upd (soS T) h (soS T h - mnI (ruV V 4) (soS T h)),
    upd (stS T) h (if hav V T h = owV V h then mnI (nI 100) (stS T h + ruV V 3) else mxI (nI 0) (stS T h - ruV V 2)))
def usF (V : Vil) (T : Scn) : Nat → Scn
  | 0 => T
  | h + 1 => usStep V (usF V T h) h
def alF (T : Scn) : Nat → Scn
  | 0 => T
  | p + 1 => (psS (alF T p), whS (alF T p), sdS (alF T p), ltS (alF T p), upd (alS (alF T p)) p (alS (alF T p) p + ltS (alF T p) p), soS (alF T p), stS (alF T p))
/-- a quarter by these wishes -/
def gon (V : Vil) (L : Nat → Int32) (W : Nat → Nat) (S : Scn) : Scn :=
  let T := alF (usF V (ltF V (cmF V L W S (npV V)) (npV V)) (nhV V)) (npV V)
  (psS T + 1, whS T, sdS T, ltS T, alS T, soS T, stS T)
def Sle (V : Vil) (S : Scn) : Prop := ∀ p, p < npV V → whS S p ≤ 5
def Wle (V : Vil) (W : Nat → Nat) : Prop := ∀ p, p < npV V → W p ≤ 5
theorem lvF_le {V : Vil} {W : Nat → Nat} {S : Scn} (hS : Sle V S) (n : Nat) : Sle V (lvF W S n) := by
  intro p hp
  rw [lvF_wh]
  have := hS p hp
  split
  · split
    · exact this
    · exact Nat.le_refl 5
  · exact this
theorem cmF_le {V : Vil} {L : Nat → Int32} {W : Nat → Nat} {S : Scn} (hS : Sle V S) (hW : Wle V W) : ∀ n, Sle V (cmF V L W S n) := by
  intro n
  induction n with
  | zero => exact lvF_le hS _
  | succ n ih =>
    intro p hp
    show whS (cmStep V L W S (cmF V L W S n) n) p ≤ 5
    unfold cmStep
    split
    · show upN _ _ _ _ ≤ 5
      by_cases h : p = n
      · subst h; rw [upN_self]; exact hW p hp
      · rw [upN_ne _ _ h]; exact ih p hp
    · exact ih p hp
theorem ltF_wh (V : Vil) (T : Scn) : ∀ n, whS (ltF V T n) = whS T := by
  intro n
  induction n with
  | zero => rfl
  | succ n ih => exact ih
theorem usF_wh (V : Vil) (T : Scn) : ∀ n, whS (usF V T n) = whS T := by
  intro n
  induction n with
  | zero => rfl
  | succ n ih =>
    show whS (usStep V (usF V T n) n) = _
    unfold usStep
    split
    · exact ih
    · exact ih
theorem alF_wh (T : Scn) : ∀ n, whS (alF T n) = whS T := by
  intro n
  induction n with
  | zero => rfl
  | succ n ih => exact ih
theorem gon_wh (V : Vil) (L : Nat → Int32) (W : Nat → Nat) (S : Scn) : whS (gon V L W S) = whS (cmF V L W S (npV V)) := by
  show whS (alF _ _) = _
  rw [alF_wh, usF_wh, ltF_wh]
theorem gon_le {V : Vil} {L : Nat → Int32} {W : Nat → Nat} {S : Scn} (hS : Sle V S) (hW : Wle V W) : Sle V (gon V L W S) := by
  intro p hp
  rw [gon_wh]
  exact cmF_le hS hW _ p hp
