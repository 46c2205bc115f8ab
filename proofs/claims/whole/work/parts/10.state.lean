/-! THE STATE, in words that class and reference share. A place is told by a code: a house's number, 5 for OUT (none). -/
theorem loopD {P : Nat → Prop} (n : Nat) (h : P n) (step : ∀ i, i < n → P (i + 1) → P i) : P 0 := by
  induction n with
  | zero => exact h
  | succ n ih => exact ih (step n (Nat.lt_succ_self n) h) (fun i hi => step i (Nat.lt_succ_of_lt hi))
/-- what a text told, as far as quarters ask: houses, people, last, rules, worth, owner, home, work, ties -/
abbrev Vil : Type := Nat × Nat × Bool × (Nat → Int32) × (Nat → Int32) × (Nat → Nat) × (Nat → Nat) × (Nat → Int32) × (Nat → Int32)
def nhV (V : Vil) : Nat := V.1
def npV (V : Vil) : Nat := V.2.1
def laV (V : Vil) : Bool := V.2.2.1
def ruV (V : Vil) : Nat → Int32 := V.2.2.2.1
def woV (V : Vil) : Nat → Int32 := V.2.2.2.2.1
def owV (V : Vil) : Nat → Nat := V.2.2.2.2.2.1
def hoV (V : Vil) : Nat → Nat := V.2.2.2.2.2.2.1
def wkV (V : Vil) : Nat → Int32 := V.2.2.2.2.2.2.2.1
def tiV (V : Vil) : Nat → Int32 := V.2.2.2.2.2.2.2.2
/-- what else a text told: clauses, rules told, ties told, names of houses, stores, states, names of people -/
abbrev Vix : Type := Int32 × Int32 × Int32 × (Nat → Int64) × (Nat → Int32) × (Nat → Int32) × (Nat → Int64)
/-- a scene: quarters passed, where, stayed, latest gain, all gain, store, state -/
abbrev Scn : Type := Nat × (Nat → Nat) × (Nat → Int32) × (Nat → Int32) × (Nat → Int32) × (Nat → Int32) × (Nat → Int32)
def psS (S : Scn) : Nat := S.1
def whS (S : Scn) : Nat → Nat := S.2.1
def sdS (S : Scn) : Nat → Int32 := S.2.2.1
def ltS (S : Scn) : Nat → Int32 := S.2.2.2.1
def alS (S : Scn) : Nat → Int32 := S.2.2.2.2.1
def soS (S : Scn) : Nat → Int32 := S.2.2.2.2.2.1
def stS (S : Scn) : Nat → Int32 := S.2.2.2.2.2.2
/-- numbers that can be -/
def Vok (V : Vil) : Prop := nhV V ≤ 5 ∧ npV V ≤ 5 ∧ (∀ h, h < nhV V → owV V h < npV V ∨ owV V h = 5) ∧ (∀ p, p < npV V → hoV V p < nhV V ∨ hoV V p = 5) ∧ (∀ h p, h < nhV V → p < npV V → (owV V h = p ↔ hoV V p = h))
def Sok (V : Vil) (S : Scn) : Prop := ∀ p, p < npV V → whS S p < nhV V ∨ whS S p = 5
-- cells of the class
def scC (E : EnvT) (ad : Nat → Nat) (b : Nat) (S : Scn) : List va_E := [.inr (3, [.int (nI (psS S)), .ref (ad (b + 1)), .ref (ad (b + 2)), .ref (ad (b + 3)), .ref (ad (b + 4)), .ref (ad (b + 5)), .ref (ad (b + 6))]), aI E 5 (fun k => cl (whS S k)), aI E 5 (sdS S), aI E 5 (ltS S), aI E 5 (alS S), aI E 5 (soS S), aI E 5 (stS S)]
def viC (E : EnvT) (ad : Nat → Nat) (b : Nat) (V : Vil) (X : Vix) : List va_E := [.inr (7, [.int X.1, .int (nI (nhV V)), .int (nI (npV V)), .int (bI (laV V)), .int X.2.1, .int X.2.2.1, .ref (ad (b + 1)), .ref (ad (b + 2)), .ref (ad (b + 3)), .ref (ad (b + 4)), .ref (ad (b + 5)), .ref (ad (b + 6)), .ref (ad (b + 7)), .ref (ad (b + 8)), .ref (ad (b + 9)), .ref (ad (b + 10))]), aI E 6 (ruV V), aJ E 5 X.2.2.2.1, aI E 5 X.2.2.2.2.1, aI E 5 (woV V), aI E 5 X.2.2.2.2.2.1, aI E 5 (fun k => cl (owV V k)), aJ E 5 X.2.2.2.2.2.2, aI E 5 (fun k => cl (hoV V k)), aI E 5 (wkV V), aI E 25 (tiV V)]
-- who has a house
/-- p is a guest in h -/
def gst (V : Vil) (S : Scn) (h p : Nat) : Bool := decide (whS S p = h) && !decide (owV V h = p)
/-- p counts in h -/
def cnt (V : Vil) (S : Scn) (h p : Nat) : Bool := gst V S h p && decide (sdS S p < ruV V 1)
/-- guests in h among the first so many -/
def guF (V : Vil) (S : Scn) (h : Nat) : Nat → Nat
  | 0 => 0
  | p + 1 => if gst V S h p then guF V S h p + 1 else guF V S h p
def gue (V : Vil) (S : Scn) (h : Nat) : Nat := guF V S h (npV V)
/-- p is ahead of f -/
def ahd (V : Vil) (S : Scn) (p f : Nat) : Bool := if laV V then !decide (sdS S f < sdS S p) else decide (sdS S f < sdS S p)
/-- of the first so many: who of the guests that count is ahead; 5: none -/
def hvF (V : Vil) (S : Scn) (h : Nat) : Nat → Nat
  | 0 => 5
  | p + 1 => if cnt V S h p && (decide (hvF V S h p = 5) || ahd V S p (hvF V S h p)) then p else hvF V S h p
def hav (V : Vil) (S : Scn) (h : Nat) : Nat := if hvF V S h (npV V) = 5 ∧ owV V h < 5 ∧ whS S (owV V h) = h then owV V h else hvF V S h (npV V)
theorem hvF_lt (V : Vil) (S : Scn) (h : Nat) : ∀ n, hvF V S h n < n ∨ hvF V S h n = 5 := by
  intro n
  induction n with
  | zero => exact Or.inr rfl
  | succ n ih =>
    unfold hvF
    split
    · exact Or.inl (Nat.lt_succ_self n)
    · rcases ih with h | h
      · exact Or.inl (by omega)
      · exact Or.inr h
theorem guF_le (V : Vil) (S : Scn) (h : Nat) : ∀ n, guF V S h n ≤ n := by
  intro n
  induction n with
  | zero => exact Nat.le_refl 0
  | succ n ih => unfold guF; split <;> omega
theorem hav_lt {V : Vil} (hV : Vok V) (S : Scn) {h : Nat} (hh : h < nhV V) : hav V S h < npV V ∨ hav V S h = 5 := by
  unfold hav
  split
  · have := hV.2.2.1 h hh; omega
  · exact hvF_lt V S h (npV V)
