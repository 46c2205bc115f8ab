/-! Trial's state: village, rest of it, plans, lets, origin, scene, wishes, chosen, most, size, gains, strides, best sum, best row, rings, least ring, day -/
abbrev Tst : Type := (Vil) × (Vix) × (Nat → Nat) × (Nat → Int32) × (Scn) × (Scn) × (Nat → Nat) × (Nat → Nat) × (Nat → Nat) × (Nat) × (Nat → Int64) × (Nat → Nat) × (Int32) × (Int32) × (Int32) × (Int32) × (Nat → Scn)
def vT (T : Tst) : Vil := T.1
def xT (T : Tst) : Vix := T.2.1
def pT (T : Tst) : Nat → Nat := T.2.2.1
def lT (T : Tst) : Nat → Int32 := T.2.2.2.1
def oT (T : Tst) : Scn := T.2.2.2.2.1
def sT (T : Tst) : Scn := T.2.2.2.2.2.1
def wT (T : Tst) : Nat → Nat := T.2.2.2.2.2.2.1
def cT (T : Tst) : Nat → Nat := T.2.2.2.2.2.2.2.1
def mT (T : Tst) : Nat → Nat := T.2.2.2.2.2.2.2.2.1
def zT (T : Tst) : Nat := T.2.2.2.2.2.2.2.2.2.1
def gT (T : Tst) : Nat → Int64 := T.2.2.2.2.2.2.2.2.2.2.1
def kT (T : Tst) : Nat → Nat := T.2.2.2.2.2.2.2.2.2.2.2.1
def bsT (T : Tst) : Int32 := T.2.2.2.2.2.2.2.2.2.2.2.2.1
def brT (T : Tst) : Int32 := T.2.2.2.2.2.2.2.2.2.2.2.2.2.1
def rgT (T : Tst) : Int32 := T.2.2.2.2.2.2.2.2.2.2.2.2.2.2.1
def lrT (T : Tst) : Int32 := T.2.2.2.2.2.2.2.2.2.2.2.2.2.2.2.1
def dT (T : Tst) : Nat → Scn := T.2.2.2.2.2.2.2.2.2.2.2.2.2.2.2.2
def uV (T : Tst) (y : Vil) : Tst := (y, xT T, pT T, lT T, oT T, sT T, wT T, cT T, mT T, zT T, gT T, kT T, bsT T, brT T, rgT T, lrT T, dT T)
def uX (T : Tst) (y : Vix) : Tst := (vT T, y, pT T, lT T, oT T, sT T, wT T, cT T, mT T, zT T, gT T, kT T, bsT T, brT T, rgT T, lrT T, dT T)
def uP (T : Tst) (y : Nat → Nat) : Tst := (vT T, xT T, y, lT T, oT T, sT T, wT T, cT T, mT T, zT T, gT T, kT T, bsT T, brT T, rgT T, lrT T, dT T)
def uL (T : Tst) (y : Nat → Int32) : Tst := (vT T, xT T, pT T, y, oT T, sT T, wT T, cT T, mT T, zT T, gT T, kT T, bsT T, brT T, rgT T, lrT T, dT T)
def uO (T : Tst) (y : Scn) : Tst := (vT T, xT T, pT T, lT T, y, sT T, wT T, cT T, mT T, zT T, gT T, kT T, bsT T, brT T, rgT T, lrT T, dT T)
def uS (T : Tst) (y : Scn) : Tst := (vT T, xT T, pT T, lT T, oT T, y, wT T, cT T, mT T, zT T, gT T, kT T, bsT T, brT T, rgT T, lrT T, dT T)
def uW (T : Tst) (y : Nat → Nat) : Tst := (vT T, xT T, pT T, lT T, oT T, sT T, y, cT T, mT T, zT T, gT T, kT T, bsT T, brT T, rgT T, lrT T, dT T)
def uC (T : Tst) (y : Nat → Nat) : Tst := (vT T, xT T, pT T, lT T, oT T, sT T, wT T, y, mT T, zT T, gT T, kT T, bsT T, brT T, rgT T, lrT T, dT T)
def uM (T : Tst) (y : Nat → Nat) : Tst := (vT T, xT T, pT T, lT T, oT T, sT T, wT T, cT T, y, zT T, gT T, kT T, bsT T, brT T, rgT T, lrT T, dT T)
def uZ (T : Tst) (y : Nat) : Tst := (vT T, xT T, pT T, lT T, oT T, sT T, wT T, cT T, mT T, y, gT T, kT T, bsT T, brT T, rgT T, lrT T, dT T)
def uG (T : Tst) (y : Nat → Int64) : Tst := (vT T, xT T, pT T, lT T, oT T, sT T, wT T, cT T, mT T, zT T, y, kT T, bsT T, brT T, rgT T, lrT T, dT T)
def uK (T : Tst) (y : Nat → Nat) : Tst := (vT T, xT T, pT T, lT T, oT T, sT T, wT T, cT T, mT T, zT T, gT T, y, bsT T, brT T, rgT T, lrT T, dT T)
def uBs (T : Tst) (y : Int32) : Tst := (vT T, xT T, pT T, lT T, oT T, sT T, wT T, cT T, mT T, zT T, gT T, kT T, y, brT T, rgT T, lrT T, dT T)
def uBr (T : Tst) (y : Int32) : Tst := (vT T, xT T, pT T, lT T, oT T, sT T, wT T, cT T, mT T, zT T, gT T, kT T, bsT T, y, rgT T, lrT T, dT T)
def uRg (T : Tst) (y : Int32) : Tst := (vT T, xT T, pT T, lT T, oT T, sT T, wT T, cT T, mT T, zT T, gT T, kT T, bsT T, brT T, y, lrT T, dT T)
def uLr (T : Tst) (y : Int32) : Tst := (vT T, xT T, pT T, lT T, oT T, sT T, wT T, cT T, mT T, zT T, gT T, kT T, bsT T, brT T, rgT T, y, dT T)
def uD (T : Tst) (y : Nat → Scn) : Tst := (vT T, xT T, pT T, lT T, oT T, sT T, wT T, cT T, mT T, zT T, gT T, kT T, bsT T, brT T, rgT T, lrT T, y)
/-- the Trial's cells -/
def trX (E : EnvT) (ad : Nat → Nat) (b : Nat) (V : Vil) (X : Vix) (P : Nat → Nat) (L : Nat → Int32) (O S : Scn) (W ch mo : Nat → Nat) (z : Nat) (G : Nat → Int64) (K : Nat → Nat) (bs br rg lr : Int32) (D0 D1 D2 D3 D4 : Scn) : List va_E :=
  [.inr (6, [.ref (ad (b + 1)), .ref (ad (b + 12)), .ref (ad (b + 15)), .ref (ad (b + 22)), .ref (ad (b + 29)), .ref (ad (b + 30)), .ref (ad (b + 31)), .ref (ad (b + 34)), .ref (ad (b + 35)), .int bs, .int br, .int rg, .int lr])] ++ (viC E ad (b + 1) V X ++ (wyC E ad (b + 12) P L ++ (scC E ad (b + 15) O ++ (scC E ad (b + 22) S ++ ([aR E 5 5 (fun k => some (ad (b + 36 + 7 * k))), aI E 5 (fun k => cl (W k))] ++ (chC E ad (b + 31) ch mo z ++ ([aJ E 7776 G, aI E 5 (fun k => nI (K k))] ++ (scC E ad (b + 36) D0 ++ (scC E ad (b + 43) D1 ++ (scC E ad (b + 50) D2 ++ (scC E ad (b + 57) D3 ++ (scC E ad (b + 64) D4))))))))))))
def trC (E : EnvT) (ad : Nat → Nat) (b : Nat) (T : Tst) : List va_E := trX E ad b (vT T) (xT T) (pT T) (lT T) (oT T) (sT T) (wT T) (cT T) (mT T) (zT T) (gT T) (kT T) (bsT T) (brT T) (rgT T) (lrT T) (dT T 0) (dT T 1) (dT T 2) (dT T 3) (dT T 4)
/-- a day's scene set -/
def upS (f : Nat → Scn) (k : Nat) (x : Scn) : Nat → Scn := fun j => if j = k then x else f j
/-- a place by its choice -/
def plc (V : Vil) (c : Nat) : Nat := if c < nhV V then c else 5
theorem plc_le {V : Vil} (hV : Vok V) (c : Nat) : plc V c ≤ 5 := by
  have := hV.1
  unfold plc
  split <;> omega
theorem gon_ps (V : Vil) (L : Nat → Int32) (W : Nat → Nat) (S : Scn) : psS (gon V L W S) = psS S + 1 := by
  have h1 : ∀ T n, psS (alF T n) = psS T := by
    intro T n
    induction n with
    | zero => rfl
    | succ n ih => exact ih
  have h2 : ∀ T n, psS (usF V T n) = psS T := by
    intro T n
    induction n with
    | zero => rfl
    | succ n ih =>
      show psS (usStep V (usF V T n) n) = _
      unfold usStep
      split
      · exact ih
      · exact ih
  have h3 : ∀ T n, psS (ltF V T n) = psS T := by
    intro T n
    induction n with
    | zero => rfl
    | succ n ih => exact ih
  have h4 : ∀ n, psS (lvF W S n) = psS S := by
    intro n
    induction n with
    | zero => rfl
    | succ n ih =>
      show psS (lvStep W (lvF W S n) n) = _
      unfold lvStep
      split
      · split
        · exact ih
        · exact ih
      · exact ih
  have h5 : ∀ n, psS (cmF V L W S n) = psS S := by
    intro n
    induction n with
    | zero => exact h4 _
    | succ n ih =>
      show psS (cmStep V L W S (cmF V L W S n) n) = _
      unfold cmStep
      split
      · exact ih
      · exact ih
  show psS (alF _ _) + 1 = _
  rw [h1, h2, h3, h5]
/-- quarters of a trial: scene and wishes behind so many -/
def rqF (T : Tst) : Nat → Scn × (Nat → Nat)
  | 0 => (oT T, wT T)
  | i + 1 => (gon (vT T) (lT T) (fwF (vT T) (pT T) (psS (rqF T i).1) (rqF T i).2 (npV (vT T))) (rqF T i).1, fwF (vT T) (pT T) (psS (rqF T i).1) (rqF T i).2 (npV (vT T)))
theorem rqF_ps (T : Tst) : ∀ n, psS (rqF T n).1 = psS (oT T) + n := by
  intro n
  induction n with
  | zero => rfl
  | succ n ih => show psS (gon _ _ _ _) = _; rw [gon_ps, ih]; omega
/-- a trial's numbers can be -/
def Tok (T : Tst) : Prop := Vok (vT T) ∧ Ple (pT T) ∧ Sle (vT T) (oT T) ∧ psS (oT T) < 2 ^ 30
theorem rqF_le {T : Tst} (h : Tok T) : ∀ n, Sle (vT T) (rqF T n).1 := by
  intro n
  induction n with
  | zero => exact h.2.2.1
  | succ n ih => exact gon_le ih (fwF_le h.1 h.2.1)
/-- behind n quarters of a trial -/
def rqT (T : Tst) (n : Nat) : Tst := uS (uW T (rqF T n).2) (rqF T n).1
/-- a day's sum -/
def smF (T : Tst) (p : Nat) : Int32 := alS (rqF T 4).1 p - alS (oT T) p
