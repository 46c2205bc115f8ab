/-! THE REFERENCE READS ON: what each clause keeps, and that it goes on -/
theorem tkE_ge (T : Nat → Nat) {len p : Nat} (h : p ≤ len) : p ≤ tkE T len p := Nat.le_trans (runF_le isBl T (len - p) p).1 (tkE_le T h).1
theorem tkE_gt {T : Nat → Nat} {len p : Nat} (h : tkK T len p = 3) : p < tkE T len p := by
  have h1 : p ≤ tkS T len p := (runF_le isBl T (len - p) p).1
  unfold tkK at h
  unfold tkE
  by_cases c : tkS T len p < len
  · rw [if_pos c] at h ⊢
    by_cases c2 : isSm (T (tkS T len p)) = true
    · rw [if_pos c2] at h; split at h <;> exact absurd h (by decide)
    · rw [if_neg c2] at h ⊢
      by_cases c3 : isDg (T (tkS T len p)) = true
      · rw [if_pos c3] at h; split at h <;> exact absurd h (by decide)
      · rw [if_neg c3]; omega
  · rw [if_neg c] at h; exact absurd h (by decide)
def Ri {len : Nat} (y : Rst len) : Prop := y.2.1 < 100000 ∧ nhV y.2.2.2.1 ≤ 5 ∧ npV y.2.2.2.1 ≤ 5
/-- from z on to y -/
def Ro {len : Nat} (z y : Rst len) : Prop := z.1.1 ≤ y.1.1 ∧ Ri y
theorem Ro.tr {len : Nat} {x y z : Rst len} (h : Ro x y) (g : Ro y z) : Ro x z := ⟨Nat.le_trans h.1 g.1, g.2⟩
theorem Ro.adv {len : Nat} {T : Nat → Nat} (hTa : ∀ k, T k < 256) {z : Rst len} (h : Ri z) : Ro z (advR T z) := ⟨tkE_ge T (Nat.le_of_lt_succ z.1.2), tkV_lt hTa h.1, h.2⟩
theorem Ro.nu {len : Nat} {T : Nat → Nat} (hTa : ∀ k, T k < 256) {z : Rst len} {lo hi : Int32} (h : Ri z) : Ro z (nuR T lo hi z) := by
  unfold nuR nuT
  by_cases c : rnB T len z.1.1 z.2.1 lo hi = true
  · rw [if_pos c]; exact ⟨tkE_ge T (Nat.le_of_lt_succ z.1.2), tkV_lt hTa h.1, h.2⟩
  · rw [if_neg c]
    by_cases c2 : tkK T len z.1.1 = 2
    · rw [if_pos c2]; exact ⟨Nat.le_refl _, h⟩
    · rw [if_neg c2]; exact ⟨Nat.le_refl _, h⟩
theorem Ro.wk {len : Nat} {T : Nat → Nat} (hTa : ∀ k, T k < 256) {y : Rst len} (h : Ri y) : Ro y (rWy T y).2 := by
  have h1 := Ro.adv hTa h
  have h2 := Ro.nu (lo := nI 1) (hi := nI 15) hTa h1.2
  unfold rWy
  split
  · split
    · split
      · split
        · exact h1.tr ⟨h2.1, h2.2⟩
        · exact h1.tr h2
      · exact ⟨Nat.le_refl _, h⟩
    · exact ⟨Nat.le_refl _, h⟩
  · exact ⟨Nat.le_refl _, h⟩
theorem Ro.sy {len : Nat} {T : Nat → Nat} (hTa : ∀ k, T k < 256) {c : Nat} {y : Rst len} (h : Ri y) : Ro y (rSy T c y).2 := by
  have h2 := Ro.nu (lo := ruL c) (hi := ruM c) hTa h
  unfold rSy
  split
  · exact ⟨Nat.le_refl _, h⟩
  · split
    · exact ⟨h2.1, h2.2⟩
    · exact h2
theorem Ro.sm {len : Nat} {T : Nat → Nat} (hTa : ∀ k, T k < 256) {z : Rst len} (h : Ri z) : Ro z (rSm T z).2 := by
  unfold rSm
  split
  · split
    · exact ⟨Nat.le_refl _, h⟩
    · have h1 : Ro (sTw z (rwM T len z.1.1)) (advR T (sTw z (rwM T len z.1.1))) := Ro.adv hTa (show Ri (sTw z (rwM T len z.1.1)) from h)
      exact Ro.tr (y := advR T (sTw z (rwM T len z.1.1))) ⟨h1.1, h1.2⟩ (Ro.sy hTa h1.2)
  · exact ⟨Nat.le_refl _, h⟩
theorem Ro.fh {len : Nat} {T : Nat → Nat} (hTa : ∀ k, T k < 256) {n : Nat} {z : Rst len} (h : Ri z) : Ro z (fhR T n z) := by
  unfold fhR fhT fsT
  split
  · split
    · exact ⟨tkE_ge T (Nat.le_of_lt_succ z.1.2), tkV_lt hTa h.1, h.2⟩
    · exact ⟨Nat.le_refl _, h⟩
  · exact ⟨Nat.le_refl _, h⟩
theorem Ro.fp {len : Nat} {T : Nat → Nat} (hTa : ∀ k, T k < 256) {n : Nat} {z : Rst len} (h : Ri z) : Ro z (fpR T n z) := by
  unfold fpR fpT fsT
  split
  · split
    · exact ⟨tkE_ge T (Nat.le_of_lt_succ z.1.2), tkV_lt hTa h.1, h.2⟩
    · exact ⟨Nat.le_refl _, h⟩
  · exact ⟨Nat.le_refl _, h⟩
theorem Ro.kp {len : Nat} {T : Nat → Nat} (hTa : ∀ k, T k < 256) {z : Rst len} (h : Ri z) : Ro z (kpR T z) := by
  unfold kpR kpT knT
  split
  · split
    · exact ⟨Nat.le_refl _, h⟩
    · exact ⟨tkE_ge T (Nat.le_of_lt_succ z.1.2), tkV_lt hTa h.1, h.2⟩
  · exact ⟨Nat.le_refl _, h⟩
/-- the houses while a house is read -/
def Rh {len : Nat} (z y : Rst len) : Prop := Ro z y ∧ nhV y.2.2.2.1 = nhV z.2.2.2.1
theorem nu_nh {len : Nat} {T : Nat → Nat} {z : Rst len} {lo hi : Int32} : nhV (nuR T lo hi z).2.2.2.1 = nhV z.2.2.2.1 ∧ npV (nuR T lo hi z).2.2.2.1 = npV z.2.2.2.1 := ⟨rfl, rfl⟩
theorem Ro.h3 {len : Nat} {T : Nat → Nat} (hTa : ∀ k, T k < 256) {h : Nat} {y : Rst len} (hy : Ri y) (h5 : nhV y.2.2.2.1 < 5) : Ro y (rH3 T h y).2 := by
  have h2 := Ro.nu (lo := nI 0) (hi := nI 100) hTa hy
  unfold rH3
  split
  · exact ⟨h2.1, h2.2.1, h5, h2.2.2.2⟩
  · exact h2
theorem Ro.h2 {len : Nat} {T : Nat → Nat} (hTa : ∀ k, T k < 256) {h : Nat} {y : Rst len} (hy : Ri y) (h5 : nhV y.2.2.2.1 < 5) : Ro y (rH2 T h y).2 := by
  have h2 := Ro.nu (lo := nI 0) (hi := nI 20) hTa hy
  unfold rH2
  split
  · exact Ro.tr (y := tWo (nuR T (nI 0) (nI 20) y) h) ⟨h2.1, h2.2⟩ (Ro.h3 hTa h2.2 h5)
  · exact h2
theorem Ro.h1 {len : Nat} {T : Nat → Nat} (hTa : ∀ k, T k < 256) {h : Nat} {y : Rst len} (hy : Ri y) (h5 : nhV y.2.2.2.1 < 5) : Ro y (rH1 T h y).2 := by
  have h2 := Ro.nu (lo := nI 0) (hi := nI 99) hTa hy
  unfold rH1
  split
  · exact Ro.tr (y := tSo (nuR T (nI 0) (nI 99) y) h) ⟨h2.1, h2.2⟩ (Ro.h2 hTa h2.2 h5)
  · exact h2
theorem Ro.h0 {len : Nat} {T : Nat → Nat} (hTa : ∀ k, T k < 256) {h : Nat} {y : Rst len} (hy : Ri y) (h5 : nhV y.2.2.2.1 < 5) : Ro y (rH0 T h y).2 := by
  have h2 := Ro.fh (n := h) hTa hy
  unfold rH0
  split
  · exact Ro.tr (y := fhR T h y) h2 (Ro.h1 hTa h2.2 h5)
  · exact h2
theorem Ro.hs {len : Nat} {T : Nat → Nat} (hTa : ∀ k, T k < 256) {z : Rst len} (hz : Ri z) : Ro z (rHs T z).2 := by
  have h1 := Ro.adv hTa hz
  unfold rHs
  split
  · exact ⟨Nat.le_refl _, hz⟩
  · rename_i c
    have h5 : nhV (advR T z).2.2.2.1 < 5 := by have := hz.2.1; show nhV z.2.2.2.1 < 5; omega
    exact h1.tr (Ro.h0 hTa h1.2 h5)
theorem Ro.t3 {len : Nat} {T : Nat → Nat} (hTa : ∀ k, T k < 256) {m : Nat} {y : Rst len} (hy : Ri y) : Ro y (rT3 T m y).2 := by
  have h2 := Ro.nu (lo := nI 0) (hi := nI 20) hTa hy
  unfold rT3
  split
  · exact ⟨h2.1, h2.2⟩
  · exact h2
theorem Ro.t2 {len : Nat} {T : Nat → Nat} (hTa : ∀ k, T k < 256) {c : Nat} {x : Rst len} (hx : Ri x) : Ro x (rT2 T c x).2 := by
  unfold rT2
  split
  · split
    · split
      · exact ⟨Nat.le_refl _, hx⟩
      · have h1 : Ro (sTt x (5 * c + rWc T x)) (advR T (sTt x (5 * c + rWc T x))) := Ro.adv hTa (show Ri (sTt x (5 * c + rWc T x)) from hx)
        exact Ro.tr (y := advR T (sTt x (5 * c + rWc T x))) ⟨h1.1, h1.2⟩ (Ro.t3 hTa h1.2)
    · exact ⟨Nat.le_refl _, hx⟩
  · exact ⟨Nat.le_refl _, hx⟩
theorem Ro.t1 {len : Nat} {T : Nat → Nat} (hTa : ∀ k, T k < 256) {y : Rst len} (hy : Ri y) : Ro y (rT1 T y).2 := by
  have h1 := Ro.kp hTa hy
  unfold rT1
  split
  · exact h1.tr (Ro.t2 hTa h1.2)
  · exact h1
theorem Ro.p2 {len : Nat} {T : Nat → Nat} (hTa : ∀ k, T k < 256) {n : Nat} {y : Rst len} (hy : Ri y) (h5 : npV y.2.2.2.1 < 5) : Ro y (rP2 T n y).2 := by
  unfold rP2
  split
  · split
    · split
      · exact ⟨Nat.le_refl _, hy⟩
      · have h1 : Ro (sOH y n (rHc T y)) (advR T (sOH y n (rHc T y))) := Ro.adv hTa (show Ri (sOH y n (rHc T y)) from hy)
        exact ⟨h1.1, h1.2.1, h1.2.2.1, h5⟩
    · exact ⟨Nat.le_refl _, hy⟩
  · exact ⟨Nat.le_refl _, hy⟩
theorem Ro.p1 {len : Nat} {T : Nat → Nat} (hTa : ∀ k, T k < 256) {n : Nat} {y : Rst len} (hy : Ri y) (h5 : npV y.2.2.2.1 < 5) : Ro y (rP1 T n y).2 := by
  have h1 := Ro.adv hTa hy
  unfold rP1
  split
  · exact h1.tr (Ro.p2 hTa h1.2 h5)
  · exact ⟨Nat.le_refl _, hy.1, hy.2.1, h5⟩
theorem Ro.p0 {len : Nat} {T : Nat → Nat} (hTa : ∀ k, T k < 256) {n : Nat} {y : Rst len} (hy : Ri y) (h5 : npV y.2.2.2.1 < 5) : Ro y (rP0 T n y).2 := by
  have h1 := Ro.fp (n := n) hTa hy
  unfold rP0
  split
  · exact Ro.tr (y := pR (fpR T n y) n 5) ⟨h1.1, h1.2⟩ (Ro.p1 hTa (show Ri (pR (fpR T n y) n 5) from h1.2) h5)
  · exact h1
theorem Ro.ps {len : Nat} {T : Nat → Nat} (hTa : ∀ k, T k < 256) {z : Rst len} (hz : Ri z) : Ro z (rPs T z).2 := by
  have h1 := Ro.adv hTa hz
  unfold rPs
  split
  · exact ⟨Nat.le_refl _, hz⟩
  · rename_i c
    have h5 : npV (advR T z).2.2.2.1 < 5 := by have := hz.2.2; show npV z.2.2.2.1 < 5; omega
    exact h1.tr (Ro.p0 hTa h1.2 h5)
/-- a clause up to its end -/
def rBd (T : Nat → Nat) {len : Nat} (z : Rst len) : Bool × Rst len := if wdP T len z.1.1 0 then rHs T z else if wdP T len z.1.1 1 then rPs T z else if wdP T len z.1.1 3 then rT1 T (advR T z) else if wdP T len z.1.1 4 then rWy T (advR T z) else rSm T z
theorem Ro.bd {len : Nat} {T : Nat → Nat} (hTa : ∀ k, T k < 256) {z : Rst len} (hz : Ri z) : Ro z (rBd T z).2 := by
  have h1 := Ro.adv hTa hz
  unfold rBd
  split
  · exact Ro.hs hTa hz
  · split
    · exact Ro.ps hTa hz
    · split
      · exact h1.tr (Ro.t1 hTa h1.2)
      · split
        · exact h1.tr (Ro.wk hTa h1.2)
        · exact Ro.sm hTa hz
def clR (T : Nat → Nat) {len : Nat} (z : Rst len) : Rst len := if tkK T len z.1.1 = 3 then advR T z else badR T z 1
def sRd {len : Nat} (z : Rst len) : Rst len := (z.1, z.2.1, z.2.2.1, z.2.2.2.1, (z.2.2.2.2.1.1 + nI 1, z.2.2.2.2.1.2), z.2.2.2.2.2)
/-- a clause -/
def rCl (T : Nat → Nat) {len : Nat} (z : Rst len) : Bool × Rst len := if (rBd T z).1 then (if tkK T len (rBd T z).2.1.1 = 3 then (true, sRd (advR T (rBd T z).2)) else (false, badR T (rBd T z).2 1)) else (false, (rBd T z).2)
theorem rCl_go {len : Nat} {T : Nat → Nat} (hTa : ∀ k, T k < 256) {z : Rst len} (hz : Ri z) (h : (rCl T z).1 = true) : z.1.1 < (rCl T z).2.1.1 ∧ Ri (rCl T z).2 := by
  have h0 := Ro.bd hTa hz
  have h1 := Ro.adv hTa h0.2
  unfold rCl at h ⊢
  by_cases c : (rBd T z).1 = true
  · rw [if_pos c] at h ⊢
    by_cases c2 : tkK T len (rBd T z).2.1.1 = 3
    · rw [if_pos c2] at h ⊢
      refine ⟨?_, h1.2⟩
      have hlt : (rBd T z).2.1.1 < tkE T len (rBd T z).2.1.1 := tkE_gt c2
      exact Nat.lt_of_le_of_lt h0.1 hlt
    · rw [if_neg c2] at h; exact absurd (show false = true from h) (by decide)
  · rw [if_neg c] at h; exact absurd (show false = true from h) (by decide)
/-- all clauses -/
def rVF (T : Nat → Nat) {len : Nat} : Nat → Rst len → Bool × Rst len
  | 0, z => (true, z)
  | n + 1, z => if tkK T len z.1.1 = 0 then (true, z) else if (rCl T z).1 then rVF T n (rCl T z).2 else rCl T z
