/-! WHAT COUNTS: a quarter looks at houses and people that there are, and no further -/
def Veq (V V' : Vil) : Prop := nhV V = nhV V' ∧ npV V = npV V' ∧ laV V = laV V' ∧ (∀ k, k < 6 → ruV V k = ruV V' k) ∧ (∀ h, h < nhV V → woV V h = woV V' h) ∧ (∀ h, h < nhV V → owV V h = owV V' h) ∧ (∀ p, p < npV V → hoV V p = hoV V' p) ∧ (∀ p, p < npV V → wkV V p = wkV V' p) ∧ (∀ p q, p < npV V → q < npV V → tiV V (p * 5 + q) = tiV V' (p * 5 + q))
def Seq (V : Vil) (S S' : Scn) : Prop := psS S = psS S' ∧ (∀ p, p < npV V → whS S p = whS S' p) ∧ (∀ p, p < npV V → sdS S p = sdS S' p) ∧ (∀ p, p < npV V → ltS S p = ltS S' p) ∧ (∀ p, p < npV V → alS S p = alS S' p) ∧ (∀ h, h < nhV V → soS S h = soS S' h) ∧ (∀ h, h < nhV V → stS S h = stS S' h)
theorem gst_eq {V V' : Vil} {S S' : Scn} (hV : Veq V V') (hS : Seq V S S') {h p : Nat} (hh : h < nhV V) (hp : p < npV V) : gst V S h p = gst V' S' h p := by
  unfold gst
  rw [hS.2.1 p hp, hV.2.2.2.2.2.1 h hh]
theorem cnt_eq {V V' : Vil} {S S' : Scn} (hV : Veq V V') (hS : Seq V S S') {h p : Nat} (hh : h < nhV V) (hp : p < npV V) : cnt V S h p = cnt V' S' h p := by
  unfold cnt
  rw [gst_eq hV hS hh hp, hS.2.2.1 p hp, hV.2.2.2.1 1 (by decide)]
theorem guF_eq {V V' : Vil} {S S' : Scn} (hV : Veq V V') (hS : Seq V S S') {h : Nat} (hh : h < nhV V) : ∀ n, n ≤ npV V → guF V S h n = guF V' S' h n := by
  intro n
  induction n with
  | zero => intro _; rfl
  | succ n ih =>
    intro hn
    unfold guF
    rw [gst_eq hV hS hh (show n < npV V by omega), ih (by omega)]
theorem gue_eq {V V' : Vil} {S S' : Scn} (hV : Veq V V') (hS : Seq V S S') {h : Nat} (hh : h < nhV V) : gue V S h = gue V' S' h := by
  unfold gue
  rw [← hV.2.1]
  exact guF_eq hV hS hh _ (Nat.le_refl _)
theorem ahd_eq {V V' : Vil} {S S' : Scn} (hV : Veq V V') (hS : Seq V S S') {p f : Nat} (hp : p < npV V) (hf : f < npV V) : ahd V S p f = ahd V' S' p f := by
  unfold ahd
  rw [hV.2.2.1, hS.2.2.1 p hp, hS.2.2.1 f hf]
theorem hvF_eq {V V' : Vil} {S S' : Scn} (hV : Veq V V') (hS : Seq V S S') {h : Nat} (hh : h < nhV V) (h5 : npV V ≤ 5) : ∀ n, n ≤ npV V → hvF V S h n = hvF V' S' h n := by
  intro n
  induction n with
  | zero => intro _; rfl
  | succ n ih =>
    intro hn
    have hl := hvF_lt V S h n
    have e := ih (by omega)
    unfold hvF
    rw [cnt_eq hV hS hh (show n < npV V by omega)]
    by_cases hc : hvF V S h n = 5
    · rw [← e, hc]
      simp
    · rw [ahd_eq hV hS (show n < npV V by omega) (show hvF V S h n < npV V by omega), e]
theorem hav_eq {V V' : Vil} {S S' : Scn} (hO : Vok V) (hV : Veq V V') (hS : Seq V S S') {h : Nat} (hh : h < nhV V) : hav V S h = hav V' S' h := by
  have h5 := hO.2.1
  have ho := hO.2.2.1 h hh
  have e := hvF_eq hV hS hh h5 (npV V) (Nat.le_refl _)
  have e2 := hV.2.2.2.2.2.1 h hh
  unfold hav
  rw [← hV.2.1, ← e, ← e2]
  by_cases hc : owV V h < 5
  · rw [hS.2.1 (owV V h) (by omega)]
  · rw [if_neg (fun z => hc z.2.1), if_neg (fun z => hc z.2.1)]
theorem may_eq {V V' : Vil} {S S' : Scn} {L L' : Nat → Int32} (hO : Vok V) (hV : Veq V V') (hS : Seq V S S') (hL : ∀ p, p < npV V → L p = L' p) {p h : Nat} : may V S L p h = may V' S' L' p h := by
  unfold may
  by_cases hh : h < nhV V
  · have hl := hav_lt hO S hh
    rw [← hV.1, gue_eq hV hS hh, ← hV.2.2.2.2.2.1 h hh, ← hV.2.2.2.1 0 (by decide), ← hav_eq hO hV hS hh]
    by_cases hc : hav V S h = 5
    · rw [hc]; simp
    · rw [hL (hav V S h) (by omega)]
  · rw [← hV.1, decide_eq_false hh, Bool.false_and, Bool.false_and]
theorem up_eq {n k x x' : Nat} {f f' : Nat → Nat} (h : ∀ p, p < n → f p = f' p) (hx : x = x') : ∀ p, p < n → upN f k x p = upN f' k x' p := by
  intro p hp
  by_cases e : p = k
  · rw [e, upN_self, upN_self, hx]
  · rw [upN_ne _ _ e, upN_ne _ _ e]; exact h p hp
theorem ud_eq {n k : Nat} {x x' : Int32} {f f' : Nat → Int32} (h : ∀ p, p < n → f p = f' p) (hx : x = x') : ∀ p, p < n → upd f k x p = upd f' k x' p := by
  intro p hp
  by_cases e : p = k
  · rw [e, upd_self, upd_self, hx]
  · rw [upd_ne _ _ e, upd_ne _ _ e]; exact h p hp
theorem lvF_eq {V : Vil} {W W' : Nat → Nat} {S S' : Scn} (hW : ∀ p, p < npV V → W p = W' p) (hS : Seq V S S') : ∀ n, n ≤ npV V → Seq V (lvF W S n) (lvF W' S' n) := by
  intro n
  induction n with
  | zero => intro _; exact hS
  | succ n ih =>
    intro hn
    have i := ih (by omega)
    show Seq V (lvStep W (lvF W S n) n) (lvStep W' (lvF W' S' n) n)
    generalize lvF W S n = A at *
    generalize lvF W' S' n = B at *
    obtain ⟨a1, a2, a3, a4, a5, a6, a7⟩ := i
    have e1 := a2 n (by omega)
    have e2 := a3 n (by omega)
    unfold lvStep
    rw [← e1, ← hW n (by omega)]
    by_cases c1 : whS A n = W n
    · rw [if_pos c1, if_pos c1]
      by_cases c2 : whS A n = 5
      · rw [if_pos c2, if_pos c2]; exact ⟨a1, a2, a3, a4, a5, a6, a7⟩
      · rw [if_neg c2, if_neg c2]; exact ⟨a1, a2, ud_eq a3 (by rw [e2]), a4, a5, a6, a7⟩
    · rw [if_neg c1, if_neg c1]; exact ⟨a1, up_eq a2 rfl, ud_eq a3 rfl, a4, a5, a6, a7⟩
theorem cmF_eq {V V' : Vil} {W W' : Nat → Nat} {L L' : Nat → Int32} {S S' : Scn} (hO : Vok V) (hV : Veq V V') (hL : ∀ p, p < npV V → L p = L' p) (hW : ∀ p, p < npV V → W p = W' p) (hS : Seq V S S') : ∀ n, n ≤ npV V → Seq V (cmF V L W S n) (cmF V' L' W' S' n) := by
  intro n
  induction n with
  | zero =>
    intro _
    show Seq V (lvF W S (npV V)) (lvF W' S' (npV V'))
    rw [← hV.2.1]
    exact lvF_eq hW hS _ (Nat.le_refl _)
  | succ n ih =>
    intro hn
    have i := ih (by omega)
    show Seq V (cmStep V L W S (cmF V L W S n) n) (cmStep V' L' W' S' (cmF V' L' W' S' n) n)
    generalize cmF V L W S n = A at *
    generalize cmF V' L' W' S' n = B at *
    unfold cmStep
    rw [← hS.2.1 n (by omega), ← hW n (by omega), may_eq hO hV i hL]
    obtain ⟨a1, a2, a3, a4, a5, a6, a7⟩ := i
    split
    · exact ⟨a1, up_eq a2 rfl, a3, a4, a5, a6, a7⟩
    · exact ⟨a1, a2, a3, a4, a5, a6, a7⟩
theorem tsF_eq {V V' : Vil} {S S' : Scn} (hV : Veq V V') (hS : Seq V S S') {p : Nat} (hp : p < npV V) : ∀ n, n ≤ npV V → tsF V S p n = tsF V' S' p n := by
  intro n
  induction n with
  | zero => intro _; rfl
  | succ n ih =>
    intro hn
    unfold tsF
    rw [← hS.2.1 n (by omega), ← hS.2.1 p hp, ← hV.2.2.2.2.2.2.2.2 p n hp (by omega), ih (by omega)]
theorem tsG_eq {V V' : Vil} {S S' : Scn} (hV : Veq V V') (hS : Seq V S S') {p : Nat} (hp : p < npV V) : tsG V S p = tsG V' S' p := by
  unfold tsG
  rw [← hS.2.1 p hp, tsF_eq hV hS hp _ (Nat.le_refl _), hV.2.1]
theorem ltF_eq {V V' : Vil} {S S' : Scn} (hV : Veq V V') (hS : Seq V S S') : ∀ n, n ≤ npV V → Seq V (ltF V S n) (ltF V' S' n) := by
  intro n
  induction n with
  | zero => intro _; exact hS
  | succ n ih =>
    intro hn
    have i := ih (by omega)
    have e := tsG_eq hV i (show n < npV V by omega)
    obtain ⟨a1, a2, a3, a4, a5, a6, a7⟩ := i
    exact ⟨a1, a2, a3, ud_eq a4 e, a5, a6, a7⟩
theorem usF_eq {V V' : Vil} {S S' : Scn} (hO : Vok V) (hV : Veq V V') (hS : Seq V S S') : ∀ n, n ≤ nhV V → Seq V (usF V S n) (usF V' S' n) := by
  intro n
  induction n with
  | zero => intro _; exact hS
  | succ n ih =>
    intro hn
    have i := ih (by omega)
    show Seq V (usStep V (usF V S n) n) (usStep V' (usF V' S' n) n)
    generalize usF V S n = A at *
    generalize usF V' S' n = B at *
    have hl := hav_lt hO A (show n < nhV V by omega)
    have e := hav_eq hO hV i (show n < nhV V by omega)
    obtain ⟨a1, a2, a3, a4, a5, a6, a7⟩ := i
    have e6 := a6 n (by omega)
    have e7 := a7 n (by omega)
    unfold usStep
    rw [← e]
    by_cases hc : hav V A n = 5
    · rw [if_pos hc, if_pos hc]; exact ⟨a1, a2, a3, a4, a5, a6, a7⟩
    · have e4 := a4 (hav V A n) (by omega)
      rw [if_neg hc, if_neg hc, ← hV.2.2.2.2.2.1 n (by omega), ← hV.2.2.2.2.1 n (by omega), ← hV.2.2.2.1 4 (by decide), ← hV.2.2.2.1 3 (by decide), ← hV.2.2.2.1 2 (by decide)]
      exact ⟨a1, a2, a3, ud_eq a4 (by rw [e4, e6, e7]), a5, ud_eq a6 (by rw [e6]), ud_eq a7 (by rw [e7])⟩
theorem alF_eq {V : Vil} {S S' : Scn} (hS : Seq V S S') : ∀ n, n ≤ npV V → Seq V (alF S n) (alF S' n) := by
  intro n
  induction n with
  | zero => intro _; exact hS
  | succ n ih =>
    intro hn
    obtain ⟨a1, a2, a3, a4, a5, a6, a7⟩ := ih (by omega)
    exact ⟨a1, a2, a3, a4, ud_eq a5 (by rw [a5 n (by omega), a4 n (by omega)]), a6, a7⟩
theorem gon_eq {V V' : Vil} {W W' : Nat → Nat} {L L' : Nat → Int32} {S S' : Scn} (hO : Vok V) (hV : Veq V V') (hL : ∀ p, p < npV V → L p = L' p) (hW : ∀ p, p < npV V → W p = W' p) (hS : Seq V S S') : Seq V (gon V L W S) (gon V' L' W' S') := by
  have h1 := cmF_eq hO hV hL hW hS (npV V) (Nat.le_refl _)
  have h2 := ltF_eq hV h1 (npV V) (Nat.le_refl _)
  have h3 := usF_eq hO hV h2 (nhV V) (Nat.le_refl _)
  have h4 := alF_eq h3 (npV V) (Nat.le_refl _)
  rw [hV.2.1, hV.1] at h4
  obtain ⟨a1, a2, a3, a4, a5, a6, a7⟩ := h4
  unfold gon
  rw [hV.2.1, hV.1]
  exact ⟨by show psS _ + 1 = psS _ + 1; rw [a1], a2, a3, a4, a5, a6, a7⟩
