/-! THE SAME RESTS -/
/-- class and reference over one village at one time -/
def Rv (V V0 : Vil) (o : Ovr) (L L' : Nat → Int32) (S S' : Scn) : Prop := Vok V ∧ Veq V (ovr V0 o) ∧ (∀ p, p < npV V → L p = L' p) ∧ Seq V S S'
theorem Rv.nh {V V0 : Vil} {o : Ovr} {L L' : Nat → Int32} {S S' : Scn} (h : Rv V V0 o L L' S S') : nhV V0 = nhV V := h.2.1.1.symm
theorem Rv.np {V V0 : Vil} {o : Ovr} {L L' : Nat → Int32} {S S' : Scn} (h : Rv V V0 o L L' S S') : npV V0 = npV V := h.2.1.2.1.symm
theorem Rv.wk {V V0 : Vil} {o : Ovr} {L L' : Nat → Int32} {S S' : Scn} (h : Rv V V0 o L L' S S') {p : Nat} (hp : p < npV V) : wkB V0 p (psS S') = wkB V p (psS S) := by
  rw [h.2.2.2.1]
  exact (wkB_eq h.2.1 hp).symm
theorem Rv.ws {V V0 : Vil} {o : Ovr} {L L' : Nat → Int32} {S S' : Scn} (h : Rv V V0 o L L' S S') {t : Nat} {ch : Nat → Nat} (hch : ∀ k, k < npV V → ch k < mst V t k) {p : Nat} (hp : p < npV V) : wsR V0 (xRe V t ch) p = plR (nhV V) (dRe V t p (ch p)) := by
  unfold wsR
  rw [dgR_N, h.nh, h.np, xRe_dg hch hp]
theorem plR_top (nh : Nat) : plR nh nh = 5 := if_pos rfl
theorem gw_eq {V V0 : Vil} {o : Ovr} {L L' : Nat → Int32} {S S' : Scn} (h : Rv V V0 o L L' S S') {ch : Nat → Nat} (hch : ∀ k, k < npV V → ch k < mst V (psS S) k) {p : Nat} (hp : p < npV V) : gwC V L S ch p = gwR V0 o L' S' (xRe V (psS S) ch) p := by
  unfold gwC gwR
  refine (gon_eq h.1 h.2.1 h.2.2.1 (fun j hj => ?_) h.2.2.2).2.2.2.1 p hp
  rw [h.wk hj]
  by_cases c : wkB V j (psS S) = true
  · rw [if_pos c, if_pos c]
  · rw [if_neg c, if_neg c, h.ws hch hj]
    have := hch j hj
    unfold mst at this
    rw [if_neg c] at this
    unfold dRe
    rw [if_neg c]
    exact (plR_plc this).symm
theorem xRe_up {V : Vil} {t : Nat} {ch : Nat → Nat} {p c : Nat} (hp : p < npV V) (hw : ¬ wkB V p t = true) : xRe V t (upN ch p c) = nvF (fun _ => nhV V + 1) (npV V) (upN (fun k => dRe V t k (ch k)) p c) := nvF_ext _ (npV V) (fun k hk => by
  show dRe V t k (upN ch p c k) = _
  by_cases e : k = p
  · subst e; rw [upN_self, upN_self]; exact if_neg hw
  · rw [upN_ne _ _ e, upN_ne _ _ e])
theorem re_iff {V V0 : Vil} {o : Ovr} {L L' : Nat → Int32} {S S' : Scn} {G : Nat → Int64} {G' : Nat → Int32} {mo K u ch : Nat → Nat} (h : Rv V V0 o L L' S S') (hmo : ∀ k, k < npV V → mo k = mst V (psS S) k) (hu : Wts mo K (npV V) u) (hG : ∀ ch', (∀ k, k < npV V → ch' k < mst V (psS S) k) → ∀ p, p < npV V → unG (G (nvF (mst V (psS S)) (npV V) ch')) p = gwC V L S ch' p) (hG' : ∀ x p, x < rwN V0 → p < npV V0 → G' (5 * x + p) = gwR V0 o L' S' x p) (hch : ∀ k, k < npV V → ch k < mst V (psS S) k) : rsB G ch mo K (nvF (mst V (psS S)) (npV V) ch) (npV V) = true ↔ irB V0 (psS S') G' (xRe V (psS S) ch) = true := by
  rw [rs_iff h.1.2.1 hmo h.1.1 hu hG hch, ir_iff, h.np]
  have hrw : rwN V0 = rwN V := by unfold rwN; rw [h.nh, h.np]
  have hxl : xRe V (psS S) ch < rwN V := xRe_lt hch
  refine forall_congr' (fun p => forall_congr' (fun hp => ?_))
  have hv := hch p hp
  rw [h.wk hp]
  by_cases c : wkB V p (psS S) = true
  · rw [if_pos c]
    unfold mst at hv ⊢
    rw [if_pos c] at hv ⊢
    constructor
    · intro _
      rw [h.ws hch hp]
      unfold dRe
      rw [if_pos c]
      exact plR_top _
    · intro _ c' hc' z
      rw [gwC_ext (ch := upN ch p c') (ch' := ch) (fun k hk => by
        by_cases e : k = p
        · subst e; rw [upN_self]; omega
        · exact upN_ne _ _ e)] at z
      rw [ltI] at z
      omega
  · rw [if_neg c, h.nh]
    have hm : mst V (psS S) p = nhV V + 1 := if_neg c
    rw [hm]
    have hd : dgR V0 (xRe V (psS S) ch) p = ch p := by
      rw [dgR_N, h.nh, h.np, xRe_dg hch hp]
      exact if_neg c
    have hwt : wtR V0 p = (nhV V + 1) ^ (npV V - (p + 1)) := by unfold wtR; rw [h.nh, h.np]
    refine forall_congr' (fun c' => forall_congr' (fun hc' => ?_))
    have hup : ∀ k, k < npV V → upN ch p c' k < mst V (psS S) k := fun k hk => by
      by_cases e : k = p
      · subst e; rw [upN_self, hm]; exact hc'
      · rw [upN_ne _ _ e]; exact hch k hk
    have e1 : xRe V (psS S) ch - dgR V0 (xRe V (psS S) ch) p * wtR V0 p + c' * wtR V0 p = xRe V (psS S) (upN ch p c') := by
      have h1 := nvF_set (nhV V + 1) c' p (npV V) (fun k => dRe V (psS S) k (ch k)) hp
      have h2 := dgR_mul V0 (xRe V (psS S) ch) p
      rw [← xRe_up hp c] at h1
      have h3 : dRe V (psS S) p (ch p) = ch p := if_neg c
      have h1 : xRe V (psS S) (upN ch p c') + dRe V (psS S) p (ch p) * (nhV V + 1) ^ (npV V - (p + 1)) = xRe V (psS S) ch + c' * (nhV V + 1) ^ (npV V - (p + 1)) := h1
      rw [h3, ← hwt] at h1
      rw [hd] at h2 ⊢
      omega
    rw [e1, hG' _ p (by rw [hrw]; exact hxl) (by rw [h.np]; exact hp), hG' _ p (by rw [hrw]; exact xRe_lt hup) (by rw [h.np]; exact hp), gw_eq h hch hp, gw_eq h hup hp]
theorem re_sur {V V0 : Vil} {o : Ovr} {L L' : Nat → Int32} {S S' : Scn} {G' : Nat → Int32} {x : Nat} (h : Rv V V0 o L L' S S') (hx : x < rwN V0) (hi : irB V0 (psS S') G' x = true) : ∃ ch, (∀ k, k < npV V → ch k < mst V (psS S) k) ∧ xRe V (psS S) ch = x := by
  rw [ir_iff, h.np] at hi
  refine xRe_sur h.1.1 (by unfold rwN at hx ⊢; rw [h.nh, h.np] at hx; exact hx) (fun p hp hw => ?_)
  have := hi p hp
  rw [h.wk hp, if_pos hw] at this
  unfold wsR at this
  rw [dgR_N, h.nh, h.np] at this
  exact this
theorem gap_F {α : Type} {F : Nat → α} {Q : Nat → Bool} (hF : ∀ x, ¬ Q x = true → F (x + 1) = F x) : ∀ n a, (∀ x, a ≤ x → x < a + n → ¬ Q x = true) → F (a + n) = F a := by
  intro n
  induction n with
  | zero => intro a _; rfl
  | succ n ih =>
    intro a h
    show F (a + n + 1) = _
    rw [hF (a + n) (h _ (by omega) (by omega))]
    exact ih a (fun x h1 h2 => h x h1 (by omega))
/-- a function that only changes at rows of the class, along the class's rows -/
theorem gap_rows {α : Type} {F : Nat → α} {Q : Nat → Bool} {n N : Nat} {mo : Nat → Nat} {X : (Nat → Nat) → Nat} (hF : ∀ x, ¬ Q x = true → F (x + 1) = F x) (hQ : ∀ x, x < N → Q x = true → ∃ ch, (∀ k, k < n → ch k < mo k) ∧ X ch = x) (hX : ∀ a b : Nat → Nat, (∀ k, k < n → a k < mo k) → (∀ k, k < n → b k < mo k) → (nvF mo n a < nvF mo n b ↔ X a < X b)) (hN : ∀ a : Nat → Nat, (∀ k, k < n → a k < mo k) → X a < N) {ch : Nat → Nat} (hch : ∀ k, k < n → ch k < mo k) : (nvF mo n ch = 0 → F (X ch) = F 0) ∧ (nvF mo n ch + 1 = ttF mo n → F N = F (X ch + 1)) ∧ ∀ ch', (∀ k, k < n → ch' k < mo k) → nvF mo n ch' = nvF mo n ch + 1 → F (X ch') = F (X ch + 1) := by
  have hl := hN ch hch
  refine ⟨fun h0 => ?_, fun h1 => ?_, fun ch' hch' h2 => ?_⟩
  · have := gap_F hF (X ch) 0 (fun x _ hx hq => by
      obtain ⟨c, hc, e⟩ := hQ x (by omega) hq
      have := (hX c ch hc hch).mpr (by omega)
      omega)
    rw [Nat.zero_add] at this
    exact this
  · have := gap_F hF (N - (X ch + 1)) (X ch + 1) (fun x h3 h4 hq => by
      obtain ⟨c, hc, e⟩ := hQ x (by omega) hq
      have := (hX ch c hch hc).mpr (by omega)
      have := nvF_lt mo n hc
      omega)
    rw [show X ch + 1 + (N - (X ch + 1)) = N by omega] at this
    exact this
  · have hlt := (hX ch ch' hch hch').mp (by omega)
    have hl' := hN ch' hch'
    have := gap_F hF (X ch' - (X ch + 1)) (X ch + 1) (fun x h3 h4 hq => by
      obtain ⟨c, hc, e⟩ := hQ x (by omega) hq
      have := (hX ch c hch hc).mpr (by omega)
      have := (hX c ch' hc hch').mpr (by omega)
      omega)
    rw [show X ch + 1 + (X ch' - (X ch + 1)) = X ch' by omega] at this
    exact this
theorem rsN_s (V0 : Vil) (t : Nat) (G : Nat → Int32) (x : Nat) : rsN V0 t G (x + 1) = if irB V0 t G x then rsN V0 t G x + 1 else rsN V0 t G x := rfl
theorem rsN_mono (V0 : Vil) (t : Nat) (G : Nat → Int32) : ∀ d a, rsN V0 t G a ≤ rsN V0 t G (a + d) := by
  intro d
  induction d with
  | zero => intro a; exact Nat.le_refl _
  | succ d ih =>
    intro a
    have := ih a
    show _ ≤ rsN V0 t G (a + d + 1)
    rw [rsN_s]
    split <;> omega
theorem rsN_str {V0 : Vil} {t : Nat} {G : Nat → Int32} {a b : Nat} (h : irB V0 t G a = true) (hab : a < b) : rsN V0 t G a < rsN V0 t G b := by
  have h1 := rsN_mono V0 t G (b - (a + 1)) (a + 1)
  rw [show a + 1 + (b - (a + 1)) = b by omega, rsN_s, if_pos h] at h1
  omega
theorem rsN_ex (V0 : Vil) (t : Nat) (G : Nat → Int32) (k : Nat) : ∀ n, k < rsN V0 t G n → ∃ y, y < n ∧ irB V0 t G y = true ∧ rsN V0 t G y = k := by
  intro n
  induction n with
  | zero => intro h; exact absurd (show k < 0 from h) (by omega)
  | succ n ih =>
    intro h
    rw [rsN_s] at h
    by_cases c : irB V0 t G n = true
    · rw [if_pos c] at h
      by_cases e : rsN V0 t G n = k
      · exact ⟨n, by omega, c, e⟩
      · obtain ⟨y, h1, h2⟩ := ih (by omega); exact ⟨y, by omega, h2⟩
    · rw [if_neg c] at h
      obtain ⟨y, h1, h2⟩ := ih h; exact ⟨y, by omega, h2⟩
theorem nI_canc {c : Nat} {k : Int32} : nI (c + 1) = k + nI 1 ↔ nI c = k := by
  rw [← nI_add]
  exact ⟨fun h => by have h2 := congrArg (fun z => z - nI 1) h; simp only [Int32.add_sub_cancel] at h2; exact h2, fun h => by rw [h]⟩
theorem rr_sp (V0 : Vil) (t : Nat) (G : Nat → Int32) (k : Int32) : ∀ n x, (∃ y, rrF V0 t G k n x (rsN V0 t G x) = some y ∧ x ≤ y ∧ y < x + n ∧ irB V0 t G y = true ∧ nI (rsN V0 t G y) = k) ∨ (rrF V0 t G k n x (rsN V0 t G x) = none ∧ ∀ y, x ≤ y → y < x + n → irB V0 t G y = true → ¬ nI (rsN V0 t G y) = k) := by
  intro n
  induction n with
  | zero => intro x; exact Or.inr ⟨rfl, fun y h1 h2 => absurd h2 (by omega)⟩
  | succ n ih =>
    intro x
    have hu : rrF V0 t G k (n + 1) x (rsN V0 t G x) = if irB V0 t G x then (if nI (rsN V0 t G x) = k then some x else rrF V0 t G k n (x + 1) (rsN V0 t G x + 1)) else rrF V0 t G k n (x + 1) (rsN V0 t G x) := rfl
    rw [hu]
    have ih := ih (x + 1)
    rw [rsN_s] at ih
    by_cases c : irB V0 t G x = true
    · rw [if_pos c] at ih ⊢
      by_cases e : nI (rsN V0 t G x) = k
      · rw [if_pos e]; exact Or.inl ⟨x, rfl, Nat.le_refl _, by omega, c, e⟩
      · rw [if_neg e]
        rcases ih with ⟨y, h1, h2, h3, h4⟩ | ⟨h1, h2⟩
        · exact Or.inl ⟨y, h1, by omega, by omega, h4⟩
        · refine Or.inr ⟨h1, fun y y1 y2 y3 => ?_⟩
          by_cases e2 : y = x
          · subst e2; exact e
          · exact h2 y (by omega) (by omega) y3
    · rw [if_neg c] at ih ⊢
      rcases ih with ⟨y, h1, h2, h3, h4⟩ | ⟨h1, h2⟩
      · exact Or.inl ⟨y, h1, by omega, by omega, h4⟩
      · refine Or.inr ⟨h1, fun y y1 y2 y3 => ?_⟩
        by_cases e2 : y = x
        · subst e2; exact absurd y3 c
        · exact h2 y (by omega) (by omega) y3
