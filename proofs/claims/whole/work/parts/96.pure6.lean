/-! WHAT IS TRIED: the class's trials and the reference's -/
def Rq (V V' : Vil) (P P' : Nat → Nat) (L L' : Nat → Int32) (S S' : Scn) : Prop := Vok V ∧ Veq V V' ∧ (∀ p q, p < npV V → q < 4 → P (p * 4 + q) = P' (p * 4 + q)) ∧ (∀ p, p < npV V → L p = L' p) ∧ Seq V S S'
theorem Rq.run {V V' : Vil} {P P' : Nat → Nat} {L L' : Nat → Int32} {S S' : Scn} (h : Rq V V' P P' L L' S S') (n : Nat) : Seq V (run V P L S n) (run V' P' L' S' n) := run_eq h.1 h.2.1 h.2.2.1 h.2.2.2.1 h.2.2.2.2 n
theorem sm_eq {T : Tst} {V0 : Vil} {o : Ovr} {P' : Nat → Nat} {L' : Nat → Int32} {S' : Scn} (h : Rq (vT T) (ovr V0 o) (pT T) P' (lT T) L' (oT T) S') {p : Nat} (hp : p < npV (vT T)) (W : Nat → Nat) (B : Nat → Int32) : smF T p = smR V0 o P' L' (S', W, B) p := by
  rw [sm_run, smR_run, (h.run 4).2.2.2.2.1 p hp, h.2.2.2.2.2.2.2.2.1 p hp]
theorem Rq.plan {V V' : Vil} {P P' : Nat → Nat} {L L' : Nat → Int32} {S S' : Scn} (h : Rq V V' P P' L L' S S') (p n x : Nat) : Rq V V' (upN P (p * 4 + n) x) (upN P' (p * 4 + n) x) L L' S S' := by
  refine ⟨h.1, h.2.1, fun p' q hp' hq => ?_, h.2.2.2.1, h.2.2.2.2⟩
  unfold upN
  split
  · rfl
  · exact h.2.2.1 p' q hp' hq
theorem Rq.lets {V V' : Vil} {P P' : Nat → Nat} {L L' : Nat → Int32} {S S' : Scn} (h : Rq V V' P P' L L' S S') (p : Nat) (x : Int32) : Rq V V' P P' (upd L p x) (upd L' p x) S S' := by
  refine ⟨h.1, h.2.1, h.2.2.1, fun p' hp' => ?_, h.2.2.2.2⟩
  by_cases e : p' = p
  · subst e; rw [upd_self, upd_self]
  · rw [upd_ne _ _ e, upd_ne _ _ e]; exact h.2.2.2.1 p' hp'
theorem bqF_same (T : Tst) (p : Nat) : ∀ n, vT (bqF T p n).1 = vT T ∧ pT (bqF T p n).1 = pT T ∧ lT (bqF T p n).1 = lT T ∧ oT (bqF T p n).1 = oT T := by
  intro n
  induction n with
  | zero => exact ⟨rfl, rfl, rfl, rfl⟩
  | succ n ih => exact ih
theorem when_eq {T : Tst} {V0 : Vil} {o : Ovr} {P' : Nat → Nat} {L' : Nat → Int32} {S' : Scn} (h : Rq (vT T) (ovr V0 o) (pT T) P' (lT T) L' (oT T) S') {p : Nat} (hp : p < npV (vT T)) (a : Nat) (W : Nat → Nat) (B f : Nat → Int32) : ∀ n, (bqF T p n).2.1 = (whF V0 o P' L' S' a p (-1000000, 0, W, B, f) n).1 ∧ (bqF T p n).2.2 = (whF V0 o P' L' S' a p (-1000000, 0, W, B, f) n).2.1 := by
  intro n
  induction n with
  | zero => exact ⟨rfl, rfl⟩
  | succ n ih =>
    obtain ⟨e1, e2, e3, e4⟩ := bqF_same T p n
    have hu : (bqF T p (n + 1)).2 = bet (bqF T p n).2.1 (bqF T p n).2.2 (smF (bqT (bqF T p n).1 p n) p) n := rfl
    have hw : whF V0 o P' L' S' a p (-1000000, 0, W, B, f) (n + 1) = amS V0 o (upN P' (p * 4 + n) 5) L' S' a p (whF V0 o P' L' S' a p (-1000000, 0, W, B, f) n) n := rfl
    have hr : Rq (vT (bqT (bqF T p n).1 p n)) (ovr V0 o) (pT (bqT (bqF T p n).1 p n)) (upN P' (p * 4 + n) 5) (lT (bqT (bqF T p n).1 p n)) L' (oT (bqT (bqF T p n).1 p n)) S' := by
      show Rq (vT (bqF T p n).1) (ovr V0 o) (upN (pT (bqF T p n).1) (p * 4 + n) 5) _ (lT (bqF T p n).1) L' (oT (bqF T p n).1) S'
      rw [e1, e2, e3, e4]
      exact h.plan p n 5
    rw [hu, hw]
    generalize whF V0 o P' L' S' a p (-1000000, 0, W, B, f) n = q at *
    have hs := sm_eq hr (p := p) (by show p < npV (vT (bqF T p n).1); rw [e1]; exact hp) q.2.2.1 q.2.2.2.1
    rw [hs, ih.1, ih.2]
    unfold bet amS
    by_cases hc : q.1 < smR V0 o (upN P' (p * 4 + n) 5) L' (S', q.2.2.1, q.2.2.2.1) p
    · rw [if_pos hc, if_pos hc, if_pos hc]; exact ⟨rfl, rfl⟩
    · rw [if_neg hc, if_neg hc, if_neg hc]; exact ⟨rfl, rfl⟩
theorem blF_same (T : Tst) (p : Nat) : ∀ n, vT (blF T p n).1 = vT T ∧ pT (blF T p n).1 = pT T ∧ (∀ k, ¬ k = p → lT (blF T p n).1 k = lT T k) ∧ oT (blF T p n).1 = oT T := by
  intro n
  induction n with
  | zero => exact ⟨rfl, rfl, fun _ _ => rfl, rfl⟩
  | succ n ih =>
    have hu : blF T p (n + 1) = if inB n p then blF T p n else (rqT (blT (blF T p n).1 p n) 4, bet (blF T p n).2.1 (blF T p n).2.2 (smF (blT (blF T p n).1 p n) p) n) := rfl
    rw [hu]
    by_cases hc : inB n p = true
    · rw [if_pos hc]; exact ih
    · rw [if_neg hc]
      refine ⟨ih.1, ih.2.1, fun k hk => ?_, ih.2.2.2⟩
      show upd (lT (blF T p n).1) p (nI n) k = _
      rw [upd_ne _ _ hk]
      exact ih.2.2.1 k hk
theorem inB_bt : ∀ m, m < 32 → ∀ p, p < 5 → inB m p = bt (nI m) p := by decide +kernel
theorem whom_eq {T : Tst} {V0 : Vil} {o : Ovr} {P' : Nat → Nat} {L' : Nat → Int32} {S' : Scn} (h : Rq (vT T) (ovr V0 o) (pT T) P' (lT T) L' (oT T) S') {p : Nat} (hp : p < npV (vT T)) (a : Nat) (W : Nat → Nat) (B f : Nat → Int32) : ∀ n, n ≤ 32 → (blF T p n).2.1 = (wmF V0 o P' L' S' a p (-1000000, 0, W, B, f) n).1 ∧ (blF T p n).2.2 = (wmF V0 o P' L' S' a p (-1000000, 0, W, B, f) n).2.1 := by
  intro n
  induction n with
  | zero => intro _; exact ⟨rfl, rfl⟩
  | succ n ih =>
    intro hn
    have ih := ih (by omega)
    obtain ⟨e1, e2, e3, e4⟩ := blF_same T p n
    have hp5 : p < 5 := by have := h.1.2.1; omega
    have hu : blF T p (n + 1) = if inB n p then blF T p n else (rqT (blT (blF T p n).1 p n) 4, bet (blF T p n).2.1 (blF T p n).2.2 (smF (blT (blF T p n).1 p n) p) n) := rfl
    have hw : wmF V0 o P' L' S' a p (-1000000, 0, W, B, f) (n + 1) = if bt (nI n) p then wmF V0 o P' L' S' a p (-1000000, 0, W, B, f) n else amS V0 o P' (upd L' p (nI n)) S' a p (wmF V0 o P' L' S' a p (-1000000, 0, W, B, f) n) n := rfl
    rw [hu, hw, inB_bt n (by omega) p hp5]
    by_cases hb : bt (nI n) p = true
    · rw [if_pos hb, if_pos hb]; exact ih
    · rw [if_neg hb, if_neg hb]
      have hr : Rq (vT (blT (blF T p n).1 p n)) (ovr V0 o) (pT (blT (blF T p n).1 p n)) P' (lT (blT (blF T p n).1 p n)) (upd L' p (nI n)) (oT (blT (blF T p n).1 p n)) S' := by
        show Rq (vT (blF T p n).1) (ovr V0 o) (pT (blF T p n).1) _ (upd (lT (blF T p n).1) p (nI n)) _ (oT (blF T p n).1) S'
        rw [e1, e2, e4]
        refine ⟨h.1, h.2.1, h.2.2.1, fun k hk => ?_, h.2.2.2.2⟩
        by_cases e : k = p
        · subst e; rw [upd_self, upd_self]
        · rw [upd_ne _ _ e, upd_ne _ _ e, e3 k e]; exact h.2.2.2.1 k hk
      generalize wmF V0 o P' L' S' a p (-1000000, 0, W, B, f) n = q at *
      have hs := sm_eq hr (p := p) (by show p < npV (vT (blF T p n).1); rw [e1]; exact hp) q.2.2.1 q.2.2.2.1
      show (bet (blF T p n).2.1 (blF T p n).2.2 (smF (blT (blF T p n).1 p n) p) n).1 = _ ∧ (bet (blF T p n).2.1 (blF T p n).2.2 (smF (blT (blF T p n).1 p n) p) n).2 = _
      rw [hs, ih.1, ih.2]
      unfold bet amS
      by_cases hc : q.1 < smR V0 o P' (upd L' p (nI n)) (S', q.2.2.1, q.2.2.2.1) p
      · rw [if_pos hc, if_pos hc, if_pos hc]; exact ⟨rfl, rfl⟩
      · rw [if_neg hc, if_neg hc, if_neg hc]; exact ⟨rfl, rfl⟩
/-! a village with a law of its own -/
theorem vRu_ok {V : Vil} {g : Nat → Int32} (h : Vok V) : Vok (vRu V g) := h
theorem Veq_ru {V V0 : Vil} {o o' : Ovr} {g : Nat → Int32} (h : Veq V (ovr V0 o)) (hg : ∀ k, k < 6 → g k = ruV (ovr V0 o') k) (hl : laV (ovr V0 o) = laV (ovr V0 o')) (hw : ∀ k, k < nhV V → woV (ovr V0 o) k = woV (ovr V0 o') k) : Veq (vRu V g) (ovr V0 o') := by
  obtain ⟨h1, h2, h3, h4, h5, h6, h7, h8, h9⟩ := h
  exact ⟨h1, h2, h3.trans hl, hg, fun k hk => (h5 k hk).trans (hw k hk), h6, h7, h8, h9⟩
theorem bcF_same (T : Tst) (p : Nat) : ∀ n, (∃ g, vT (bcF T p n).1 = vRu (vT T) g ∧ ∀ k, ¬ k = 0 → g k = ruV (vT T) k) ∧ pT (bcF T p n).1 = pT T ∧ lT (bcF T p n).1 = lT T ∧ oT (bcF T p n).1 = oT T := by
  intro n
  induction n with
  | zero => exact ⟨⟨ruV (vT T), rfl, fun _ _ => rfl⟩, rfl, rfl, rfl⟩
  | succ n ih =>
    obtain ⟨⟨g, e1, e2⟩, e3, e4, e5⟩ := ih
    refine ⟨⟨upd g 0 (nI (n + 1)), ?_, fun k hk => ?_⟩, e3, e4, e5⟩
    · show vRu (vT (bcF T p n).1) (upd (ruV (vT (bcF T p n).1)) 0 (nI (n + 1))) = _
      rw [e1]
      rfl
    · rw [upd_ne _ _ hk]; exact e2 k hk
theorem show_eq {T : Tst} {V0 : Vil} {w : Int32} {l : Bool} {P' : Nat → Nat} {L' : Nat → Int32} {S' : Scn} (h : Rq (vT T) (ovr V0 (-1, -1, w, -1, false, l)) (pT T) P' (lT T) L' (oT T) S') {p : Nat} (hp : p < npV (vT T)) (a : Nat) (W : Nat → Nat) (B f : Nat → Int32) : ∀ n, n ≤ 4 → (bcF T p n).2.1 = (shF V0 w l P' L' S' a p (-1000000, 1, W, B, f) n).1 ∧ (bcF T p n).2.2 = (shF V0 w l P' L' S' a p (-1000000, 1, W, B, f) n).2.1 := by
  intro n
  induction n with
  | zero => intro _; exact ⟨rfl, rfl⟩
  | succ n ih =>
    intro hn
    have ih := ih (by omega)
    obtain ⟨⟨g, e1, e2⟩, e3, e4, e5⟩ := bcF_same T p n
    have hu : (bcF T p (n + 1)).2 = bet (bcF T p n).2.1 (bcF T p n).2.2 (smF (bcT (bcF T p n).1 (n + 1)) p) (n + 1) := rfl
    have hw : shF V0 w l P' L' S' a p (-1000000, 1, W, B, f) (n + 1) = amS V0 (-1, nI (n + 1), w, -1, false, l) P' L' S' a p (shF V0 w l P' L' S' a p (-1000000, 1, W, B, f) n) (n + 1) := rfl
    have hr : Rq (vT (bcT (bcF T p n).1 (n + 1))) (ovr V0 (-1, nI (n + 1), w, -1, false, l)) (pT (bcT (bcF T p n).1 (n + 1))) P' (lT (bcT (bcF T p n).1 (n + 1))) L' (oT (bcT (bcF T p n).1 (n + 1))) S' := by
      show Rq (vRu (vT (bcF T p n).1) (upd (ruV (vT (bcF T p n).1)) 0 (nI (n + 1)))) _ (pT (bcF T p n).1) _ (lT (bcF T p n).1) _ (oT (bcF T p n).1) S'
      rw [e1, e3, e4, e5]
      refine ⟨vRu_ok (vRu_ok h.1), ?_, h.2.2.1, h.2.2.2.1, h.2.2.2.2⟩
      refine Veq_ru (V := vT T) h.2.1 (fun k hk => ?_) rfl (fun _ _ => rfl)
      show upd g 0 (nI (n + 1)) k = if k = 1 then (if (-1 : Int32) = -1 then ruV V0 1 else -1) else if k = 0 then (if nI (n + 1) = -1 then ruV V0 0 else nI (n + 1)) else ruV V0 k
      have hk1 := h.2.1.2.2.2.1 k hk
      have hk2 : ruV (ovr V0 (-1, -1, w, -1, false, l)) k = if k = 1 then (if (-1 : Int32) = -1 then ruV V0 1 else -1) else if k = 0 then (if (-1 : Int32) = -1 then ruV V0 0 else -1) else ruV V0 k := rfl
      rw [if_neg (nI_nm1 (by omega))]
      by_cases k0 : k = 0
      · subst k0; rw [upd_self, if_neg (by decide), if_pos rfl]
      · rw [upd_ne _ _ k0, e2 k k0, hk1, hk2, if_neg k0, if_neg k0]
    rw [hu, hw]
    generalize shF V0 w l P' L' S' a p (-1000000, 1, W, B, f) n = q at *
    have hs := sm_eq hr (p := p) (by show p < npV (vT (bcF T p n).1); rw [e1]; exact hp) q.2.2.1 q.2.2.2.1
    rw [hs, ih.1, ih.2]
    unfold bet amS
    by_cases hc : q.1 < smR V0 (-1, nI (n + 1), w, -1, false, l) P' L' (S', q.2.2.1, q.2.2.2.1) p
    · rw [if_pos hc, if_pos hc, if_pos hc]; exact ⟨rfl, rfl⟩
    · rw [if_neg hc, if_neg hc, if_neg hc]; exact ⟨rfl, rfl⟩
