/-! THE SAME RINGS -/
def Rg (V V0 : Vil) (o : Ovr) (P P' : Nat → Nat) (L L' : Nat → Int32) (S S' : Scn) : Prop := Rv V V0 o L L' S S' ∧ (∀ p q, p < npV V → q < 4 → P (p * 4 + q) = P' (p * 4 + q)) ∧ Pok V P
theorem Rg.ho {V V0 : Vil} {o : Ovr} {P P' : Nat → Nat} {L L' : Nat → Int32} {S S' : Scn} (h : Rg V V0 o P P' L L' S S') {p : Nat} (hp : p < npV V) : hoV V0 p = hoV V p := (h.1.2.1.2.2.2.2.2.2.1 p hp).symm
theorem Rg.ow {V V0 : Vil} {o : Ovr} {P P' : Nat → Nat} {L L' : Nat → Int32} {S S' : Scn} (h : Rg V V0 o P P' L L' S S') {k : Nat} (hk : k < nhV V) : owV V0 k = owV V k := (h.1.2.1.2.2.2.2.2.1 k hk).symm
theorem Rg.pl {V V0 : Vil} {o : Ovr} {P P' : Nat → Nat} {L L' : Nat → Int32} {S S' : Scn} (h : Rg V V0 o P P' L L' S S') {p : Nat} (hp : p < npV V) : (if wkB V0 p (psS S') then 5 else P' (p * 4 + psS S' % 4)) = (if wkB V p (psS S) then 5 else P (p * 4 + psS S % 4)) := by
  rw [h.1.wk hp, ← h.1.2.2.2.1, h.2.1 p _ hp (Nat.mod_lt _ (by decide))]
theorem Rg.wn {V V0 : Vil} {o : Ovr} {P P' : Nat → Nat} {L L' : Nat → Int32} {S S' : Scn} (h : Rg V V0 o P P' L L' S S') {ch : Nat → Nat} (hch : ∀ k, k < npV V → ch k < mrg V k) {p : Nat} (hp : p < npV V) : wsR V0 (xRg V P (psS S) ch) p = if hoV V p < 5 then ch p else (if wkB V p (psS S) then 5 else P (p * 4 + psS S % 4)) := by
  unfold wsR
  rw [dgR_N, h.1.nh, h.1.np, xRg_dg h.2.2 hch hp]
  have hv := hch p hp
  unfold mrg at hv
  unfold dRg
  by_cases c : hoV V p < 5
  · rw [if_pos c] at hv
    rw [if_pos c, if_pos c]
    unfold plR
    rw [if_neg (by omega)]
  · rw [if_neg c, if_neg c]
    exact (pdg_pl h.2.2 (psS S) hp).2
theorem ig_step {V V0 : Vil} {o : Ovr} {P P' : Nat → Nat} {L L' : Nat → Int32} {S S' : Scn} (h : Rg V V0 o P P' L L' S S') (hnw : nwB V (psS S) (npV V) = true) {ch : Nat → Nat} (hch : ∀ k, k < npV V → ch k < mrg V k) {p : Nat} (hp : p < npV V) (s : Int32 × Nat) : (igS V0 P' (psS S') (xRg V P (psS S) ch) p s).1 = (grS V ch p s.1).1 ∧ ((grS V ch p s.1).1 = true → (igS V0 P' (psS S') (xRg V P (psS S) ch) p s).2.1 = (grS V ch p s.1).2 ∧ (igS V0 P' (psS S') (xRg V P (psS S) ch) p s).2.2 = if hoV V p < 5 then s.2 + 1 else s.2) := by
  have hw := h.wn hch hp
  have hv := hch p hp
  unfold mrg at hv
  have hh5 := h.1.1.1
  unfold igS grS
  rw [h.ho hp, hw]
  by_cases c : hoV V p < 5
  · rw [if_pos c] at hv
    rw [if_pos c, if_pos c, if_pos c, if_pos c]
    have hwk : wkB V0 p (psS S') = false := by
      rw [h.1.wk hp]
      cases hx : wkB V p (psS S) with
      | true => exact absurd hx ((nwB_iff V (psS S) (npV V)).mp hnw p hp c)
      | false => rfl
    have h5 : decide (ch p = 5) = false := decide_eq_false (by omega)
    have hiff := h.1.1.2.2.2.2 (ch p) p hv hp
    have hbt : bt s.1 (ch p) = decide ((s.1 >>> (nI (ch p) &&& 31)) &&& nI 1 = nI 1) := rfl
    rw [hwk, h5, h.ow hv, hbt]
    by_cases c1 : owV V (ch p) < 5
    · by_cases c2 : owV V (ch p) = p
      · have c2' : ch p = hoV V p := (hiff.mp c2).symm
        rw [if_neg (show ¬ (owV V (ch p) < 5 ∧ ¬ owV V (ch p) = p ∧ ¬ (s.1 >>> (nI (ch p) &&& 31)) &&& nI 1 = nI 1) from fun z => z.2.1 c2), decide_eq_true c2', if_pos (by rw [Bool.or_true, Bool.true_or, Bool.true_or])]
        exact ⟨rfl, fun z => absurd z nft⟩
      · have c2' : ¬ ch p = hoV V p := fun e => c2 (hiff.mpr e.symm)
        rw [decide_eq_false c2', decide_eq_true c1]
        by_cases c3 : (s.1 >>> (nI (ch p) &&& 31)) &&& nI 1 = nI 1
        · rw [decide_eq_true c3, if_pos (by rw [Bool.or_true]), if_neg (fun z => z.2.2 c3)]
          exact ⟨rfl, fun z => absurd z nft⟩
        · rw [decide_eq_false c3, if_neg (by decide), if_pos ⟨c1, c2, c3⟩]
          exact ⟨rfl, fun _ => ⟨rfl, rfl⟩⟩
    · rw [decide_eq_false c1, if_pos (by rw [Bool.not_false, Bool.or_true, Bool.true_or]), if_neg (fun z => c1 z.1)]
      exact ⟨rfl, fun z => absurd z nft⟩
  · rw [if_neg c, if_neg c, if_neg c, if_neg c, h.pl hp, decide_eq_true rfl]
    exact ⟨rfl, fun _ => ⟨rfl, rfl⟩⟩
theorem ig_all {V V0 : Vil} {o : Ovr} {P P' : Nat → Nat} {L L' : Nat → Int32} {S S' : Scn} (h : Rg V V0 o P P' L L' S S') (hnw : nwB V (psS S) (npV V) = true) {ch : Nat → Nat} (hch : ∀ k, k < npV V → ch k < mrg V k) : ∀ n, n ≤ npV V → (itB (igS V0 P' (psS S') (xRg V P (psS S) ch)) (nI 0, 0) n).1 = (itB (grS V ch) (nI 0) n).1 ∧ ((itB (grS V ch) (nI 0) n).1 = true → (itB (igS V0 P' (psS S') (xRg V P (psS S) ch)) (nI 0, 0) n).2.1 = (itB (grS V ch) (nI 0) n).2 ∧ (itB (igS V0 P' (psS S') (xRg V P (psS S) ch)) (nI 0, 0) n).2.2 = ocF V n) := by
  intro n
  induction n with
  | zero => intro _; exact ⟨rfl, fun _ => ⟨rfl, rfl⟩⟩
  | succ n ih =>
    intro hn
    obtain ⟨i1, i2⟩ := ih (by omega)
    have hu : itB (igS V0 P' (psS S') (xRg V P (psS S) ch)) (nI 0, 0) (n + 1) = if (itB (igS V0 P' (psS S') (xRg V P (psS S) ch)) (nI 0, 0) n).1 then igS V0 P' (psS S') (xRg V P (psS S) ch) n (itB (igS V0 P' (psS S') (xRg V P (psS S) ch)) (nI 0, 0) n).2 else itB (igS V0 P' (psS S') (xRg V P (psS S) ch)) (nI 0, 0) n := rfl
    have hv : itB (grS V ch) (nI 0) (n + 1) = if (itB (grS V ch) (nI 0) n).1 then grS V ch n (itB (grS V ch) (nI 0) n).2 else itB (grS V ch) (nI 0) n := rfl
    rw [hu, hv]
    generalize itB (igS V0 P' (psS S') (xRg V P (psS S) ch)) (nI 0, 0) n = A at *
    generalize itB (grS V ch) (nI 0) n = B at *
    by_cases c : B.1 = true
    · have hs := ig_step h hnw hch (p := n) (by omega) A.2
      obtain ⟨j1, j2⟩ := i2 c
      rw [j1, j2] at hs
      rw [if_pos (i1.trans c), if_pos c]
      exact hs
    · rw [if_neg (by rw [i1]; exact c), if_neg c]
      exact ⟨i1, fun z => absurd z c⟩
theorem ig_eq {V V0 : Vil} {o : Ovr} {P P' : Nat → Nat} {L L' : Nat → Int32} {S S' : Scn} (h : Rg V V0 o P P' L L' S S') (hcr : crB V (psS S) = true) {ch : Nat → Nat} (hch : ∀ k, k < npV V → ch k < mrg V k) : igB V0 P' (psS S') (xRg V P (psS S) ch) = (itB (grS V ch) (nI 0) (npV V)).1 := by
  obtain ⟨h1, h2⟩ := Bool.and_eq_true_iff.mp hcr
  obtain ⟨a1, a2⟩ := ig_all h h1 hch (npV V) (Nat.le_refl _)
  unfold igB
  rw [h.1.np, a1]
  by_cases c : (itB (grS V ch) (nI 0) (npV V)).1 = true
  · rw [(a2 c).2, c, Bool.true_and]
    have := of_decide_eq_true h2
    exact decide_eq_true (by omega)
  · cases hx : (itB (grS V ch) (nI 0) (npV V)).1 with
    | true => exact absurd hx c
    | false => rw [Bool.false_and]
/-- a ring of the reference is a row of the class -/
theorem ig_sur {V V0 : Vil} {o : Ovr} {P P' : Nat → Nat} {L L' : Nat → Int32} {S S' : Scn} (h : Rg V V0 o P P' L L' S S') {x : Nat} (hx : x < rwN V0) (hi : igB V0 P' (psS S') x = true) : crB V (psS S) = true ∧ ∃ ch, (∀ k, k < npV V → ch k < mrg V k) ∧ xRg V P (psS S) ch = x := by
  unfold igB at hi
  obtain ⟨h1, h2⟩ := Bool.and_eq_true_iff.mp hi
  rw [h.1.np] at h1 h2
  have hst := itB_steps (npV V) h1
  have hh5 := h.1.1.1
  have hd : ∀ p, dgN (nhV V + 1) (npV V) x p < nhV V + 1 := fun p => Nat.mod_lt _ (by omega)
  have hws : ∀ p, wsR V0 x p = plR (nhV V) (dgN (nhV V + 1) (npV V) x p) := fun p => by unfold wsR; rw [dgR_N, h.1.nh, h.1.np]
  have ho : ∀ p, p < npV V → hoV V p < 5 → ¬ wkB V p (psS S) = true ∧ dgN (nhV V + 1) (npV V) x p < nhV V := fun p hp c => by
    have hs := (hst p hp).2
    generalize (itB (igS V0 P' (psS S') x) (nI 0, 0) p).2 = s1 at hs
    unfold igS at hs
    rw [h.ho hp, if_pos c, hws p, h.1.wk hp] at hs
    by_cases c2 : (wkB V p (psS S) || decide (plR (nhV V) (dgN (nhV V + 1) (npV V) x p) = 5) || decide (plR (nhV V) (dgN (nhV V + 1) (npV V) x p) = hoV V p) || !decide (owV V0 (plR (nhV V) (dgN (nhV V + 1) (npV V) x p)) < 5) || bt s1.1 (plR (nhV V) (dgN (nhV V + 1) (npV V) x p))) = true
    · rw [if_pos c2] at hs; exact absurd hs nft
    · refine ⟨fun z => c2 (by rw [z]; simp only [Bool.true_or]), ?_⟩
      have hne : ¬ plR (nhV V) (dgN (nhV V + 1) (npV V) x p) = 5 := fun z => c2 (by rw [decide_eq_true z]; simp only [Bool.true_or, Bool.or_true])
      have := hd p
      by_cases e : dgN (nhV V + 1) (npV V) x p = nhV V
      · exact absurd (by rw [e]; exact plR_top _) hne
      · omega
  have hn : ∀ p, p < npV V → ¬ hoV V p < 5 → dgN (nhV V + 1) (npV V) x p = pdg V P (psS S) p := fun p hp c => by
    have hs := (hst p hp).2
    generalize (itB (igS V0 P' (psS S') x) (nI 0, 0) p).2 = s1 at hs
    unfold igS at hs
    rw [h.ho hp, if_neg c, hws p, h.pl hp] at hs
    have hs := of_decide_eq_true hs
    have hq := h.2.2 p hp (psS S % 4) (Nat.mod_lt _ (by decide))
    have h3 := hd p
    unfold pdg
    by_cases e : (if wkB V p (psS S) then 5 else P (p * 4 + psS S % 4)) = 5
    · rw [if_pos e]; exact plR5 hh5 h3 (hs.trans e)
    · rw [if_neg e, ← hs]
      unfold plR
      by_cases e2 : dgN (nhV V + 1) (npV V) x p = nhV V
      · exfalso; apply e; rw [← hs, e2]; exact plR_top _
      · rw [if_neg e2]
  have hnw : nwB V (psS S) (npV V) = true := (nwB_iff V (psS S) (npV V)).mpr (fun p hp c => (ho p hp c).1)
  have hv : ∀ k, k < npV V → (fun k => if hoV V k < 5 then dgN (nhV V + 1) (npV V) x k else 0) k < mrg V k := fun k hk => by
    show (if hoV V k < 5 then dgN (nhV V + 1) (npV V) x k else 0) < _
    unfold mrg
    by_cases c : hoV V k < 5
    · rw [if_pos c, if_pos c]; exact (ho k hk c).2
    · rw [if_neg c, if_neg c]; omega
  have hX : xRg V P (psS S) (fun k => if hoV V k < 5 then dgN (nhV V + 1) (npV V) x k else 0) = x := by
    have e1 : xRg V P (psS S) (fun k => if hoV V k < 5 then dgN (nhV V + 1) (npV V) x k else 0) = nvF (fun _ => nhV V + 1) (npV V) (dgN (nhV V + 1) (npV V) x) := nvF_ext _ (npV V) (fun k hk => by
      show dRg V P (psS S) k (if hoV V k < 5 then _ else 0) = _
      unfold dRg
      by_cases c : hoV V k < 5
      · rw [if_pos c, if_pos c]
      · rw [if_neg c]; exact (hn k hk c).symm)
    rw [e1]
    refine nv_dgN _ (by omega) (npV V) x ?_
    unfold rwN at hx
    rw [h.1.nh, h.1.np] at hx
    exact hx
  refine ⟨?_, _, hv, hX⟩
  obtain ⟨a1, a2⟩ := ig_all h hnw hv (npV V) (Nat.le_refl _)
  rw [hX] at a1 a2
  unfold crB
  rw [hnw, Bool.true_and]
  have h2 := of_decide_eq_true h2
  rw [(a2 (a1.symm.trans h1)).2] at h2
  exact decide_eq_true (by omega)
theorem hr_iff {V V0 : Vil} {o : Ovr} {P P' : Nat → Nat} {L L' : Nat → Int32} {S S' : Scn} {G' : Nat → Int32} (h : Rg V V0 o P P' L L' S S') (hG' : ∀ x p, x < rwN V0 → p < npV V0 → G' (5 * x + p) = gwR V0 o L' S' x p) (hnw : nwB V (psS S) (npV V) = true) {ch : Nat → Nat} (hch : ∀ k, k < npV V → ch k < mrg V k) : hrB V0 G' (xRg V P (psS S) ch) = true ↔ hoC V P L S ch (npV V) := by
  have hh5 := h.1.1.1
  have hnw := (nwB_iff V (psS S) (npV V)).mp hnw
  have hrw : rwN V0 = rwN V := by unfold rwN; rw [h.1.nh, h.1.np]
  have hxl : xRg V P (psS S) ch < rwN V := xRg_lt h.2.2 hch
  have hwish : ∀ j, j < npV V → (if wkB V0 j (psS S') then 5 else wsR V0 (xRg V P (psS S) ch) j) = wgC V P (psS S) ch j := fun j hj => by
    rw [h.1.wk hj, h.wn hch hj]
    unfold wgC
    by_cases c : hoV V j < 5
    · rw [if_neg (hnw j hj c), if_pos c]
    · rw [if_neg c]
      by_cases cw : wkB V j (psS S) = true
      · rw [if_pos cw, if_pos cw]
      · rw [if_neg cw]
  unfold hrB
  rw [itB_all, h.1.np]
  unfold hoC
  refine forall_congr' (fun p => forall_congr' (fun hp => ?_))
  show (if hoV V0 p < 5 then irP V0 G' (xRg V P (psS S) ch) p else (true, ())).1 = true ↔ _
  rw [h.ho hp]
  by_cases c : hoV V p < 5
  · rw [if_pos c]
    have hcw := hnw p hp c
    have hcv := hch p hp
    unfold mrg at hcv
    rw [if_pos c] at hcv
    unfold irP
    rw [itB_all, h.1.nh]
    refine ⟨fun hh _ c' hc' => ?_, fun hh c' hc' => ?_⟩
    all_goals
      have hwt : wtR V0 p = (nhV V + 1) ^ (npV V - (p + 1)) := by unfold wtR; rw [h.1.nh, h.1.np]
      have hd : dgR V0 (xRg V P (psS S) ch) p = ch p := by
        rw [dgR_N, h.1.nh, h.1.np, xRg_dg h.2.2 hch hp]
        exact if_pos c
      have hdl : ∀ k, k < npV V → upN (fun k => dRg V P (psS S) k (ch k)) p c' k < nhV V + 1 := fun k hk => by
        by_cases e : k = p
        · subst e; rw [upN_self]; exact hc'
        · rw [upN_ne _ _ e]; exact dRg_lt h.2.2 hk (hch k hk)
      have e1 : xRg V P (psS S) ch - dgR V0 (xRg V P (psS S) ch) p * wtR V0 p + c' * wtR V0 p = nvF (fun _ => nhV V + 1) (npV V) (upN (fun k => dRg V P (psS S) k (ch k)) p c') := by
        have h1 := nvF_set (nhV V + 1) c' p (npV V) (fun k => dRg V P (psS S) k (ch k)) hp
        have h2 := dgR_mul V0 (xRg V P (psS S) ch) p
        have h3 : dRg V P (psS S) p (ch p) = ch p := if_pos c
        have h1 : nvF (fun _ => nhV V + 1) (npV V) (upN (fun k => dRg V P (psS S) k (ch k)) p c') + dRg V P (psS S) p (ch p) * (nhV V + 1) ^ (npV V - (p + 1)) = xRg V P (psS S) ch + c' * (nhV V + 1) ^ (npV V - (p + 1)) := h1
        rw [h3, ← hwt] at h1
        rw [hd] at h2 ⊢
        omega
      have hxl2 : nvF (fun _ => nhV V + 1) (npV V) (upN (fun k => dRg V P (psS S) k (ch k)) p c') < rwN V := nvF_pow _ _ (npV V) hdl
      have hwish2 : ∀ j, j < npV V → (if wkB V0 j (psS S') then 5 else wsR V0 (nvF (fun _ => nhV V + 1) (npV V) (upN (fun k => dRg V P (psS S) k (ch k)) p c')) j) = upN (wgC V P (psS S) ch) p (plc V c') j := fun j hj => by
        have hws : wsR V0 (nvF (fun _ => nhV V + 1) (npV V) (upN (fun k => dRg V P (psS S) k (ch k)) p c')) j = plR (nhV V) (upN (fun k => dRg V P (psS S) k (ch k)) p c' j) := by
          unfold wsR
          rw [dgR_N, h.1.nh, h.1.np, dgN_nv _ (by omega) (npV V) _ hdl j hj]
        rw [hws]
        by_cases e : j = p
        · subst e
          rw [upN_self, upN_self, h.1.wk hj, if_neg hcw]
          exact plR_plc hc'
        · rw [upN_ne _ _ e, upN_ne _ _ e, ← hwish j hj]
          unfold wsR
          rw [dgR_N, h.1.nh, h.1.np, xRg_dg h.2.2 hch hj]
      have g1 : G' (5 * xRg V P (psS S) ch + p) = ltS (gon V L (wgC V P (psS S) ch) S) p := by
        rw [hG' _ p (by rw [hrw]; exact hxl) (by rw [h.1.np]; exact hp)]
        unfold gwR
        exact ((gon_eq h.1.1 h.1.2.1 h.1.2.2.1 (fun j hj => (hwish j hj).symm) h.1.2.2.2).2.2.2.1 p hp).symm
      have g2 : G' (5 * (xRg V P (psS S) ch - dgR V0 (xRg V P (psS S) ch) p * wtR V0 p + c' * wtR V0 p) + p) = ltS (gon V L (upN (wgC V P (psS S) ch) p (plc V c')) S) p := by
        rw [e1, hG' _ p (by rw [hrw]; exact hxl2) (by rw [h.1.np]; exact hp)]
        unfold gwR
        exact ((gon_eq h.1.1 h.1.2.1 h.1.2.2.1 (fun j hj => (hwish2 j hj).symm) h.1.2.2.2).2.2.2.1 p hp).symm
    · have hz := hh c' hc'
      unfold irC at hz
      have hz := bnot_dec.mp hz
      rw [g1, g2] at hz
      exact hz
    · unfold irC
      refine bnot_dec.mpr ?_
      rw [g1, g2]
      exact hh c c' hc'
  · rw [if_neg c]
    exact ⟨fun _ z => absurd z c, fun _ => rfl⟩
