/-! PAIRS: the rest -/
theorem cn_eq {V V' : Vil} {S S' : Scn} (hV : Veq V V') (hS : Seq V S S') {h : Nat} (hh : h < nhV V) : ∀ n, n ≤ npV V → cnF V S h n = cnF V' S' h n := by
  intro n
  induction n with
  | zero => intro _; rfl
  | succ n ih =>
    intro hn
    have h1 := gst_eq hV hS hh (show n < npV V by omega)
    have h2 := cnt_eq hV hS hh (show n < npV V by omega)
    unfold cnF
    rw [ih (by omega)]
    simp only [h1, h2]
theorem ak_eq {V V' : Vil} {S S' : Scn} (hV : Veq V V') (hS : Seq V S S') {h f : Nat} (hh : h < nhV V) (hf : f < npV V) : ∀ n, n ≤ npV V → akF V S h f n = akF V' S' h f n := by
  intro n
  induction n with
  | zero => intro _; rfl
  | succ n ih =>
    intro hn
    have h1 := gst_eq hV hS hh (show n < npV V by omega)
    have h2 := cnt_eq hV hS hh (show n < npV V by omega)
    have h3 := hS.2.2.1 n (by omega)
    have h4 := hS.2.2.1 f hf
    unfold akF
    rw [ih (by omega)]
    simp only [h1, h2, h3, h4]
theorem wrd_eq {V V' : Vil} {S S' : Scn} (hO : Vok V) (hV : Veq V V') (hS : Seq V S S') {h : Nat} (hh : h < nhV V) : wrd V S h = wrd V' S' h := by
  have h1 := hav_eq hO hV hS hh
  have h2 := hV.2.2.2.2.2.1 h hh
  have h3 := cn_eq hV hS hh (npV V) (Nat.le_refl _)
  unfold wrd
  rw [← h1, ← h2, ← hV.2.1, ← h3]
  by_cases c : hav V S h = 5
  · rw [if_pos c, if_pos c]
  · rw [if_neg c, if_neg c]
    have hl : hav V S h < npV V := by
      rcases hav_lt hO S hh with z | z
      · exact z
      · exact absurd z c
    rw [ak_eq hV hS hh hl (npV V) (Nat.le_refl _)]
theorem pc_Sok {V : Vil} {P : Nat → Nat} {L : Nat → Int32} (hP : Pok V P) (q : Scn × Nat × (Nat → Nat)) (h : Sok V q.1) : ∀ n, Sok V (pcF V P L q n).1 := by
  intro n
  induction n with
  | zero => exact h
  | succ n ih => exact gon_ok ih (pqF_ok hP _ _ _)
theorem pc_Sb {V : Vil} {P : Nat → Nat} {L : Nat → Int32} (hb : Vb V) (q : Scn × Nat × (Nat → Nat)) (h : Sb V q.1) : ∀ n, Sb V (pcF V P L q n).1 := by
  intro n
  induction n with
  | zero => exact h
  | succ n ih => exact gon_Sb hb ih
theorem rp_val {nh len : Nat} {T : Nat → Nat} (hn : nh ≤ 5) (h : rpA nh len T = true) : ∀ k, k < 4 → rpP T k < nh ∨ rpP T k = 5 := by
  intro k hk
  have h1 := rp_ok 4 (Bool.and_eq_true_iff.mp h).2 k hk
  unfold rpP
  by_cases c : T k = 111
  · rw [if_pos c]; exact Or.inr rfl
  · rw [if_neg c]
    unfold rpB at h1
    rw [decide_eq_false c, Bool.false_or] at h1
    exact Or.inl (ix_lt hn h1)
theorem rpF_at (T : Nat → Nat) (p : Nat) (P : Nat → Nat) : ∀ n j, rpF T p P n j = if p * 4 ≤ j ∧ j < p * 4 + n then rpP T (j - p * 4) else P j := by
  intro n
  induction n with
  | zero => intro j; rw [if_neg (by omega)]; rfl
  | succ n ih =>
    intro j
    show upN (rpF T p P n) (p * 4 + n) (rpP T n) j = _
    by_cases e : j = p * 4 + n
    · subst e; rw [upN_self, if_pos (by omega), show p * 4 + n - p * 4 = n by omega]
    · rw [upN_ne _ _ e, ih j]
      by_cases c : p * 4 ≤ j ∧ j < p * 4 + n
      · rw [if_pos c, if_pos (by omega)]
      · rw [if_neg c, if_neg (by omega)]
theorem Rn.setP {B : Nat} {V : Vil} {S : Scn} {P : Nat → Nat} {L : Nat → Int32} {a : Nat} {S' : Scn} {P' : Nat → Nat} {L' : Nat → Int32} {a' : Nat} (h : Rn B V S P L a (S', P', L', a')) {Q Q' : Nat → Nat} (h1 : ∀ p q, p < npV V → q < 4 → Q (p * 4 + q) = Q' (p * 4 + q)) (h2 : Pok V Q) (h3 : Ple Q) : Rn B V S Q L a (S', Q', L', a') := by
  obtain ⟨a1, a2, a3, a4, a5, a6, a7, a8, a9⟩ := h
  exact ⟨a1, h1, a3, a4, a5, a6, h2, h3, a9⟩
theorem ks_at (g K : Nat → Int32) (s : Nat) : ∀ n j, ksF g K s n j = if 57 * s ≤ j ∧ j < 57 * s + n then g (j - 57 * s) else K j := by
  intro n
  induction n with
  | zero => intro j; rw [if_neg (by omega)]; rfl
  | succ n ih =>
    intro j
    show upd (ksF g K s n) (57 * s + n) (g n) j = _
    by_cases e : j = 57 * s + n
    · subst e; rw [upd_self, if_pos (by omega), show 57 * s + n - 57 * s = n by omega]
    · rw [upd_ne _ _ e, ih j]
      by_cases c : 57 * s ≤ j ∧ j < 57 * s + n
      · rw [if_pos c, if_pos (by omega)]
      · rw [if_neg c, if_neg (by omega)]
set_option maxHeartbeats 4000000 in
set_option maxRecDepth 100000 in
theorem pr_told (E : EnvT) (B : Nat) (x : Xst) (m : Mst) (y1 : Int32) (hR : RR B x m) (hB : B < 2 ^ 28) : Pr E B mX9_told mX10_told [.int y1] x m := by
  obtain ⟨sw, len, nx, kk, st, nu, nm, T, fk, pl, VA, XA, VB, XB, ⟨S0, P, L, a, kp, Wn⟩, Tt, b, Sl, W, F, hb, Q0, Q1, Q2⟩ := x
  obtain ⟨V', D', tp', T', k', f', fa', VR', XR', ⟨S', P', L', a'⟩, ⟨w, l, lg, ll, Wj, Bj, fj, bp, G⟩, K', kb', fn', hb', F', b'⟩ := m
  cases sw
  · have hR : R0 B VB XB len T fk pl (S0, P, L, a, kp, Wn) b W F hb Q0 Q1 Q2 V' D' tp' T' k' f' fa' (S', P', L', a') K' kb' hb' F' := hR
    obtain ⟨⟨ta, tb, tc, td, te⟩, ⟨hO, hV, hso, hst, hcl⟩, hN, ⟨s0, s1, s2⟩, ⟨fa1, fa2⟩, ⟨g1, g2, g3, g4⟩, ⟨l1, l2⟩⟩ := id hR
    subst tp' T' hb'
    have hO' : Vok V' := hO.eq' hV
    have hnp : npV V' = npV VB := hV.2.1.symm
    have hnh : nhV V' = nhV VB := hV.1.symm
    have hp5 : npV VB ≤ 5 := hO.2.1
    have hh5 : nhV VB ≤ 5 := hO.1
    have hSo : Sok VB S0 := hN.2.2.2.2.2.1
    have hPo : Pok VB P := hN.2.2.2.2.2.2.1
    have hPl : Ple P := hN.2.2.2.2.2.2.2.1
    have hps : psS S0 ≤ B := hN.2.2.2.2.2.2.2.2.1
    have hgb : ∀ W9 p, p < npV VB → Ib (ltS (gon VB L W9 S0) p) (-128) 127 := fun W9 p hp => gon_gb hO hN.2.2.2.2.2.2.2.2.2.1 hN.2.2.2.2.2.2.2.2.2.2 hp
    have hSo' : Sok V' S' := hN.Sok' hV
    have hPo' : Pok V' P' := hN.Pok' hV
    have hps' : psS S' ≤ B := hN.ps'
    have hq : Rq VB (ovr V' ((-1, -1, w, -1, false, l) : Ovr)) P P' L L' S0 S' := hN.Rq hO hV w l
    have hv : Rv VB V' ((-1, -1, w, -1, false, l) : Ovr) L L' S0 S' := ⟨hO, hq.2.1, hq.2.2.2.1, hq.2.2.2.2⟩
    refine ⟨(toC VB XB y1), (false, len, nx, kk, st, nu, nm, T, fk, pl, VA, XA, VB, XB, (S0, P, L, a, kp, Wn), Tt, b, Sl, W, F, hb, Q0, Q1, Q2), (V', D', len, T, k', f', fa', VR', XR', (S', P', L', a'), (w, l, lg, ll, Wj, Bj, fj, bp, G), K', kb', fn', hb, F', b'), (show R0 _ _ _ _ _ _ _ _ _ _ _ _ _ _ _ _ _ _ _ _ _ _ _ _ _ _ _ from hR.mono (by omega)), fun ad => ?_, fun ad => ?_⟩
    · exact lx_v0 E len nx kk st nu nm T fk pl VA XA VB XB (S0, P, L, a, kp, Wn) Tt b Sl W F hb Q0 Q1 Q2 (fun ad r => x_told E ad r (bI hb) VB XB y1 hO) ad
    · exact Md.ans (lm_d E V' D' len T k' f' fa' VR' XR' (S', P', L', a') (w, l, lg, ll, Wj, Bj, fj, bp, G) K' kb' fn' hb F' b' (fun ad r i => m_told E ad r i V' D'.1 D'.2.1 y1 hO') ad) (by
        exact (told_eq hO hV hso hst y1).symm)
  · have hR : R0 B VA XA len T fk pl (S0, P, L, a, kp, Wn) b W F hb Q0 Q1 Q2 V' D' tp' T' k' f' fa' (S', P', L', a') K' kb' hb' F' := hR
    obtain ⟨⟨ta, tb, tc, td, te⟩, ⟨hO, hV, hso, hst, hcl⟩, hN, ⟨s0, s1, s2⟩, ⟨fa1, fa2⟩, ⟨g1, g2, g3, g4⟩, ⟨l1, l2⟩⟩ := id hR
    subst tp' T' hb'
    have hO' : Vok V' := hO.eq' hV
    have hnp : npV V' = npV VA := hV.2.1.symm
    have hnh : nhV V' = nhV VA := hV.1.symm
    have hp5 : npV VA ≤ 5 := hO.2.1
    have hh5 : nhV VA ≤ 5 := hO.1
    have hSo : Sok VA S0 := hN.2.2.2.2.2.1
    have hPo : Pok VA P := hN.2.2.2.2.2.2.1
    have hPl : Ple P := hN.2.2.2.2.2.2.2.1
    have hps : psS S0 ≤ B := hN.2.2.2.2.2.2.2.2.1
    have hgb : ∀ W9 p, p < npV VA → Ib (ltS (gon VA L W9 S0) p) (-128) 127 := fun W9 p hp => gon_gb hO hN.2.2.2.2.2.2.2.2.2.1 hN.2.2.2.2.2.2.2.2.2.2 hp
    have hSo' : Sok V' S' := hN.Sok' hV
    have hPo' : Pok V' P' := hN.Pok' hV
    have hps' : psS S' ≤ B := hN.ps'
    have hq : Rq VA (ovr V' ((-1, -1, w, -1, false, l) : Ovr)) P P' L L' S0 S' := hN.Rq hO hV w l
    have hv : Rv VA V' ((-1, -1, w, -1, false, l) : Ovr) L L' S0 S' := ⟨hO, hq.2.1, hq.2.2.2.1, hq.2.2.2.2⟩
    refine ⟨(toC VA XA y1), (true, len, nx, kk, st, nu, nm, T, fk, pl, VA, XA, VB, XB, (S0, P, L, a, kp, Wn), Tt, b, Sl, W, F, hb, Q0, Q1, Q2), (V', D', len, T, k', f', fa', VR', XR', (S', P', L', a'), (w, l, lg, ll, Wj, Bj, fj, bp, G), K', kb', fn', hb, F', b'), (show R0 _ _ _ _ _ _ _ _ _ _ _ _ _ _ _ _ _ _ _ _ _ _ _ _ _ _ _ from hR.mono (by omega)), fun ad => ?_, fun ad => ?_⟩
    · exact lx_v1 E len nx kk st nu nm T fk pl VA XA VB XB (S0, P, L, a, kp, Wn) Tt b Sl W F hb Q0 Q1 Q2 (fun ad r => x_told E ad r (bI hb) VA XA y1 hO) ad
    · exact Md.ans (lm_d E V' D' len T k' f' fa' VR' XR' (S', P', L', a') (w, l, lg, ll, Wj, Bj, fj, bp, G) K' kb' fn' hb F' b' (fun ad r i => m_told E ad r i V' D'.1 D'.2.1 y1 hO') ad) (by
        exact (told_eq hO hV hso hst y1).symm)
set_option maxHeartbeats 4000000 in
set_option maxRecDepth 100000 in
theorem pr_tie (E : EnvT) (B : Nat) (x : Xst) (m : Mst) (y1 : Int32) (y2 : Int32) (hR : RR B x m) (hB : B < 2 ^ 28) : Pr E B mX9_tie mX10_tie [.int y1, .int y2] x m := by
  obtain ⟨sw, len, nx, kk, st, nu, nm, T, fk, pl, VA, XA, VB, XB, ⟨S0, P, L, a, kp, Wn⟩, Tt, b, Sl, W, F, hb, Q0, Q1, Q2⟩ := x
  obtain ⟨V', D', tp', T', k', f', fa', VR', XR', ⟨S', P', L', a'⟩, ⟨w, l, lg, ll, Wj, Bj, fj, bp, G⟩, K', kb', fn', hb', F', b'⟩ := m
  cases sw
  · have hR : R0 B VB XB len T fk pl (S0, P, L, a, kp, Wn) b W F hb Q0 Q1 Q2 V' D' tp' T' k' f' fa' (S', P', L', a') K' kb' hb' F' := hR
    obtain ⟨⟨ta, tb, tc, td, te⟩, ⟨hO, hV, hso, hst, hcl⟩, hN, ⟨s0, s1, s2⟩, ⟨fa1, fa2⟩, ⟨g1, g2, g3, g4⟩, ⟨l1, l2⟩⟩ := id hR
    subst tp' T' hb'
    have hO' : Vok V' := hO.eq' hV
    have hnp : npV V' = npV VB := hV.2.1.symm
    have hnh : nhV V' = nhV VB := hV.1.symm
    have hp5 : npV VB ≤ 5 := hO.2.1
    have hh5 : nhV VB ≤ 5 := hO.1
    have hSo : Sok VB S0 := hN.2.2.2.2.2.1
    have hPo : Pok VB P := hN.2.2.2.2.2.2.1
    have hPl : Ple P := hN.2.2.2.2.2.2.2.1
    have hps : psS S0 ≤ B := hN.2.2.2.2.2.2.2.2.1
    have hgb : ∀ W9 p, p < npV VB → Ib (ltS (gon VB L W9 S0) p) (-128) 127 := fun W9 p hp => gon_gb hO hN.2.2.2.2.2.2.2.2.2.1 hN.2.2.2.2.2.2.2.2.2.2 hp
    have hSo' : Sok V' S' := hN.Sok' hV
    have hPo' : Pok V' P' := hN.Pok' hV
    have hps' : psS S' ≤ B := hN.ps'
    have hq : Rq VB (ovr V' ((-1, -1, w, -1, false, l) : Ovr)) P P' L L' S0 S' := hN.Rq hO hV w l
    have hv : Rv VB V' ((-1, -1, w, -1, false, l) : Ovr) L L' S0 S' := ⟨hO, hq.2.1, hq.2.2.2.1, hq.2.2.2.2⟩
    refine ⟨(if (ixB y1 (npV VB) && ixB y2 (npV VB) && !decide (y1 = y2)) then tiV VB ((nN y1) * 5 + (nN y2)) else -1000), (false, len, nx, kk, st, nu, nm, T, fk, pl, VA, XA, VB, XB, (S0, P, L, a, kp, Wn), Tt, b, Sl, W, F, hb, Q0, Q1, Q2), (V', D', len, T, k', f', fa', VR', XR', (S', P', L', a'), (w, l, lg, ll, Wj, Bj, fj, bp, G), K', kb', fn', hb, F', b'), (show R0 _ _ _ _ _ _ _ _ _ _ _ _ _ _ _ _ _ _ _ _ _ _ _ _ _ _ _ from hR.mono (by omega)), fun ad => ?_, fun ad => ?_⟩
    · exact lx_v0 E len nx kk st nu nm T fk pl VA XA VB XB (S0, P, L, a, kp, Wn) Tt b Sl W F hb Q0 Q1 Q2 (fun ad r => x_tie E ad r (bI hb) VB XB y1 y2 hO) ad
    · exact Md.ans (lm_t E V' D' len T k' f' fa' VR' XR' (S', P', L', a') (w, l, lg, ll, Wj, Bj, fj, bp, G) K' kb' fn' hb F' b' (w, l, lg, ll, Wj, Bj, fj, bp, G) (S', P', L', a') (fun ad r i => m_tie E ad r i V' w l lg ll Wj Bj fj bp G S' P' L' a' y1 y2 hO' (Sok.le hO' hSo') hPo' (by omega)) ad) (by
        rw [hnp]
        by_cases c : (ixB y1 (npV VB) && ixB y2 (npV VB) && !decide (y1 = y2)) = true
        · rw [if_pos c, if_pos c]
          exact (hV.2.2.2.2.2.2.2.2 _ _ (ix_lt hp5 (Bool.and_eq_true_iff.mp (Bool.and_eq_true_iff.mp c).1).1) (ix_lt hp5 (Bool.and_eq_true_iff.mp (Bool.and_eq_true_iff.mp c).1).2)).symm
        · rw [if_neg c, if_neg c])
  · have hR : R0 B VA XA len T fk pl (S0, P, L, a, kp, Wn) b W F hb Q0 Q1 Q2 V' D' tp' T' k' f' fa' (S', P', L', a') K' kb' hb' F' := hR
    obtain ⟨⟨ta, tb, tc, td, te⟩, ⟨hO, hV, hso, hst, hcl⟩, hN, ⟨s0, s1, s2⟩, ⟨fa1, fa2⟩, ⟨g1, g2, g3, g4⟩, ⟨l1, l2⟩⟩ := id hR
    subst tp' T' hb'
    have hO' : Vok V' := hO.eq' hV
    have hnp : npV V' = npV VA := hV.2.1.symm
    have hnh : nhV V' = nhV VA := hV.1.symm
    have hp5 : npV VA ≤ 5 := hO.2.1
    have hh5 : nhV VA ≤ 5 := hO.1
    have hSo : Sok VA S0 := hN.2.2.2.2.2.1
    have hPo : Pok VA P := hN.2.2.2.2.2.2.1
    have hPl : Ple P := hN.2.2.2.2.2.2.2.1
    have hps : psS S0 ≤ B := hN.2.2.2.2.2.2.2.2.1
    have hgb : ∀ W9 p, p < npV VA → Ib (ltS (gon VA L W9 S0) p) (-128) 127 := fun W9 p hp => gon_gb hO hN.2.2.2.2.2.2.2.2.2.1 hN.2.2.2.2.2.2.2.2.2.2 hp
    have hSo' : Sok V' S' := hN.Sok' hV
    have hPo' : Pok V' P' := hN.Pok' hV
    have hps' : psS S' ≤ B := hN.ps'
    have hq : Rq VA (ovr V' ((-1, -1, w, -1, false, l) : Ovr)) P P' L L' S0 S' := hN.Rq hO hV w l
    have hv : Rv VA V' ((-1, -1, w, -1, false, l) : Ovr) L L' S0 S' := ⟨hO, hq.2.1, hq.2.2.2.1, hq.2.2.2.2⟩
    refine ⟨(if (ixB y1 (npV VA) && ixB y2 (npV VA) && !decide (y1 = y2)) then tiV VA ((nN y1) * 5 + (nN y2)) else -1000), (true, len, nx, kk, st, nu, nm, T, fk, pl, VA, XA, VB, XB, (S0, P, L, a, kp, Wn), Tt, b, Sl, W, F, hb, Q0, Q1, Q2), (V', D', len, T, k', f', fa', VR', XR', (S', P', L', a'), (w, l, lg, ll, Wj, Bj, fj, bp, G), K', kb', fn', hb, F', b'), (show R0 _ _ _ _ _ _ _ _ _ _ _ _ _ _ _ _ _ _ _ _ _ _ _ _ _ _ _ from hR.mono (by omega)), fun ad => ?_, fun ad => ?_⟩
    · exact lx_v1 E len nx kk st nu nm T fk pl VA XA VB XB (S0, P, L, a, kp, Wn) Tt b Sl W F hb Q0 Q1 Q2 (fun ad r => x_tie E ad r (bI hb) VA XA y1 y2 hO) ad
    · exact Md.ans (lm_t E V' D' len T k' f' fa' VR' XR' (S', P', L', a') (w, l, lg, ll, Wj, Bj, fj, bp, G) K' kb' fn' hb F' b' (w, l, lg, ll, Wj, Bj, fj, bp, G) (S', P', L', a') (fun ad r i => m_tie E ad r i V' w l lg ll Wj Bj fj bp G S' P' L' a' y1 y2 hO' (Sok.le hO' hSo') hPo' (by omega)) ad) (by
        rw [hnp]
        by_cases c : (ixB y1 (npV VA) && ixB y2 (npV VA) && !decide (y1 = y2)) = true
        · rw [if_pos c, if_pos c]
          exact (hV.2.2.2.2.2.2.2.2 _ _ (ix_lt hp5 (Bool.and_eq_true_iff.mp (Bool.and_eq_true_iff.mp c).1).1) (ix_lt hp5 (Bool.and_eq_true_iff.mp (Bool.and_eq_true_iff.mp c).1).2)).symm
        · rw [if_neg c, if_neg c])
set_option maxHeartbeats 4000000 in
set_option maxRecDepth 100000 in
theorem pr_planned (E : EnvT) (B : Nat) (x : Xst) (m : Mst) (y1 : Int32) (y2 : Int32) (hR : RR B x m) (hB : B < 2 ^ 28) : Pr E B mX9_planned mX10_planned [.int y1, .int y2] x m := by
  obtain ⟨sw, len, nx, kk, st, nu, nm, T, fk, pl, VA, XA, VB, XB, ⟨S0, P, L, a, kp, Wn⟩, Tt, b, Sl, W, F, hb, Q0, Q1, Q2⟩ := x
  obtain ⟨V', D', tp', T', k', f', fa', VR', XR', ⟨S', P', L', a'⟩, ⟨w, l, lg, ll, Wj, Bj, fj, bp, G⟩, K', kb', fn', hb', F', b'⟩ := m
  cases sw
  · have hR : R0 B VB XB len T fk pl (S0, P, L, a, kp, Wn) b W F hb Q0 Q1 Q2 V' D' tp' T' k' f' fa' (S', P', L', a') K' kb' hb' F' := hR
    obtain ⟨⟨ta, tb, tc, td, te⟩, ⟨hO, hV, hso, hst, hcl⟩, hN, ⟨s0, s1, s2⟩, ⟨fa1, fa2⟩, ⟨g1, g2, g3, g4⟩, ⟨l1, l2⟩⟩ := id hR
    subst tp' T' hb'
    have hO' : Vok V' := hO.eq' hV
    have hnp : npV V' = npV VB := hV.2.1.symm
    have hnh : nhV V' = nhV VB := hV.1.symm
    have hp5 : npV VB ≤ 5 := hO.2.1
    have hh5 : nhV VB ≤ 5 := hO.1
    have hSo : Sok VB S0 := hN.2.2.2.2.2.1
    have hPo : Pok VB P := hN.2.2.2.2.2.2.1
    have hPl : Ple P := hN.2.2.2.2.2.2.2.1
    have hps : psS S0 ≤ B := hN.2.2.2.2.2.2.2.2.1
    have hgb : ∀ W9 p, p < npV VB → Ib (ltS (gon VB L W9 S0) p) (-128) 127 := fun W9 p hp => gon_gb hO hN.2.2.2.2.2.2.2.2.2.1 hN.2.2.2.2.2.2.2.2.2.2 hp
    have hSo' : Sok V' S' := hN.Sok' hV
    have hPo' : Pok V' P' := hN.Pok' hV
    have hps' : psS S' ≤ B := hN.ps'
    have hq : Rq VB (ovr V' ((-1, -1, w, -1, false, l) : Ovr)) P P' L L' S0 S' := hN.Rq hO hV w l
    have hv : Rv VB V' ((-1, -1, w, -1, false, l) : Ovr) L L' S0 S' := ⟨hO, hq.2.1, hq.2.2.2.1, hq.2.2.2.2⟩
    refine ⟨(if (ixB y1 (npV VB) && rgB y2 (nI 0) (nI 3)) then cl (P ((nN y1) * 4 + (nN y2))) else -2), (false, len, nx, kk, st, nu, nm, T, fk, pl, VA, XA, VB, XB, (S0, P, L, a, kp, Wn), Tt, b, Sl, W, F, hb, Q0, Q1, Q2), (V', D', len, T, k', f', fa', VR', XR', (S', P', L', a'), (w, l, lg, ll, Wj, Bj, fj, bp, G), K', kb', fn', hb, F', b'), (show R0 _ _ _ _ _ _ _ _ _ _ _ _ _ _ _ _ _ _ _ _ _ _ _ _ _ _ _ from hR.mono (by omega)), fun ad => ?_, fun ad => ?_⟩
    · exact lx_n0 E len nx kk st nu nm T fk pl VA XA VB XB (S0, P, L, a, kp, Wn) Tt b Sl W F hb Q0 Q1 Q2 (S0, P, L, a, kp, Wn) (fun ad r => x_planned E ad r (bI hb) S0 P L a kp Wn VB XB y1 y2 hO (Sok.le hO hSo) hPl (by omega)) ad
    · exact Md.ans (lm_t E V' D' len T k' f' fa' VR' XR' (S', P', L', a') (w, l, lg, ll, Wj, Bj, fj, bp, G) K' kb' fn' hb F' b' (w, l, lg, ll, Wj, Bj, fj, bp, G) (S', P', L', a') (fun ad r i => m_planned E ad r i V' w l lg ll Wj Bj fj bp G S' P' L' a' y1 y2 hO' (Sok.le hO' hSo') hPo' (by omega)) ad) (by
        rw [hnp]
        by_cases c : (ixB y1 (npV VB) && rgB y2 (nI 0) (nI 3)) = true
        · rw [if_pos c, if_pos c]
          have c2 := rg_lt (by decide) (by decide) (Bool.and_eq_true_iff.mp c).2
          have e : P (nN y1 * 4 + nN y2) = P' (nN y1 * 4 + nN y2) := hN.2.1 _ _ (ix_lt hp5 (Bool.and_eq_true_iff.mp c).1) (by omega)
          rw [e]
        · rw [if_neg c, if_neg c])
  · have hR : R0 B VA XA len T fk pl (S0, P, L, a, kp, Wn) b W F hb Q0 Q1 Q2 V' D' tp' T' k' f' fa' (S', P', L', a') K' kb' hb' F' := hR
    obtain ⟨⟨ta, tb, tc, td, te⟩, ⟨hO, hV, hso, hst, hcl⟩, hN, ⟨s0, s1, s2⟩, ⟨fa1, fa2⟩, ⟨g1, g2, g3, g4⟩, ⟨l1, l2⟩⟩ := id hR
    subst tp' T' hb'
    have hO' : Vok V' := hO.eq' hV
    have hnp : npV V' = npV VA := hV.2.1.symm
    have hnh : nhV V' = nhV VA := hV.1.symm
    have hp5 : npV VA ≤ 5 := hO.2.1
    have hh5 : nhV VA ≤ 5 := hO.1
    have hSo : Sok VA S0 := hN.2.2.2.2.2.1
    have hPo : Pok VA P := hN.2.2.2.2.2.2.1
    have hPl : Ple P := hN.2.2.2.2.2.2.2.1
    have hps : psS S0 ≤ B := hN.2.2.2.2.2.2.2.2.1
    have hgb : ∀ W9 p, p < npV VA → Ib (ltS (gon VA L W9 S0) p) (-128) 127 := fun W9 p hp => gon_gb hO hN.2.2.2.2.2.2.2.2.2.1 hN.2.2.2.2.2.2.2.2.2.2 hp
    have hSo' : Sok V' S' := hN.Sok' hV
    have hPo' : Pok V' P' := hN.Pok' hV
    have hps' : psS S' ≤ B := hN.ps'
    have hq : Rq VA (ovr V' ((-1, -1, w, -1, false, l) : Ovr)) P P' L L' S0 S' := hN.Rq hO hV w l
    have hv : Rv VA V' ((-1, -1, w, -1, false, l) : Ovr) L L' S0 S' := ⟨hO, hq.2.1, hq.2.2.2.1, hq.2.2.2.2⟩
    refine ⟨(if (ixB y1 (npV VA) && rgB y2 (nI 0) (nI 3)) then cl (P ((nN y1) * 4 + (nN y2))) else -2), (true, len, nx, kk, st, nu, nm, T, fk, pl, VA, XA, VB, XB, (S0, P, L, a, kp, Wn), Tt, b, Sl, W, F, hb, Q0, Q1, Q2), (V', D', len, T, k', f', fa', VR', XR', (S', P', L', a'), (w, l, lg, ll, Wj, Bj, fj, bp, G), K', kb', fn', hb, F', b'), (show R0 _ _ _ _ _ _ _ _ _ _ _ _ _ _ _ _ _ _ _ _ _ _ _ _ _ _ _ from hR.mono (by omega)), fun ad => ?_, fun ad => ?_⟩
    · exact lx_n1 E len nx kk st nu nm T fk pl VA XA VB XB (S0, P, L, a, kp, Wn) Tt b Sl W F hb Q0 Q1 Q2 (S0, P, L, a, kp, Wn) (fun ad r => x_planned E ad r (bI hb) S0 P L a kp Wn VA XA y1 y2 hO (Sok.le hO hSo) hPl (by omega)) ad
    · exact Md.ans (lm_t E V' D' len T k' f' fa' VR' XR' (S', P', L', a') (w, l, lg, ll, Wj, Bj, fj, bp, G) K' kb' fn' hb F' b' (w, l, lg, ll, Wj, Bj, fj, bp, G) (S', P', L', a') (fun ad r i => m_planned E ad r i V' w l lg ll Wj Bj fj bp G S' P' L' a' y1 y2 hO' (Sok.le hO' hSo') hPo' (by omega)) ad) (by
        rw [hnp]
        by_cases c : (ixB y1 (npV VA) && rgB y2 (nI 0) (nI 3)) = true
        · rw [if_pos c, if_pos c]
          have c2 := rg_lt (by decide) (by decide) (Bool.and_eq_true_iff.mp c).2
          have e : P (nN y1 * 4 + nN y2) = P' (nN y1 * 4 + nN y2) := hN.2.1 _ _ (ix_lt hp5 (Bool.and_eq_true_iff.mp c).1) (by omega)
          rw [e]
        · rw [if_neg c, if_neg c])
set_option maxHeartbeats 4000000 in
set_option maxRecDepth 100000 in
theorem pr_lets (E : EnvT) (B : Nat) (x : Xst) (m : Mst) (y1 : Int32) (y2 : Int32) (hR : RR B x m) (hB : B < 2 ^ 28) : Pr E B mX9_lets mX10_lets [.int y1, .int y2] x m := by
  obtain ⟨sw, len, nx, kk, st, nu, nm, T, fk, pl, VA, XA, VB, XB, ⟨S0, P, L, a, kp, Wn⟩, Tt, b, Sl, W, F, hb, Q0, Q1, Q2⟩ := x
  obtain ⟨V', D', tp', T', k', f', fa', VR', XR', ⟨S', P', L', a'⟩, ⟨w, l, lg, ll, Wj, Bj, fj, bp, G⟩, K', kb', fn', hb', F', b'⟩ := m
  cases sw
  · have hR : R0 B VB XB len T fk pl (S0, P, L, a, kp, Wn) b W F hb Q0 Q1 Q2 V' D' tp' T' k' f' fa' (S', P', L', a') K' kb' hb' F' := hR
    obtain ⟨⟨ta, tb, tc, td, te⟩, ⟨hO, hV, hso, hst, hcl⟩, hN, ⟨s0, s1, s2⟩, ⟨fa1, fa2⟩, ⟨g1, g2, g3, g4⟩, ⟨l1, l2⟩⟩ := id hR
    subst tp' T' hb'
    have hO' : Vok V' := hO.eq' hV
    have hnp : npV V' = npV VB := hV.2.1.symm
    have hnh : nhV V' = nhV VB := hV.1.symm
    have hp5 : npV VB ≤ 5 := hO.2.1
    have hh5 : nhV VB ≤ 5 := hO.1
    have hSo : Sok VB S0 := hN.2.2.2.2.2.1
    have hPo : Pok VB P := hN.2.2.2.2.2.2.1
    have hPl : Ple P := hN.2.2.2.2.2.2.2.1
    have hps : psS S0 ≤ B := hN.2.2.2.2.2.2.2.2.1
    have hgb : ∀ W9 p, p < npV VB → Ib (ltS (gon VB L W9 S0) p) (-128) 127 := fun W9 p hp => gon_gb hO hN.2.2.2.2.2.2.2.2.2.1 hN.2.2.2.2.2.2.2.2.2.2 hp
    have hSo' : Sok V' S' := hN.Sok' hV
    have hPo' : Pok V' P' := hN.Pok' hV
    have hps' : psS S' ≤ B := hN.ps'
    have hq : Rq VB (ovr V' ((-1, -1, w, -1, false, l) : Ovr)) P P' L L' S0 S' := hN.Rq hO hV w l
    have hv : Rv VB V' ((-1, -1, w, -1, false, l) : Ovr) L L' S0 S' := ⟨hO, hq.2.1, hq.2.2.2.1, hq.2.2.2.2⟩
    refine ⟨(if (ixB y1 (npV VB) && rgB y2 (nI 0) (nI 31)) then L (nN y1) else -2), (false, len, nx, kk, st, nu, nm, T, fk, pl, VA, XA, VB, XB, (S0, P, (if (ixB y1 (npV VB) && rgB y2 (nI 0) (nI 31)) then upd L (nN y1) y2 else L), a, kp, Wn), Tt, b, Sl, W, F, hb, Q0, Q1, Q2), (V', D', len, T, k', f', fa', VR', XR', (S', P', (if (ixB y1 (npV V') && rgB y2 (nI 0) (nI 31)) then upd L' (nN y1) y2 else L'), a'), (w, l, lg, ll, Wj, Bj, fj, bp, G), K', kb', fn', hb, F', b'), (show R0 _ _ _ _ _ _ _ _ _ _ _ _ _ _ _ _ _ _ _ _ _ _ _ _ _ _ _ from ⟨⟨rfl, tb, rfl, td, te⟩, ⟨hO, hV, hso, hst, hcl⟩, (by
        obtain ⟨a1, a2, a3, a4, a5, a6, a7, a8, a9⟩ := hN.mono (show B ≤ B + 400 by omega)
        refine ⟨a1, a2, fun p hp => ?_, a4, a5, a6, a7, a8, a9⟩
        show (if (ixB y1 (npV VB) && rgB y2 (nI 0) (nI 31)) then upd L (nN y1) y2 else L) p = (if (ixB y1 (npV V') && rgB y2 (nI 0) (nI 31)) then upd L' (nN y1) y2 else L') p
        rw [hnp]
        by_cases c : (ixB y1 (npV VB) && rgB y2 (nI 0) (nI 31)) = true
        · rw [if_pos c, if_pos c]; exact ud_eq a3 rfl p hp
        · rw [if_neg c, if_neg c]; exact a3 p hp), ⟨s0.mono (by omega), s1.mono (by omega), s2.mono (by omega)⟩, ⟨fa1, fa2⟩, ⟨rfl, g2, g3, g4⟩, ⟨l1, l2⟩⟩), fun ad => ?_, fun ad => ?_⟩
    · exact lx_n0 E len nx kk st nu nm T fk pl VA XA VB XB (S0, P, L, a, kp, Wn) Tt b Sl W F hb Q0 Q1 Q2 (S0, P, (if (ixB y1 (npV VB) && rgB y2 (nI 0) (nI 31)) then upd L (nN y1) y2 else L), a, kp, Wn) (fun ad r => x_lets E ad r (bI hb) S0 P L a kp Wn VB XB y1 y2 hO (Sok.le hO hSo) hPl (by omega)) ad
    · exact Md.ans (lm_t E V' D' len T k' f' fa' VR' XR' (S', P', L', a') (w, l, lg, ll, Wj, Bj, fj, bp, G) K' kb' fn' hb F' b' (w, l, lg, ll, Wj, Bj, fj, bp, G) (S', P', (if (ixB y1 (npV V') && rgB y2 (nI 0) (nI 31)) then upd L' (nN y1) y2 else L'), a') (fun ad r i => m_lets E ad r i V' w l lg ll Wj Bj fj bp G S' P' L' a' y1 y2 hO' (Sok.le hO' hSo') hPo' (by omega)) ad) (by
        rw [hnp]
        by_cases c : (ixB y1 (npV VB) && rgB y2 (nI 0) (nI 31)) = true
        · rw [if_pos c, if_pos c]; exact (hN.2.2.1 _ (ix_lt hp5 (Bool.and_eq_true_iff.mp c).1)).symm
        · rw [if_neg c, if_neg c])
  · have hR : R0 B VA XA len T fk pl (S0, P, L, a, kp, Wn) b W F hb Q0 Q1 Q2 V' D' tp' T' k' f' fa' (S', P', L', a') K' kb' hb' F' := hR
    obtain ⟨⟨ta, tb, tc, td, te⟩, ⟨hO, hV, hso, hst, hcl⟩, hN, ⟨s0, s1, s2⟩, ⟨fa1, fa2⟩, ⟨g1, g2, g3, g4⟩, ⟨l1, l2⟩⟩ := id hR
    subst tp' T' hb'
    have hO' : Vok V' := hO.eq' hV
    have hnp : npV V' = npV VA := hV.2.1.symm
    have hnh : nhV V' = nhV VA := hV.1.symm
    have hp5 : npV VA ≤ 5 := hO.2.1
    have hh5 : nhV VA ≤ 5 := hO.1
    have hSo : Sok VA S0 := hN.2.2.2.2.2.1
    have hPo : Pok VA P := hN.2.2.2.2.2.2.1
    have hPl : Ple P := hN.2.2.2.2.2.2.2.1
    have hps : psS S0 ≤ B := hN.2.2.2.2.2.2.2.2.1
    have hgb : ∀ W9 p, p < npV VA → Ib (ltS (gon VA L W9 S0) p) (-128) 127 := fun W9 p hp => gon_gb hO hN.2.2.2.2.2.2.2.2.2.1 hN.2.2.2.2.2.2.2.2.2.2 hp
    have hSo' : Sok V' S' := hN.Sok' hV
    have hPo' : Pok V' P' := hN.Pok' hV
    have hps' : psS S' ≤ B := hN.ps'
    have hq : Rq VA (ovr V' ((-1, -1, w, -1, false, l) : Ovr)) P P' L L' S0 S' := hN.Rq hO hV w l
    have hv : Rv VA V' ((-1, -1, w, -1, false, l) : Ovr) L L' S0 S' := ⟨hO, hq.2.1, hq.2.2.2.1, hq.2.2.2.2⟩
    refine ⟨(if (ixB y1 (npV VA) && rgB y2 (nI 0) (nI 31)) then L (nN y1) else -2), (true, len, nx, kk, st, nu, nm, T, fk, pl, VA, XA, VB, XB, (S0, P, (if (ixB y1 (npV VA) && rgB y2 (nI 0) (nI 31)) then upd L (nN y1) y2 else L), a, kp, Wn), Tt, b, Sl, W, F, hb, Q0, Q1, Q2), (V', D', len, T, k', f', fa', VR', XR', (S', P', (if (ixB y1 (npV V') && rgB y2 (nI 0) (nI 31)) then upd L' (nN y1) y2 else L'), a'), (w, l, lg, ll, Wj, Bj, fj, bp, G), K', kb', fn', hb, F', b'), (show R0 _ _ _ _ _ _ _ _ _ _ _ _ _ _ _ _ _ _ _ _ _ _ _ _ _ _ _ from ⟨⟨rfl, tb, rfl, td, te⟩, ⟨hO, hV, hso, hst, hcl⟩, (by
        obtain ⟨a1, a2, a3, a4, a5, a6, a7, a8, a9⟩ := hN.mono (show B ≤ B + 400 by omega)
        refine ⟨a1, a2, fun p hp => ?_, a4, a5, a6, a7, a8, a9⟩
        show (if (ixB y1 (npV VA) && rgB y2 (nI 0) (nI 31)) then upd L (nN y1) y2 else L) p = (if (ixB y1 (npV V') && rgB y2 (nI 0) (nI 31)) then upd L' (nN y1) y2 else L') p
        rw [hnp]
        by_cases c : (ixB y1 (npV VA) && rgB y2 (nI 0) (nI 31)) = true
        · rw [if_pos c, if_pos c]; exact ud_eq a3 rfl p hp
        · rw [if_neg c, if_neg c]; exact a3 p hp), ⟨s0.mono (by omega), s1.mono (by omega), s2.mono (by omega)⟩, ⟨fa1, fa2⟩, ⟨rfl, g2, g3, g4⟩, ⟨l1, l2⟩⟩), fun ad => ?_, fun ad => ?_⟩
    · exact lx_n1 E len nx kk st nu nm T fk pl VA XA VB XB (S0, P, L, a, kp, Wn) Tt b Sl W F hb Q0 Q1 Q2 (S0, P, (if (ixB y1 (npV VA) && rgB y2 (nI 0) (nI 31)) then upd L (nN y1) y2 else L), a, kp, Wn) (fun ad r => x_lets E ad r (bI hb) S0 P L a kp Wn VA XA y1 y2 hO (Sok.le hO hSo) hPl (by omega)) ad
    · exact Md.ans (lm_t E V' D' len T k' f' fa' VR' XR' (S', P', L', a') (w, l, lg, ll, Wj, Bj, fj, bp, G) K' kb' fn' hb F' b' (w, l, lg, ll, Wj, Bj, fj, bp, G) (S', P', (if (ixB y1 (npV V') && rgB y2 (nI 0) (nI 31)) then upd L' (nN y1) y2 else L'), a') (fun ad r i => m_lets E ad r i V' w l lg ll Wj Bj fj bp G S' P' L' a' y1 y2 hO' (Sok.le hO' hSo') hPo' (by omega)) ad) (by
        rw [hnp]
        by_cases c : (ixB y1 (npV VA) && rgB y2 (nI 0) (nI 31)) = true
        · rw [if_pos c, if_pos c]; exact (hN.2.2.1 _ (ix_lt hp5 (Bool.and_eq_true_iff.mp c).1)).symm
        · rw [if_neg c, if_neg c])
set_option maxHeartbeats 4000000 in
set_option maxRecDepth 100000 in
theorem pr_chance (E : EnvT) (B : Nat) (x : Xst) (m : Mst) (y1 : Int32) (hR : RR B x m) (hB : B < 2 ^ 28) : Pr E B mX9_chance mX10_chance [.int y1] x m := by
  obtain ⟨sw, len, nx, kk, st, nu, nm, T, fk, pl, VA, XA, VB, XB, ⟨S0, P, L, a, kp, Wn⟩, Tt, b, Sl, W, F, hb, Q0, Q1, Q2⟩ := x
  obtain ⟨V', D', tp', T', k', f', fa', VR', XR', ⟨S', P', L', a'⟩, ⟨w, l, lg, ll, Wj, Bj, fj, bp, G⟩, K', kb', fn', hb', F', b'⟩ := m
  cases sw
  · have hR : R0 B VB XB len T fk pl (S0, P, L, a, kp, Wn) b W F hb Q0 Q1 Q2 V' D' tp' T' k' f' fa' (S', P', L', a') K' kb' hb' F' := hR
    obtain ⟨⟨ta, tb, tc, td, te⟩, ⟨hO, hV, hso, hst, hcl⟩, hN, ⟨s0, s1, s2⟩, ⟨fa1, fa2⟩, ⟨g1, g2, g3, g4⟩, ⟨l1, l2⟩⟩ := id hR
    subst tp' T' hb'
    have hO' : Vok V' := hO.eq' hV
    have hnp : npV V' = npV VB := hV.2.1.symm
    have hnh : nhV V' = nhV VB := hV.1.symm
    have hp5 : npV VB ≤ 5 := hO.2.1
    have hh5 : nhV VB ≤ 5 := hO.1
    have hSo : Sok VB S0 := hN.2.2.2.2.2.1
    have hPo : Pok VB P := hN.2.2.2.2.2.2.1
    have hPl : Ple P := hN.2.2.2.2.2.2.2.1
    have hps : psS S0 ≤ B := hN.2.2.2.2.2.2.2.2.1
    have hgb : ∀ W9 p, p < npV VB → Ib (ltS (gon VB L W9 S0) p) (-128) 127 := fun W9 p hp => gon_gb hO hN.2.2.2.2.2.2.2.2.2.1 hN.2.2.2.2.2.2.2.2.2.2 hp
    have hSo' : Sok V' S' := hN.Sok' hV
    have hPo' : Pok V' P' := hN.Pok' hV
    have hps' : psS S' ≤ B := hN.ps'
    have hq : Rq VB (ovr V' ((-1, -1, w, -1, false, l) : Ovr)) P P' L L' S0 S' := hN.Rq hO hV w l
    have hv : Rv VB V' ((-1, -1, w, -1, false, l) : Ovr) L L' S0 S' := ⟨hO, hq.2.1, hq.2.2.2.1, hq.2.2.2.2⟩
    refine ⟨(if y1 < 0 then -2 else 1), (false, len, nx, kk, st, nu, nm, T, fk, pl, VA, XA, VB, XB, (S0, P, L, (if y1 < 0 then a else nN y1), kp, Wn), Tt, b, Sl, W, F, hb, Q0, Q1, Q2), (V', D', len, T, k', f', fa', VR', XR', (S', P', L', (if y1 < 0 then a' else nN y1)), (w, l, lg, ll, Wj, Bj, fj, bp, G), K', kb', fn', hb, F', b'), (show R0 _ _ _ _ _ _ _ _ _ _ _ _ _ _ _ _ _ _ _ _ _ _ _ _ _ _ _ from ⟨⟨rfl, tb, rfl, td, te⟩, ⟨hO, hV, hso, hst, hcl⟩, (by
        obtain ⟨a1, a2, a3, a4, a5, a6, a7, a8, a9⟩ := hN.mono (show B ≤ B + 400 by omega)
        have a4 : a = a' := a4
        refine ⟨a1, a2, a3, ?_, ?_, a6, a7, a8, a9⟩
        · show (if y1 < 0 then a else nN y1) = (if y1 < 0 then a' else nN y1)
          rw [a4]
        · by_cases c : y1 < 0
          · rw [if_pos c]; exact a5
          · rw [if_neg c]; exact (nN_e c).2), ⟨s0.mono (by omega), s1.mono (by omega), s2.mono (by omega)⟩, ⟨fa1, fa2⟩, ⟨rfl, g2, g3, g4⟩, ⟨l1, l2⟩⟩), fun ad => ?_, fun ad => ?_⟩
    · exact lx_n0 E len nx kk st nu nm T fk pl VA XA VB XB (S0, P, L, a, kp, Wn) Tt b Sl W F hb Q0 Q1 Q2 (S0, P, L, (if y1 < 0 then a else nN y1), kp, Wn) (fun ad r => x_chance E ad r (bI hb) S0 P L a kp Wn VB XB y1 ) ad
    · exact Md.ans (lm_t E V' D' len T k' f' fa' VR' XR' (S', P', L', a') (w, l, lg, ll, Wj, Bj, fj, bp, G) K' kb' fn' hb F' b' (w, l, lg, ll, Wj, Bj, fj, bp, G) (S', P', L', (if y1 < 0 then a' else nN y1)) (fun ad r i => m_chance E ad r i V' w l lg ll Wj Bj fj bp G S' P' L' a' y1 ) ad) (by
        rfl)
  · have hR : R0 B VA XA len T fk pl (S0, P, L, a, kp, Wn) b W F hb Q0 Q1 Q2 V' D' tp' T' k' f' fa' (S', P', L', a') K' kb' hb' F' := hR
    obtain ⟨⟨ta, tb, tc, td, te⟩, ⟨hO, hV, hso, hst, hcl⟩, hN, ⟨s0, s1, s2⟩, ⟨fa1, fa2⟩, ⟨g1, g2, g3, g4⟩, ⟨l1, l2⟩⟩ := id hR
    subst tp' T' hb'
    have hO' : Vok V' := hO.eq' hV
    have hnp : npV V' = npV VA := hV.2.1.symm
    have hnh : nhV V' = nhV VA := hV.1.symm
    have hp5 : npV VA ≤ 5 := hO.2.1
    have hh5 : nhV VA ≤ 5 := hO.1
    have hSo : Sok VA S0 := hN.2.2.2.2.2.1
    have hPo : Pok VA P := hN.2.2.2.2.2.2.1
    have hPl : Ple P := hN.2.2.2.2.2.2.2.1
    have hps : psS S0 ≤ B := hN.2.2.2.2.2.2.2.2.1
    have hgb : ∀ W9 p, p < npV VA → Ib (ltS (gon VA L W9 S0) p) (-128) 127 := fun W9 p hp => gon_gb hO hN.2.2.2.2.2.2.2.2.2.1 hN.2.2.2.2.2.2.2.2.2.2 hp
    have hSo' : Sok V' S' := hN.Sok' hV
    have hPo' : Pok V' P' := hN.Pok' hV
    have hps' : psS S' ≤ B := hN.ps'
    have hq : Rq VA (ovr V' ((-1, -1, w, -1, false, l) : Ovr)) P P' L L' S0 S' := hN.Rq hO hV w l
    have hv : Rv VA V' ((-1, -1, w, -1, false, l) : Ovr) L L' S0 S' := ⟨hO, hq.2.1, hq.2.2.2.1, hq.2.2.2.2⟩
    refine ⟨(if y1 < 0 then -2 else 1), (true, len, nx, kk, st, nu, nm, T, fk, pl, VA, XA, VB, XB, (S0, P, L, (if y1 < 0 then a else nN y1), kp, Wn), Tt, b, Sl, W, F, hb, Q0, Q1, Q2), (V', D', len, T, k', f', fa', VR', XR', (S', P', L', (if y1 < 0 then a' else nN y1)), (w, l, lg, ll, Wj, Bj, fj, bp, G), K', kb', fn', hb, F', b'), (show R0 _ _ _ _ _ _ _ _ _ _ _ _ _ _ _ _ _ _ _ _ _ _ _ _ _ _ _ from ⟨⟨rfl, tb, rfl, td, te⟩, ⟨hO, hV, hso, hst, hcl⟩, (by
        obtain ⟨a1, a2, a3, a4, a5, a6, a7, a8, a9⟩ := hN.mono (show B ≤ B + 400 by omega)
        have a4 : a = a' := a4
        refine ⟨a1, a2, a3, ?_, ?_, a6, a7, a8, a9⟩
        · show (if y1 < 0 then a else nN y1) = (if y1 < 0 then a' else nN y1)
          rw [a4]
        · by_cases c : y1 < 0
          · rw [if_pos c]; exact a5
          · rw [if_neg c]; exact (nN_e c).2), ⟨s0.mono (by omega), s1.mono (by omega), s2.mono (by omega)⟩, ⟨fa1, fa2⟩, ⟨rfl, g2, g3, g4⟩, ⟨l1, l2⟩⟩), fun ad => ?_, fun ad => ?_⟩
    · exact lx_n1 E len nx kk st nu nm T fk pl VA XA VB XB (S0, P, L, a, kp, Wn) Tt b Sl W F hb Q0 Q1 Q2 (S0, P, L, (if y1 < 0 then a else nN y1), kp, Wn) (fun ad r => x_chance E ad r (bI hb) S0 P L a kp Wn VA XA y1 ) ad
    · exact Md.ans (lm_t E V' D' len T k' f' fa' VR' XR' (S', P', L', a') (w, l, lg, ll, Wj, Bj, fj, bp, G) K' kb' fn' hb F' b' (w, l, lg, ll, Wj, Bj, fj, bp, G) (S', P', L', (if y1 < 0 then a' else nN y1)) (fun ad r i => m_chance E ad r i V' w l lg ll Wj Bj fj bp G S' P' L' a' y1 ) ad) (by
        rfl)
set_option maxHeartbeats 4000000 in
set_option maxRecDepth 100000 in
theorem pr_who (E : EnvT) (B : Nat) (x : Xst) (m : Mst) (y1 : Int32) (y2 : Int32) (hR : RR B x m) (hB : B < 2 ^ 28) : Pr E B mX9_who mX10_who [.int y1, .int y2] x m := by
  obtain ⟨sw, len, nx, kk, st, nu, nm, T, fk, pl, VA, XA, VB, XB, ⟨S0, P, L, a, kp, Wn⟩, Tt, b, Sl, W, F, hb, Q0, Q1, Q2⟩ := x
  obtain ⟨V', D', tp', T', k', f', fa', VR', XR', ⟨S', P', L', a'⟩, ⟨w, l, lg, ll, Wj, Bj, fj, bp, G⟩, K', kb', fn', hb', F', b'⟩ := m
  cases sw
  · have hR : R0 B VB XB len T fk pl (S0, P, L, a, kp, Wn) b W F hb Q0 Q1 Q2 V' D' tp' T' k' f' fa' (S', P', L', a') K' kb' hb' F' := hR
    obtain ⟨⟨ta, tb, tc, td, te⟩, ⟨hO, hV, hso, hst, hcl⟩, hN, ⟨s0, s1, s2⟩, ⟨fa1, fa2⟩, ⟨g1, g2, g3, g4⟩, ⟨l1, l2⟩⟩ := id hR
    subst tp' T' hb'
    have hO' : Vok V' := hO.eq' hV
    have hnp : npV V' = npV VB := hV.2.1.symm
    have hnh : nhV V' = nhV VB := hV.1.symm
    have hp5 : npV VB ≤ 5 := hO.2.1
    have hh5 : nhV VB ≤ 5 := hO.1
    have hSo : Sok VB S0 := hN.2.2.2.2.2.1
    have hPo : Pok VB P := hN.2.2.2.2.2.2.1
    have hPl : Ple P := hN.2.2.2.2.2.2.2.1
    have hps : psS S0 ≤ B := hN.2.2.2.2.2.2.2.2.1
    have hgb : ∀ W9 p, p < npV VB → Ib (ltS (gon VB L W9 S0) p) (-128) 127 := fun W9 p hp => gon_gb hO hN.2.2.2.2.2.2.2.2.2.1 hN.2.2.2.2.2.2.2.2.2.2 hp
    have hSo' : Sok V' S' := hN.Sok' hV
    have hPo' : Pok V' P' := hN.Pok' hV
    have hps' : psS S' ≤ B := hN.ps'
    have hq : Rq VB (ovr V' ((-1, -1, w, -1, false, l) : Ovr)) P P' L L' S0 S' := hN.Rq hO hV w l
    have hv : Rv VB V' ((-1, -1, w, -1, false, l) : Ovr) L L' S0 S' := ⟨hO, hq.2.1, hq.2.2.2.1, hq.2.2.2.2⟩
    refine ⟨(if ixB y1 (npV VB) then (if y2 = nI 0 then cl (whS S0 (nN y1)) else if y2 = nI 1 then sdS S0 (nN y1) else if y2 = nI 2 then ltS S0 (nN y1) else if y2 = nI 3 then alS S0 (nN y1) else -1000000) else -1000000), (false, len, nx, kk, st, nu, nm, T, fk, pl, VA, XA, VB, XB, (S0, P, L, a, kp, Wn), Tt, b, Sl, W, F, hb, Q0, Q1, Q2), (V', D', len, T, k', f', fa', VR', XR', (S', P', L', a'), (w, l, lg, ll, Wj, Bj, fj, bp, G), K', kb', fn', hb, F', b'), (show R0 _ _ _ _ _ _ _ _ _ _ _ _ _ _ _ _ _ _ _ _ _ _ _ _ _ _ _ from hR.mono (by omega)), fun ad => ?_, fun ad => ?_⟩
    · exact lx_n0 E len nx kk st nu nm T fk pl VA XA VB XB (S0, P, L, a, kp, Wn) Tt b Sl W F hb Q0 Q1 Q2 (S0, P, L, a, kp, Wn) (fun ad r => x_who E ad r (bI hb) S0 P L a kp Wn VB XB y1 y2 hO (Sok.le hO hSo) hPl (by omega)) ad
    · exact Md.ans (lm_t E V' D' len T k' f' fa' VR' XR' (S', P', L', a') (w, l, lg, ll, Wj, Bj, fj, bp, G) K' kb' fn' hb F' b' (w, l, lg, ll, Wj, Bj, fj, bp, G) (S', P', L', a') (fun ad r i => m_who E ad r i V' w l lg ll Wj Bj fj bp G S' P' L' a' y1 y2 hO' (Sok.le hO' hSo') hPo' (by omega)) ad) (by
        rw [hnp]
        by_cases c : ixB y1 (npV VB) = true
        · have c1 := ix_lt hp5 c
          have hS : Seq VB S0 S' := hN.1
          rw [if_pos c, if_pos c, hS.2.1 _ c1, hS.2.2.1 _ c1, hS.2.2.2.1 _ c1, hS.2.2.2.2.1 _ c1]
        · rw [if_neg c, if_neg c])
  · have hR : R0 B VA XA len T fk pl (S0, P, L, a, kp, Wn) b W F hb Q0 Q1 Q2 V' D' tp' T' k' f' fa' (S', P', L', a') K' kb' hb' F' := hR
    obtain ⟨⟨ta, tb, tc, td, te⟩, ⟨hO, hV, hso, hst, hcl⟩, hN, ⟨s0, s1, s2⟩, ⟨fa1, fa2⟩, ⟨g1, g2, g3, g4⟩, ⟨l1, l2⟩⟩ := id hR
    subst tp' T' hb'
    have hO' : Vok V' := hO.eq' hV
    have hnp : npV V' = npV VA := hV.2.1.symm
    have hnh : nhV V' = nhV VA := hV.1.symm
    have hp5 : npV VA ≤ 5 := hO.2.1
    have hh5 : nhV VA ≤ 5 := hO.1
    have hSo : Sok VA S0 := hN.2.2.2.2.2.1
    have hPo : Pok VA P := hN.2.2.2.2.2.2.1
    have hPl : Ple P := hN.2.2.2.2.2.2.2.1
    have hps : psS S0 ≤ B := hN.2.2.2.2.2.2.2.2.1
    have hgb : ∀ W9 p, p < npV VA → Ib (ltS (gon VA L W9 S0) p) (-128) 127 := fun W9 p hp => gon_gb hO hN.2.2.2.2.2.2.2.2.2.1 hN.2.2.2.2.2.2.2.2.2.2 hp
    have hSo' : Sok V' S' := hN.Sok' hV
    have hPo' : Pok V' P' := hN.Pok' hV
    have hps' : psS S' ≤ B := hN.ps'
    have hq : Rq VA (ovr V' ((-1, -1, w, -1, false, l) : Ovr)) P P' L L' S0 S' := hN.Rq hO hV w l
    have hv : Rv VA V' ((-1, -1, w, -1, false, l) : Ovr) L L' S0 S' := ⟨hO, hq.2.1, hq.2.2.2.1, hq.2.2.2.2⟩
    refine ⟨(if ixB y1 (npV VA) then (if y2 = nI 0 then cl (whS S0 (nN y1)) else if y2 = nI 1 then sdS S0 (nN y1) else if y2 = nI 2 then ltS S0 (nN y1) else if y2 = nI 3 then alS S0 (nN y1) else -1000000) else -1000000), (true, len, nx, kk, st, nu, nm, T, fk, pl, VA, XA, VB, XB, (S0, P, L, a, kp, Wn), Tt, b, Sl, W, F, hb, Q0, Q1, Q2), (V', D', len, T, k', f', fa', VR', XR', (S', P', L', a'), (w, l, lg, ll, Wj, Bj, fj, bp, G), K', kb', fn', hb, F', b'), (show R0 _ _ _ _ _ _ _ _ _ _ _ _ _ _ _ _ _ _ _ _ _ _ _ _ _ _ _ from hR.mono (by omega)), fun ad => ?_, fun ad => ?_⟩
    · exact lx_n1 E len nx kk st nu nm T fk pl VA XA VB XB (S0, P, L, a, kp, Wn) Tt b Sl W F hb Q0 Q1 Q2 (S0, P, L, a, kp, Wn) (fun ad r => x_who E ad r (bI hb) S0 P L a kp Wn VA XA y1 y2 hO (Sok.le hO hSo) hPl (by omega)) ad
    · exact Md.ans (lm_t E V' D' len T k' f' fa' VR' XR' (S', P', L', a') (w, l, lg, ll, Wj, Bj, fj, bp, G) K' kb' fn' hb F' b' (w, l, lg, ll, Wj, Bj, fj, bp, G) (S', P', L', a') (fun ad r i => m_who E ad r i V' w l lg ll Wj Bj fj bp G S' P' L' a' y1 y2 hO' (Sok.le hO' hSo') hPo' (by omega)) ad) (by
        rw [hnp]
        by_cases c : ixB y1 (npV VA) = true
        · have c1 := ix_lt hp5 c
          have hS : Seq VA S0 S' := hN.1
          rw [if_pos c, if_pos c, hS.2.1 _ c1, hS.2.2.1 _ c1, hS.2.2.2.1 _ c1, hS.2.2.2.2.1 _ c1]
        · rw [if_neg c, if_neg c])
set_option maxHeartbeats 4000000 in
set_option maxRecDepth 100000 in
theorem pr_house (E : EnvT) (B : Nat) (x : Xst) (m : Mst) (y1 : Int32) (y2 : Int32) (hR : RR B x m) (hB : B < 2 ^ 28) : Pr E B mX9_house mX10_house [.int y1, .int y2] x m := by
  obtain ⟨sw, len, nx, kk, st, nu, nm, T, fk, pl, VA, XA, VB, XB, ⟨S0, P, L, a, kp, Wn⟩, Tt, b, Sl, W, F, hb, Q0, Q1, Q2⟩ := x
  obtain ⟨V', D', tp', T', k', f', fa', VR', XR', ⟨S', P', L', a'⟩, ⟨w, l, lg, ll, Wj, Bj, fj, bp, G⟩, K', kb', fn', hb', F', b'⟩ := m
  cases sw
  · have hR : R0 B VB XB len T fk pl (S0, P, L, a, kp, Wn) b W F hb Q0 Q1 Q2 V' D' tp' T' k' f' fa' (S', P', L', a') K' kb' hb' F' := hR
    obtain ⟨⟨ta, tb, tc, td, te⟩, ⟨hO, hV, hso, hst, hcl⟩, hN, ⟨s0, s1, s2⟩, ⟨fa1, fa2⟩, ⟨g1, g2, g3, g4⟩, ⟨l1, l2⟩⟩ := id hR
    subst tp' T' hb'
    have hO' : Vok V' := hO.eq' hV
    have hnp : npV V' = npV VB := hV.2.1.symm
    have hnh : nhV V' = nhV VB := hV.1.symm
    have hp5 : npV VB ≤ 5 := hO.2.1
    have hh5 : nhV VB ≤ 5 := hO.1
    have hSo : Sok VB S0 := hN.2.2.2.2.2.1
    have hPo : Pok VB P := hN.2.2.2.2.2.2.1
    have hPl : Ple P := hN.2.2.2.2.2.2.2.1
    have hps : psS S0 ≤ B := hN.2.2.2.2.2.2.2.2.1
    have hgb : ∀ W9 p, p < npV VB → Ib (ltS (gon VB L W9 S0) p) (-128) 127 := fun W9 p hp => gon_gb hO hN.2.2.2.2.2.2.2.2.2.1 hN.2.2.2.2.2.2.2.2.2.2 hp
    have hSo' : Sok V' S' := hN.Sok' hV
    have hPo' : Pok V' P' := hN.Pok' hV
    have hps' : psS S' ≤ B := hN.ps'
    have hq : Rq VB (ovr V' ((-1, -1, w, -1, false, l) : Ovr)) P P' L L' S0 S' := hN.Rq hO hV w l
    have hv : Rv VB V' ((-1, -1, w, -1, false, l) : Ovr) L L' S0 S' := ⟨hO, hq.2.1, hq.2.2.2.1, hq.2.2.2.2⟩
    refine ⟨(if ixB y1 (nhV VB) then (if y2 = nI 0 then cl (hav VB S0 (nN y1)) else if y2 = nI 1 then soS S0 (nN y1) else if y2 = nI 2 then stS S0 (nN y1) else if y2 = nI 3 then nI (gue VB S0 (nN y1)) else -2) else -2), (false, len, nx, kk, st, nu, nm, T, fk, pl, VA, XA, VB, XB, (S0, P, L, a, kp, Wn), Tt, b, Sl, W, F, hb, Q0, Q1, Q2), (V', D', len, T, k', f', fa', VR', XR', (S', P', L', a'), (w, l, lg, ll, Wj, Bj, fj, bp, G), K', kb', fn', hb, F', b'), (show R0 _ _ _ _ _ _ _ _ _ _ _ _ _ _ _ _ _ _ _ _ _ _ _ _ _ _ _ from hR.mono (by omega)), fun ad => ?_, fun ad => ?_⟩
    · exact lx_n0 E len nx kk st nu nm T fk pl VA XA VB XB (S0, P, L, a, kp, Wn) Tt b Sl W F hb Q0 Q1 Q2 (S0, P, L, a, kp, Wn) (fun ad r => x_house E ad r (bI hb) S0 P L a kp Wn VB XB y1 y2 hO (Sok.le hO hSo) hPl (by omega)) ad
    · exact Md.ans (lm_t E V' D' len T k' f' fa' VR' XR' (S', P', L', a') (w, l, lg, ll, Wj, Bj, fj, bp, G) K' kb' fn' hb F' b' (w, l, lg, ll, Wj, Bj, fj, bp, G) (S', P', L', a') (fun ad r i => m_house E ad r i V' w l lg ll Wj Bj fj bp G S' P' L' a' y1 y2 hO' (Sok.le hO' hSo') hPo' (by omega)) ad) (by
        rw [hnh]
        by_cases c : ixB y1 (nhV VB) = true
        · have c1 := ix_lt hh5 c
          have hS : Seq VB S0 S' := hN.1
          rw [if_pos c, if_pos c, hS.2.2.2.2.2.1 _ c1, hS.2.2.2.2.2.2 _ c1, hav_eq hO hq.2.1 hS c1, gue_eq hV hS c1]
        · rw [if_neg c, if_neg c])
  · have hR : R0 B VA XA len T fk pl (S0, P, L, a, kp, Wn) b W F hb Q0 Q1 Q2 V' D' tp' T' k' f' fa' (S', P', L', a') K' kb' hb' F' := hR
    obtain ⟨⟨ta, tb, tc, td, te⟩, ⟨hO, hV, hso, hst, hcl⟩, hN, ⟨s0, s1, s2⟩, ⟨fa1, fa2⟩, ⟨g1, g2, g3, g4⟩, ⟨l1, l2⟩⟩ := id hR
    subst tp' T' hb'
    have hO' : Vok V' := hO.eq' hV
    have hnp : npV V' = npV VA := hV.2.1.symm
    have hnh : nhV V' = nhV VA := hV.1.symm
    have hp5 : npV VA ≤ 5 := hO.2.1
    have hh5 : nhV VA ≤ 5 := hO.1
    have hSo : Sok VA S0 := hN.2.2.2.2.2.1
    have hPo : Pok VA P := hN.2.2.2.2.2.2.1
    have hPl : Ple P := hN.2.2.2.2.2.2.2.1
    have hps : psS S0 ≤ B := hN.2.2.2.2.2.2.2.2.1
    have hgb : ∀ W9 p, p < npV VA → Ib (ltS (gon VA L W9 S0) p) (-128) 127 := fun W9 p hp => gon_gb hO hN.2.2.2.2.2.2.2.2.2.1 hN.2.2.2.2.2.2.2.2.2.2 hp
    have hSo' : Sok V' S' := hN.Sok' hV
    have hPo' : Pok V' P' := hN.Pok' hV
    have hps' : psS S' ≤ B := hN.ps'
    have hq : Rq VA (ovr V' ((-1, -1, w, -1, false, l) : Ovr)) P P' L L' S0 S' := hN.Rq hO hV w l
    have hv : Rv VA V' ((-1, -1, w, -1, false, l) : Ovr) L L' S0 S' := ⟨hO, hq.2.1, hq.2.2.2.1, hq.2.2.2.2⟩
    refine ⟨(if ixB y1 (nhV VA) then (if y2 = nI 0 then cl (hav VA S0 (nN y1)) else if y2 = nI 1 then soS S0 (nN y1) else if y2 = nI 2 then stS S0 (nN y1) else if y2 = nI 3 then nI (gue VA S0 (nN y1)) else -2) else -2), (true, len, nx, kk, st, nu, nm, T, fk, pl, VA, XA, VB, XB, (S0, P, L, a, kp, Wn), Tt, b, Sl, W, F, hb, Q0, Q1, Q2), (V', D', len, T, k', f', fa', VR', XR', (S', P', L', a'), (w, l, lg, ll, Wj, Bj, fj, bp, G), K', kb', fn', hb, F', b'), (show R0 _ _ _ _ _ _ _ _ _ _ _ _ _ _ _ _ _ _ _ _ _ _ _ _ _ _ _ from hR.mono (by omega)), fun ad => ?_, fun ad => ?_⟩
    · exact lx_n1 E len nx kk st nu nm T fk pl VA XA VB XB (S0, P, L, a, kp, Wn) Tt b Sl W F hb Q0 Q1 Q2 (S0, P, L, a, kp, Wn) (fun ad r => x_house E ad r (bI hb) S0 P L a kp Wn VA XA y1 y2 hO (Sok.le hO hSo) hPl (by omega)) ad
    · exact Md.ans (lm_t E V' D' len T k' f' fa' VR' XR' (S', P', L', a') (w, l, lg, ll, Wj, Bj, fj, bp, G) K' kb' fn' hb F' b' (w, l, lg, ll, Wj, Bj, fj, bp, G) (S', P', L', a') (fun ad r i => m_house E ad r i V' w l lg ll Wj Bj fj bp G S' P' L' a' y1 y2 hO' (Sok.le hO' hSo') hPo' (by omega)) ad) (by
        rw [hnh]
        by_cases c : ixB y1 (nhV VA) = true
        · have c1 := ix_lt hh5 c
          have hS : Seq VA S0 S' := hN.1
          rw [if_pos c, if_pos c, hS.2.2.2.2.2.1 _ c1, hS.2.2.2.2.2.2 _ c1, hav_eq hO hq.2.1 hS c1, gue_eq hV hS c1]
        · rw [if_neg c, if_neg c])
set_option maxHeartbeats 4000000 in
set_option maxRecDepth 100000 in
theorem pr_word (E : EnvT) (B : Nat) (x : Xst) (m : Mst) (y1 : Int32) (hR : RR B x m) (hB : B < 2 ^ 28) : Pr E B mX9_word mX10_word [.int y1] x m := by
  obtain ⟨sw, len, nx, kk, st, nu, nm, T, fk, pl, VA, XA, VB, XB, ⟨S0, P, L, a, kp, Wn⟩, Tt, b, Sl, W, F, hb, Q0, Q1, Q2⟩ := x
  obtain ⟨V', D', tp', T', k', f', fa', VR', XR', ⟨S', P', L', a'⟩, ⟨w, l, lg, ll, Wj, Bj, fj, bp, G⟩, K', kb', fn', hb', F', b'⟩ := m
  cases sw
  · have hR : R0 B VB XB len T fk pl (S0, P, L, a, kp, Wn) b W F hb Q0 Q1 Q2 V' D' tp' T' k' f' fa' (S', P', L', a') K' kb' hb' F' := hR
    obtain ⟨⟨ta, tb, tc, td, te⟩, ⟨hO, hV, hso, hst, hcl⟩, hN, ⟨s0, s1, s2⟩, ⟨fa1, fa2⟩, ⟨g1, g2, g3, g4⟩, ⟨l1, l2⟩⟩ := id hR
    subst tp' T' hb'
    have hO' : Vok V' := hO.eq' hV
    have hnp : npV V' = npV VB := hV.2.1.symm
    have hnh : nhV V' = nhV VB := hV.1.symm
    have hp5 : npV VB ≤ 5 := hO.2.1
    have hh5 : nhV VB ≤ 5 := hO.1
    have hSo : Sok VB S0 := hN.2.2.2.2.2.1
    have hPo : Pok VB P := hN.2.2.2.2.2.2.1
    have hPl : Ple P := hN.2.2.2.2.2.2.2.1
    have hps : psS S0 ≤ B := hN.2.2.2.2.2.2.2.2.1
    have hgb : ∀ W9 p, p < npV VB → Ib (ltS (gon VB L W9 S0) p) (-128) 127 := fun W9 p hp => gon_gb hO hN.2.2.2.2.2.2.2.2.2.1 hN.2.2.2.2.2.2.2.2.2.2 hp
    have hSo' : Sok V' S' := hN.Sok' hV
    have hPo' : Pok V' P' := hN.Pok' hV
    have hps' : psS S' ≤ B := hN.ps'
    have hq : Rq VB (ovr V' ((-1, -1, w, -1, false, l) : Ovr)) P P' L L' S0 S' := hN.Rq hO hV w l
    have hv : Rv VB V' ((-1, -1, w, -1, false, l) : Ovr) L L' S0 S' := ⟨hO, hq.2.1, hq.2.2.2.1, hq.2.2.2.2⟩
    refine ⟨(if ixB y1 (nhV VB) then nI (wrd VB S0 (nN y1)) else -2), (false, len, nx, kk, st, nu, nm, T, fk, pl, VA, XA, VB, XB, (S0, P, L, a, kp, Wn), Tt, b, Sl, W, F, hb, Q0, Q1, Q2), (V', D', len, T, k', f', fa', VR', XR', (S', P', L', a'), (w, l, lg, ll, Wj, Bj, fj, bp, G), K', kb', fn', hb, F', b'), (show R0 _ _ _ _ _ _ _ _ _ _ _ _ _ _ _ _ _ _ _ _ _ _ _ _ _ _ _ from hR.mono (by omega)), fun ad => ?_, fun ad => ?_⟩
    · exact lx_n0 E len nx kk st nu nm T fk pl VA XA VB XB (S0, P, L, a, kp, Wn) Tt b Sl W F hb Q0 Q1 Q2 (S0, P, L, a, kp, Wn) (fun ad r => x_word E ad r (bI hb) S0 P L a kp Wn VB XB y1 hO (Sok.le hO hSo) hPl (by omega)) ad
    · exact Md.ans (lm_t E V' D' len T k' f' fa' VR' XR' (S', P', L', a') (w, l, lg, ll, Wj, Bj, fj, bp, G) K' kb' fn' hb F' b' (w, l, lg, ll, Wj, Bj, fj, bp, G) (S', P', L', a') (fun ad r i => m_word E ad r i V' w l lg ll Wj Bj fj bp G S' P' L' a' y1 hO' (Sok.le hO' hSo') hPo' (by omega)) ad) (by
        rw [hnh]
        by_cases c : ixB y1 (nhV VB) = true
        · rw [if_pos c, if_pos c, wrd_eq hO hq.2.1 hN.1 (ix_lt hh5 c)]
        · rw [if_neg c, if_neg c])
  · have hR : R0 B VA XA len T fk pl (S0, P, L, a, kp, Wn) b W F hb Q0 Q1 Q2 V' D' tp' T' k' f' fa' (S', P', L', a') K' kb' hb' F' := hR
    obtain ⟨⟨ta, tb, tc, td, te⟩, ⟨hO, hV, hso, hst, hcl⟩, hN, ⟨s0, s1, s2⟩, ⟨fa1, fa2⟩, ⟨g1, g2, g3, g4⟩, ⟨l1, l2⟩⟩ := id hR
    subst tp' T' hb'
    have hO' : Vok V' := hO.eq' hV
    have hnp : npV V' = npV VA := hV.2.1.symm
    have hnh : nhV V' = nhV VA := hV.1.symm
    have hp5 : npV VA ≤ 5 := hO.2.1
    have hh5 : nhV VA ≤ 5 := hO.1
    have hSo : Sok VA S0 := hN.2.2.2.2.2.1
    have hPo : Pok VA P := hN.2.2.2.2.2.2.1
    have hPl : Ple P := hN.2.2.2.2.2.2.2.1
    have hps : psS S0 ≤ B := hN.2.2.2.2.2.2.2.2.1
    have hgb : ∀ W9 p, p < npV VA → Ib (ltS (gon VA L W9 S0) p) (-128) 127 := fun W9 p hp => gon_gb hO hN.2.2.2.2.2.2.2.2.2.1 hN.2.2.2.2.2.2.2.2.2.2 hp
    have hSo' : Sok V' S' := hN.Sok' hV
    have hPo' : Pok V' P' := hN.Pok' hV
    have hps' : psS S' ≤ B := hN.ps'
    have hq : Rq VA (ovr V' ((-1, -1, w, -1, false, l) : Ovr)) P P' L L' S0 S' := hN.Rq hO hV w l
    have hv : Rv VA V' ((-1, -1, w, -1, false, l) : Ovr) L L' S0 S' := ⟨hO, hq.2.1, hq.2.2.2.1, hq.2.2.2.2⟩
    refine ⟨(if ixB y1 (nhV VA) then nI (wrd VA S0 (nN y1)) else -2), (true, len, nx, kk, st, nu, nm, T, fk, pl, VA, XA, VB, XB, (S0, P, L, a, kp, Wn), Tt, b, Sl, W, F, hb, Q0, Q1, Q2), (V', D', len, T, k', f', fa', VR', XR', (S', P', L', a'), (w, l, lg, ll, Wj, Bj, fj, bp, G), K', kb', fn', hb, F', b'), (show R0 _ _ _ _ _ _ _ _ _ _ _ _ _ _ _ _ _ _ _ _ _ _ _ _ _ _ _ from hR.mono (by omega)), fun ad => ?_, fun ad => ?_⟩
    · exact lx_n1 E len nx kk st nu nm T fk pl VA XA VB XB (S0, P, L, a, kp, Wn) Tt b Sl W F hb Q0 Q1 Q2 (S0, P, L, a, kp, Wn) (fun ad r => x_word E ad r (bI hb) S0 P L a kp Wn VA XA y1 hO (Sok.le hO hSo) hPl (by omega)) ad
    · exact Md.ans (lm_t E V' D' len T k' f' fa' VR' XR' (S', P', L', a') (w, l, lg, ll, Wj, Bj, fj, bp, G) K' kb' fn' hb F' b' (w, l, lg, ll, Wj, Bj, fj, bp, G) (S', P', L', a') (fun ad r i => m_word E ad r i V' w l lg ll Wj Bj fj bp G S' P' L' a' y1 hO' (Sok.le hO' hSo') hPo' (by omega)) ad) (by
        rw [hnh]
        by_cases c : ixB y1 (nhV VA) = true
        · rw [if_pos c, if_pos c, wrd_eq hO hq.2.1 hN.1 (ix_lt hh5 c)]
        · rw [if_neg c, if_neg c])
set_option maxHeartbeats 4000000 in
set_option maxRecDepth 100000 in
theorem pr_fault (E : EnvT) (B : Nat) (x : Xst) (m : Mst) (y1 : Int32) (hR : RR B x m) (hB : B < 2 ^ 28) : Pr E B mX9_fault mX10_fault [.int y1] x m := by
  obtain ⟨sw, len, nx, kk, st, nu, nm, T, fk, pl, VA, XA, VB, XB, ⟨S0, P, L, a, kp, Wn⟩, Tt, b, Sl, W, F, hb, Q0, Q1, Q2⟩ := x
  obtain ⟨V', D', tp', T', k', f', fa', VR', XR', ⟨S', P', L', a'⟩, ⟨w, l, lg, ll, Wj, Bj, fj, bp, G⟩, K', kb', fn', hb', F', b'⟩ := m
  cases sw
  · have hR : R0 B VB XB len T fk pl (S0, P, L, a, kp, Wn) b W F hb Q0 Q1 Q2 V' D' tp' T' k' f' fa' (S', P', L', a') K' kb' hb' F' := hR
    obtain ⟨⟨ta, tb, tc, td, te⟩, ⟨hO, hV, hso, hst, hcl⟩, hN, ⟨s0, s1, s2⟩, ⟨fa1, fa2⟩, ⟨g1, g2, g3, g4⟩, ⟨l1, l2⟩⟩ := id hR
    subst tp' T' hb'
    have hO' : Vok V' := hO.eq' hV
    have hnp : npV V' = npV VB := hV.2.1.symm
    have hnh : nhV V' = nhV VB := hV.1.symm
    have hp5 : npV VB ≤ 5 := hO.2.1
    have hh5 : nhV VB ≤ 5 := hO.1
    have hSo : Sok VB S0 := hN.2.2.2.2.2.1
    have hPo : Pok VB P := hN.2.2.2.2.2.2.1
    have hPl : Ple P := hN.2.2.2.2.2.2.2.1
    have hps : psS S0 ≤ B := hN.2.2.2.2.2.2.2.2.1
    have hgb : ∀ W9 p, p < npV VB → Ib (ltS (gon VB L W9 S0) p) (-128) 127 := fun W9 p hp => gon_gb hO hN.2.2.2.2.2.2.2.2.2.1 hN.2.2.2.2.2.2.2.2.2.2 hp
    have hSo' : Sok V' S' := hN.Sok' hV
    have hPo' : Pok V' P' := hN.Pok' hV
    have hps' : psS S' ≤ B := hN.ps'
    have hq : Rq VB (ovr V' ((-1, -1, w, -1, false, l) : Ovr)) P P' L L' S0 S' := hN.Rq hO hV w l
    have hv : Rv VB V' ((-1, -1, w, -1, false, l) : Ovr) L L' S0 S' := ⟨hO, hq.2.1, hq.2.2.2.1, hq.2.2.2.2⟩
    refine ⟨(if y1 = nI 0 then fk else if y1 = nI 1 then pl else -1), (false, len, nx, kk, st, nu, nm, T, fk, pl, VA, XA, VB, XB, (S0, P, L, a, kp, Wn), Tt, b, Sl, W, F, hb, Q0, Q1, Q2), (V', D', len, T, k', f', fa', VR', XR', (S', P', L', a'), (w, l, lg, ll, Wj, Bj, fj, bp, G), K', kb', fn', hb, F', b'), (show R0 _ _ _ _ _ _ _ _ _ _ _ _ _ _ _ _ _ _ _ _ _ _ _ _ _ _ _ from hR.mono (by omega)), fun ad => ?_, fun ad => ?_⟩
    · exact lx_f E false len nx kk st nu nm T fk pl VA XA VB XB (S0, P, L, a, kp, Wn) Tt b Sl W F hb Q0 Q1 Q2 (fun ad r t1 t2 => x_fault E ad r (bI hb) t1 t2 fk pl y1) ad
    · exact Md.ans (lm_a E V' D' len T k' f' fa' VR' XR' (S', P', L', a') (w, l, lg, ll, Wj, Bj, fj, bp, G) K' kb' fn' hb F' b' (fun ad r i => m_fault E ad r i (nI f') fa' y1) ad) (by
        rw [fa1, fa2])
  · have hR : R0 B VA XA len T fk pl (S0, P, L, a, kp, Wn) b W F hb Q0 Q1 Q2 V' D' tp' T' k' f' fa' (S', P', L', a') K' kb' hb' F' := hR
    obtain ⟨⟨ta, tb, tc, td, te⟩, ⟨hO, hV, hso, hst, hcl⟩, hN, ⟨s0, s1, s2⟩, ⟨fa1, fa2⟩, ⟨g1, g2, g3, g4⟩, ⟨l1, l2⟩⟩ := id hR
    subst tp' T' hb'
    have hO' : Vok V' := hO.eq' hV
    have hnp : npV V' = npV VA := hV.2.1.symm
    have hnh : nhV V' = nhV VA := hV.1.symm
    have hp5 : npV VA ≤ 5 := hO.2.1
    have hh5 : nhV VA ≤ 5 := hO.1
    have hSo : Sok VA S0 := hN.2.2.2.2.2.1
    have hPo : Pok VA P := hN.2.2.2.2.2.2.1
    have hPl : Ple P := hN.2.2.2.2.2.2.2.1
    have hps : psS S0 ≤ B := hN.2.2.2.2.2.2.2.2.1
    have hgb : ∀ W9 p, p < npV VA → Ib (ltS (gon VA L W9 S0) p) (-128) 127 := fun W9 p hp => gon_gb hO hN.2.2.2.2.2.2.2.2.2.1 hN.2.2.2.2.2.2.2.2.2.2 hp
    have hSo' : Sok V' S' := hN.Sok' hV
    have hPo' : Pok V' P' := hN.Pok' hV
    have hps' : psS S' ≤ B := hN.ps'
    have hq : Rq VA (ovr V' ((-1, -1, w, -1, false, l) : Ovr)) P P' L L' S0 S' := hN.Rq hO hV w l
    have hv : Rv VA V' ((-1, -1, w, -1, false, l) : Ovr) L L' S0 S' := ⟨hO, hq.2.1, hq.2.2.2.1, hq.2.2.2.2⟩
    refine ⟨(if y1 = nI 0 then fk else if y1 = nI 1 then pl else -1), (true, len, nx, kk, st, nu, nm, T, fk, pl, VA, XA, VB, XB, (S0, P, L, a, kp, Wn), Tt, b, Sl, W, F, hb, Q0, Q1, Q2), (V', D', len, T, k', f', fa', VR', XR', (S', P', L', a'), (w, l, lg, ll, Wj, Bj, fj, bp, G), K', kb', fn', hb, F', b'), (show R0 _ _ _ _ _ _ _ _ _ _ _ _ _ _ _ _ _ _ _ _ _ _ _ _ _ _ _ from hR.mono (by omega)), fun ad => ?_, fun ad => ?_⟩
    · exact lx_f E true len nx kk st nu nm T fk pl VA XA VB XB (S0, P, L, a, kp, Wn) Tt b Sl W F hb Q0 Q1 Q2 (fun ad r t1 t2 => x_fault E ad r (bI hb) t1 t2 fk pl y1) ad
    · exact Md.ans (lm_a E V' D' len T k' f' fa' VR' XR' (S', P', L', a') (w, l, lg, ll, Wj, Bj, fj, bp, G) K' kb' fn' hb F' b' (fun ad r i => m_fault E ad r i (nI f') fa' y1) ad) (by
        rw [fa1, fa2])
set_option maxHeartbeats 4000000 in
set_option maxRecDepth 100000 in
theorem pr_count (E : EnvT) (B : Nat) (x : Xst) (m : Mst) (y1 : Int32) (hR : RR B x m) (hB : B < 2 ^ 28) : Pr E B mX9_count mX10_count [.int y1] x m := by
  obtain ⟨sw, len, nx, kk, st, nu, nm, T, fk, pl, VA, XA, VB, XB, ⟨S0, P, L, a, kp, Wn⟩, Tt, b, Sl, W, F, hb, Q0, Q1, Q2⟩ := x
  obtain ⟨V', D', tp', T', k', f', fa', VR', XR', ⟨S', P', L', a'⟩, ⟨w, l, lg, ll, Wj, Bj, fj, bp, G⟩, K', kb', fn', hb', F', b'⟩ := m
  cases sw
  · have hR : R0 B VB XB len T fk pl (S0, P, L, a, kp, Wn) b W F hb Q0 Q1 Q2 V' D' tp' T' k' f' fa' (S', P', L', a') K' kb' hb' F' := hR
    obtain ⟨⟨ta, tb, tc, td, te⟩, ⟨hO, hV, hso, hst, hcl⟩, hN, ⟨s0, s1, s2⟩, ⟨fa1, fa2⟩, ⟨g1, g2, g3, g4⟩, ⟨l1, l2⟩⟩ := id hR
    subst tp' T' hb'
    have hO' : Vok V' := hO.eq' hV
    have hnp : npV V' = npV VB := hV.2.1.symm
    have hnh : nhV V' = nhV VB := hV.1.symm
    have hp5 : npV VB ≤ 5 := hO.2.1
    have hh5 : nhV VB ≤ 5 := hO.1
    have hSo : Sok VB S0 := hN.2.2.2.2.2.1
    have hPo : Pok VB P := hN.2.2.2.2.2.2.1
    have hPl : Ple P := hN.2.2.2.2.2.2.2.1
    have hps : psS S0 ≤ B := hN.2.2.2.2.2.2.2.2.1
    have hgb : ∀ W9 p, p < npV VB → Ib (ltS (gon VB L W9 S0) p) (-128) 127 := fun W9 p hp => gon_gb hO hN.2.2.2.2.2.2.2.2.2.1 hN.2.2.2.2.2.2.2.2.2.2 hp
    have hSo' : Sok V' S' := hN.Sok' hV
    have hPo' : Pok V' P' := hN.Pok' hV
    have hps' : psS S' ≤ B := hN.ps'
    have hq : Rq VB (ovr V' ((-1, -1, w, -1, false, l) : Ovr)) P P' L L' S0 S' := hN.Rq hO hV w l
    have hv : Rv VB V' ((-1, -1, w, -1, false, l) : Ovr) L L' S0 S' := ⟨hO, hq.2.1, hq.2.2.2.1, hq.2.2.2.2⟩
    refine ⟨(if y1 = nI 0 then XB.1 else if y1 = nI 1 then nI (psS S0) else if y1 = nI 2 then nI len else -1), (false, len, nx, kk, st, nu, nm, T, fk, pl, VA, XA, VB, XB, (S0, P, L, a, kp, Wn), Tt, b, Sl, W, F, hb, Q0, Q1, Q2), (V', D', len, T, k', f', fa', VR', XR', (S', P', L', a'), (w, l, lg, ll, Wj, Bj, fj, bp, G), K', kb', fn', hb, F', b'), (show R0 _ _ _ _ _ _ _ _ _ _ _ _ _ _ _ _ _ _ _ _ _ _ _ _ _ _ _ from hR.mono (by omega)), fun ad => ?_, fun ad => ?_⟩
    · exact lx_p0 E len nx kk st nu nm T fk pl VA XA VB XB (S0, P, L, a, kp, Wn) Tt b Sl W F hb Q0 Q1 Q2 hb len T (S0, P, L, a, kp, Wn) F (fun ad r => x_count E ad r hb len (nI nx, nI kk, nI st, nI nu) (lN nm) T S0 P L a kp Wn VB XB F y1 ) ad
    · exact Md.ans (lm_c E V' D' len T k' f' fa' VR' XR' (S', P', L', a') (w, l, lg, ll, Wj, Bj, fj, bp, G) K' kb' fn' hb F' b' (fun c => if y1 = nI 0 then c else if y1 = nI 1 then nI (psS S') else if y1 = nI 2 then nI len else -1) (fun ad r i => m_count E ad r i len S' P' L' a' y1) ad) (by
        rw [← hcl]
        have e : psS S0 = psS S' := hN.1.1
        rw [e])
  · have hR : R0 B VA XA len T fk pl (S0, P, L, a, kp, Wn) b W F hb Q0 Q1 Q2 V' D' tp' T' k' f' fa' (S', P', L', a') K' kb' hb' F' := hR
    obtain ⟨⟨ta, tb, tc, td, te⟩, ⟨hO, hV, hso, hst, hcl⟩, hN, ⟨s0, s1, s2⟩, ⟨fa1, fa2⟩, ⟨g1, g2, g3, g4⟩, ⟨l1, l2⟩⟩ := id hR
    subst tp' T' hb'
    have hO' : Vok V' := hO.eq' hV
    have hnp : npV V' = npV VA := hV.2.1.symm
    have hnh : nhV V' = nhV VA := hV.1.symm
    have hp5 : npV VA ≤ 5 := hO.2.1
    have hh5 : nhV VA ≤ 5 := hO.1
    have hSo : Sok VA S0 := hN.2.2.2.2.2.1
    have hPo : Pok VA P := hN.2.2.2.2.2.2.1
    have hPl : Ple P := hN.2.2.2.2.2.2.2.1
    have hps : psS S0 ≤ B := hN.2.2.2.2.2.2.2.2.1
    have hgb : ∀ W9 p, p < npV VA → Ib (ltS (gon VA L W9 S0) p) (-128) 127 := fun W9 p hp => gon_gb hO hN.2.2.2.2.2.2.2.2.2.1 hN.2.2.2.2.2.2.2.2.2.2 hp
    have hSo' : Sok V' S' := hN.Sok' hV
    have hPo' : Pok V' P' := hN.Pok' hV
    have hps' : psS S' ≤ B := hN.ps'
    have hq : Rq VA (ovr V' ((-1, -1, w, -1, false, l) : Ovr)) P P' L L' S0 S' := hN.Rq hO hV w l
    have hv : Rv VA V' ((-1, -1, w, -1, false, l) : Ovr) L L' S0 S' := ⟨hO, hq.2.1, hq.2.2.2.1, hq.2.2.2.2⟩
    refine ⟨(if y1 = nI 0 then XA.1 else if y1 = nI 1 then nI (psS S0) else if y1 = nI 2 then nI len else -1), (true, len, nx, kk, st, nu, nm, T, fk, pl, VA, XA, VB, XB, (S0, P, L, a, kp, Wn), Tt, b, Sl, W, F, hb, Q0, Q1, Q2), (V', D', len, T, k', f', fa', VR', XR', (S', P', L', a'), (w, l, lg, ll, Wj, Bj, fj, bp, G), K', kb', fn', hb, F', b'), (show R0 _ _ _ _ _ _ _ _ _ _ _ _ _ _ _ _ _ _ _ _ _ _ _ _ _ _ _ from hR.mono (by omega)), fun ad => ?_, fun ad => ?_⟩
    · exact lx_p1 E len nx kk st nu nm T fk pl VA XA VB XB (S0, P, L, a, kp, Wn) Tt b Sl W F hb Q0 Q1 Q2 hb len T (S0, P, L, a, kp, Wn) F (fun ad r => x_count E ad r hb len (nI nx, nI kk, nI st, nI nu) (lN nm) T S0 P L a kp Wn VA XA F y1 ) ad
    · exact Md.ans (lm_c E V' D' len T k' f' fa' VR' XR' (S', P', L', a') (w, l, lg, ll, Wj, Bj, fj, bp, G) K' kb' fn' hb F' b' (fun c => if y1 = nI 0 then c else if y1 = nI 1 then nI (psS S') else if y1 = nI 2 then nI len else -1) (fun ad r i => m_count E ad r i len S' P' L' a' y1) ad) (by
        rw [← hcl]
        have e : psS S0 = psS S' := hN.1.1
        rw [e])
