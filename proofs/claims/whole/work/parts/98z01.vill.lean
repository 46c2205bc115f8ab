/-! PAIRS: villages -/
theorem begN {V : Vil} {X : Vix} {nh np : Nat} {so st : Nat → Int32} {ho : Nat → Nat} (hO : Vok V) (h1 : nhV V = nh) (h2 : npV V = np) (h3 : ∀ p, p < npV V → hoV V p = ho p) (hso : ∀ h, h < nhV V → X.2.2.2.2.1 h = so h) (hst : ∀ h, h < nhV V → X.2.2.2.2.2.1 h = st h) : Seq V (sBeg V X) (bgS nh np so st ho) := beg_eq (V0 := (nh, np, laV V, ruV V, woV V, owV V, ho, wkV V, tiV V)) hO ⟨h1, h2, rfl, fun _ _ => rfl, fun _ _ => rfl, fun _ _ => rfl, h3, fun _ _ => rfl, fun _ _ _ _ => rfl⟩ hso hst
theorem pbegN {V : Vil} {np : Nat} {ho : Nat → Nat} (hO : Vok V) (h2 : npV V = np) (h3 : ∀ p, p < npV V → hoV V p = ho p) : ∀ p q, p < npV V → q < 4 → pBeg V (p * 4 + q) = bpP np ho (fun _ => 0) 5 (p * 4 + q) := pbeg_eq (V0 := (nhV V, np, laV V, ruV V, woV V, owV V, ho, wkV V, tiV V)) hO ⟨rfl, h2, rfl, fun _ _ => rfl, fun _ _ => rfl, fun _ _ => rfl, h3, fun _ _ => rfl, fun _ _ _ _ => rfl⟩
set_option maxHeartbeats 4000000 in
set_option maxRecDepth 100000 in
theorem pr_village (E : EnvT) (B : Nat) (x : Xst) (m : Mst)  (hR : RR B x m) (hB : B < 2 ^ 28) : Pr E B mX9_village mX10_village [] x m := by
  obtain ⟨sw, len, nx, kk, st, nu, nm, T, fk, pl, VA, XA, VB, XB, ⟨S0, P, L, a, kp, Wn⟩, Tt, b, Sl, W, F, hb, Q0, Q1, Q2⟩ := x
  obtain ⟨V', D', tp', T', k', f', fa', VR', XR', ⟨S', P', L', a'⟩, ⟨w, l, lg, ll, Wj, Bj, fj, bp, G⟩, K', kb', fn', hb', F', b'⟩ := m
  cases sw
  · have hR : R0 B VB XB len T fk pl (S0, P, L, a, kp, Wn) b W F hb Q0 Q1 Q2 V' D' tp' T' k' f' fa' (S', P', L', a') K' kb' hb' F' := hR
    obtain ⟨⟨ta, tb, tc, td, te⟩, ⟨hO, hV, hso, hst, hcl⟩, hN, ⟨s0, s1, s2⟩, ⟨fa1, fa2⟩, ⟨g1, g2, g3, g4⟩, ⟨l1, l2⟩⟩ := id hR
    subst tp' T' hb'
    have hO' : Vok V' := hO.eq' hV
    have hnp : npV V' = npV VB := hV.2.1.symm
    have hnh : nhV V' = nhV VB := hV.1.symm
    have hp5 : npV VB ≤ 5 := hO.2.1
    have hh5 : nhV VB ≤ 5 := hO.1
    have hSo : Sok VB S0 := hN.2.2.2.2.2.1
    have hPo : Pok VB P := hN.2.2.2.2.2.2.1
    have hPl : Ple P := hN.2.2.2.2.2.2.2.1
    have hps : psS S0 ≤ B := hN.2.2.2.2.2.2.2.2.1
    have hgb : ∀ W9 p, p < npV VB → Ib (ltS (gon VB L W9 S0) p) (-128) 127 := fun W9 p hp => gon_gb hO hN.2.2.2.2.2.2.2.2.2.1 hN.2.2.2.2.2.2.2.2.2.2 hp
    have hSo' : Sok V' S' := hN.Sok' hV
    have hPo' : Pok V' P' := hN.Pok' hV
    have hps' : psS S' ≤ B := hN.ps'
    have hq : Rq VB (ovr V' ((-1, -1, w, -1, false, l) : Ovr)) P P' L L' S0 S' := hN.Rq hO hV w l
    have hv : Rv VB V' ((-1, -1, w, -1, false, l) : Ovr) L L' S0 S' := ⟨hO, hq.2.1, hq.2.2.2.1, hq.2.2.2.2⟩
    obtain ⟨z, hz⟩ : ∃ z, z = tlA T len VA XA := ⟨_, rfl⟩
    obtain ⟨⟨b0, y⟩, hy⟩ : ∃ w9, rVF T (len + 1) (rV0 ((p0F len, tkV T len 0 k'.2.2.2.2.1, k'.2.2.2.2.2, VR', XR', 0, -1) : Rst len)) = w9 := ⟨_, rfl⟩
    have hT9 : ∀ k, k < 900 → T k < 256 := fun k _ => td k
    have hou := ou_vil td tb VA XA VR' XR' k'.2.2.2.2.1 te k'.2.2.2.2.2
    rw [← hz, hy] at hou
    rcases hou with ⟨o1, o2⟩ | ⟨o1, o2⟩
    · have o1 : b0 = true := o1
      have h0 : z.2.2.2.1 = 0 := o2.2.1
      have vr : Vr z.2.1 z.2.2.1 y.2.2.2.1 y.2.2.2.2.1 := o2.2.2.2.2
      have hf0 : y.2.2.2.2.2.1 = 0 := o2.2.2.1.2.1
      have hfa : z.2.2.2.2 = y.2.2.2.2.2.2 := o2.2.2.1.2.2
      have vO : Vok z.2.1 := vr.2.2.2.2.2
      have vE : Veq z.2.1 (nhV y.2.2.2.1, npV y.2.2.2.1, laV y.2.2.2.1, pre (ruV y.2.2.2.1) (ruV V') 6, pre (woV y.2.2.2.1) (woV V') (nhV y.2.2.2.1), pre (owV y.2.2.2.1) (owV V') (nhV y.2.2.2.1), pre (hoV y.2.2.2.1) (hoV V') (npV y.2.2.2.1), pre (wkV y.2.2.2.1) (wkV V') (npV y.2.2.2.1), pre (tiR (npV y.2.2.2.1) (tiV y.2.2.2.1)) (tiV V') 25) := (by
        refine ⟨vr.1.1, vr.1.2.1, vr.1.2.2.1, fun j hj => ?_, fun h hh => ?_, fun h hh => ?_, fun p hp => ?_, fun p hp => ?_, fun p q hp hq => ?_⟩
        · rw [vr.2.1.1 j hj]; exact (pre_n hj).symm
        · rw [vr.2.1.2.1 h hh]; exact (pre_n (by rw [← vr.1.1]; exact hh)).symm
        · rw [vr.2.1.2.2.1 h hh]; exact (pre_n (by rw [← vr.1.1]; exact hh)).symm
        · rw [vr.2.1.2.2.2.1 p hp]; exact (pre_n (by rw [← vr.1.2.1]; exact hp)).symm
        · rw [vr.2.1.2.2.2.2.1 p hp]; exact (pre_n (by rw [← vr.1.2.1]; exact hp)).symm
        · have h5 := vr.1.2.2.2.2.1
          rw [vr.2.1.2.2.2.2.2 p q hp (by omega)]
          have e : pre (tiR (npV y.2.2.2.1) (tiV y.2.2.2.1)) (tiV V') 25 (p * 5 + q) = tiV y.2.2.2.1 (p * 5 + q) := by
            rw [pre_n (by omega)]
            unfold tiR
            rw [if_pos (by rw [← vr.1.2.1]; omega)]
          exact e.symm)
      have h1 : nhV y.2.2.2.1 ≤ 5 := by rw [← vr.1.1]; exact vr.1.2.2.2.1
      have h2 : npV y.2.2.2.1 ≤ 5 := by rw [← vr.1.2.1]; exact vr.1.2.2.2.2.1
      have h3 : ∀ p, p < npV y.2.2.2.1 → hoV y.2.2.2.1 p ≤ 5 := fun p hp => by
        rw [← vr.1.2.1] at hp
        rw [← vr.2.1.2.2.2.1 p hp]
        have := vO.2.2.2.1 p hp
        have := vO.1
        omega
      have hso2 : ∀ h, h < nhV z.2.1 → z.2.2.1.2.2.2.2.1 h = (pre y.2.2.2.2.1.2.2.2.2.1 D'.1 (nhV y.2.2.2.1)) h := fun h hh => by rw [vr.2.2.1.1 h hh]; exact (pre_n (by rw [← vr.1.1]; exact hh)).symm
      have hst2 : ∀ h, h < nhV z.2.1 → z.2.2.1.2.2.2.2.2.1 h = (pre y.2.2.2.2.1.2.2.2.2.2.1 D'.2.1 (nhV y.2.2.2.1)) h := fun h hh => by rw [vr.2.2.1.2.1 h hh]; exact (pre_n (by rw [← vr.1.1]; exact hh)).symm
      have hnp2 : npV z.2.1 = npV y.2.2.2.1 := vr.1.2.1
      have hho2 : ∀ p, p < npV z.2.1 → hoV z.2.1 p = pre (hoV y.2.2.2.1) (hoV V') (npV y.2.2.2.1) p := fun p hp => by rw [vr.2.1.2.2.2.1 p hp]; exact (pre_n (by rw [← vr.1.2.1]; exact hp)).symm
      have hRn : Rn (B + 400) z.2.1 (sBeg z.2.1 z.2.2.1) (pBeg z.2.1) (fun _ => nI 31) a (bgS (nhV y.2.2.2.1) (npV y.2.2.2.1) (pre y.2.2.2.2.1.2.2.2.2.1 D'.1 (nhV y.2.2.2.1)) (pre y.2.2.2.2.1.2.2.2.2.2.1 D'.2.1 (nhV y.2.2.2.1)) (pre (hoV y.2.2.2.1) (hoV V') (npV y.2.2.2.1)), bpP (npV y.2.2.2.1) (pre (hoV y.2.2.2.1) (hoV V') (npV y.2.2.2.1)) (fun _ => 0) 5, bpL (fun _ => 0) 5, a') := by
        refine ⟨begN vO vr.1.1 hnp2 hho2 hso2 hst2, pbegN vO hnp2 hho2, fun p hp => ?_, hN.2.2.2.1, hN.2.2.2.2.1, fun p hp => vO.2.2.2.1 p hp, fun p hp q hq => ?_, fun j hj => ?_, Nat.zero_le _, vr.1.2.2.2.2.2.2.1, vr.1.2.2.2.2.2.2.2⟩
        · show nI 31 = bpL (fun _ => 0) 5 p
          rw [bpL_at _ 5 p (by have := vO.2.1; omega)]
        · have e : pBeg z.2.1 (p * 4 + q) = hoV z.2.1 p := by show hoV z.2.1 ((p * 4 + q) / 4) = _; rw [show (p * 4 + q) / 4 = p by omega]
          rw [e]
          exact vO.2.2.2.1 p hp
        · show hoV z.2.1 (j / 4) ≤ 5
          by_cases cj : j / 4 < npV z.2.1
          · have := vO.2.2.2.1 _ cj
            have := vO.1
            omega
          · rw [vr.2.2.2.2.1.2.1 _ (by omega)]; exact Nat.le_refl _
      have hfk : (nI z.2.2.2.1) = nI y.2.2.2.2.2.1 := by rw [h0, hf0]
      have hyv : y.2.1 < 100000 := o2.2.2.2.1
      refine ⟨z.2.2.1.1, (true, 0, (tkE T len z.1.1), (tkK T len z.1.1), (tkS T len z.1.1), (tkN T len z.1.1), (tkM T len z.1.1), T, (nI z.2.2.2.1), z.2.2.2.2, z.2.1, z.2.2.1, VB, XB, (bgQ z.2.1 z.2.2.1 (S0, P, L, a, kp, Wn)), Tt, b, Sl, W, F, false, (unQ Q0), (unQ Q1), (unQ Q2)), ((nhV y.2.2.2.1, npV y.2.2.2.1, laV y.2.2.2.1, pre (ruV y.2.2.2.1) (ruV V') 6, pre (woV y.2.2.2.1) (woV V') (nhV y.2.2.2.1), pre (owV y.2.2.2.1) (owV V') (nhV y.2.2.2.1), pre (hoV y.2.2.2.1) (hoV V') (npV y.2.2.2.1), pre (wkV y.2.2.2.1) (wkV V') (npV y.2.2.2.1), pre (tiR (npV y.2.2.2.1) (tiV y.2.2.2.1)) (tiV V') 25), (pre y.2.2.2.2.1.2.2.2.2.1 D'.1 (nhV y.2.2.2.1), pre y.2.2.2.2.1.2.2.2.2.2.1 D'.2.1 (nhV y.2.2.2.1), y.2.2.2.2.1.1), 0, T, (len, tkS T len y.1.1, tkE T len y.1.1, tkH T len y.1.1, y.2.1, y.2.2.1), y.2.2.2.2.2.1, y.2.2.2.2.2.2, y.2.2.2.1, y.2.2.2.2.1, (bgS (nhV y.2.2.2.1) (npV y.2.2.2.1) (pre y.2.2.2.2.1.2.2.2.2.1 D'.1 (nhV y.2.2.2.1)) (pre y.2.2.2.2.1.2.2.2.2.2.1 D'.2.1 (nhV y.2.2.2.1)) (pre (hoV y.2.2.2.1) (hoV V') (npV y.2.2.2.1)), bpP (npV y.2.2.2.1) (pre (hoV y.2.2.2.1) (hoV V') (npV y.2.2.2.1)) (fun _ => 0) 5, bpL (fun _ => 0) 5, a'), (w, l, lg, ll, Wj, Bj, fj, bp, G), K', (pre (fun _ => false) kb' 3), fn', false, F', b'), (show R0 _ _ _ _ _ _ _ _ _ _ _ _ _ _ _ _ _ _ _ _ _ _ _ _ _ _ _ from ⟨⟨rfl, Nat.zero_le _, rfl, td, hyv⟩, ⟨vO, vE, hso2, hst2, vr.1.2.2.2.2.2.1⟩, hRn, ⟨⟨rfl, fun zz => absurd (show false = true from zz) nft⟩, ⟨rfl, fun zz => absurd (show false = true from zz) nft⟩, ⟨rfl, fun zz => absurd (show false = true from zz) nft⟩⟩, ⟨hfk, hfa⟩, ⟨rfl, fun zz => absurd (show false = true from zz) nft, g3, g4⟩, ⟨l1, l2⟩⟩), fun ad => ?_, fun ad => ?_⟩
      · exact lx_wY0 E len nx kk st nu nm T fk pl VA XA VB XB (S0, P, L, a, kp, Wn) Tt b Sl W F hb Q0 Q1 Q2 false (nI z.2.2.2.1) z.2.2.2.2 0 (tkE T len z.1.1) (tkK T len z.1.1) (tkS T len z.1.1) (tkN T len z.1.1) (tkM T len z.1.1) z.2.1 z.2.2.1 (bgQ z.2.1 z.2.2.1 (S0, P, L, a, kp, Wn)) (unQ Q0) (unQ Q1) (unQ Q2) (fun ad r => by
          have h := x_village E ad r (bI hb) fk pl len nx kk st nu nm T VA XA VB XB (S0, P, L, a, kp, Wn) Q0 Q1 Q2 tb hT9 z hz
          rw [if_pos h0, if_pos h0] at h
          exact h) ad
      · exact Md.ans (m_villageY E ad V' D' len T k' f' fa' VR' XR' (S', P', L', a') (w, l, lg, ll, Wj, Bj, fj, bp, G) K' kb' fn' hb F' b' tb td te y b0 hy o1 h1 h2 h3) vr.1.2.2.2.2.2.1.symm
    · have o1 : b0 = false := o1
      have h0 : ¬ z.2.2.2.1 = 0 := o2.1
      refine ⟨-1, (false, 0, (tkE T len z.1.1), (tkK T len z.1.1), (tkS T len z.1.1), (tkN T len z.1.1), (tkM T len z.1.1), T, (nI z.2.2.2.1), z.2.2.2.2, z.2.1, z.2.2.1, VB, XB, (S0, P, L, a, kp, Wn), Tt, b, Sl, W, F, hb, Q0, Q1, Q2), (V', D', 0, T, (len, tkS T len y.1.1, tkE T len y.1.1, tkH T len y.1.1, y.2.1, y.2.2.1), y.2.2.2.2.2.1, y.2.2.2.2.2.2, y.2.2.2.1, y.2.2.2.2.1, (S', P', L', a'), (w, l, lg, ll, Wj, Bj, fj, bp, G), K', kb', fn', hb, F', b'), (show R0 _ _ _ _ _ _ _ _ _ _ _ _ _ _ _ _ _ _ _ _ _ _ _ _ _ _ _ from ⟨⟨rfl, Nat.zero_le _, rfl, td, ?_⟩, ⟨hO, hV, hso, hst, hcl⟩, hN.mono (by omega), ⟨s0.mono (by omega), s1.mono (by omega), s2.mono (by omega)⟩, ⟨(by rw [o2.2.1]), o2.2.2⟩, ⟨rfl, g2, g3, g4⟩, ⟨l1, l2⟩⟩), fun ad => ?_, fun ad => ?_⟩
      · exact rVF_v td te hy
      · exact lx_wN0 E len nx kk st nu nm T fk pl VA XA VB XB (S0, P, L, a, kp, Wn) Tt b Sl W F hb Q0 Q1 Q2 hb (nI z.2.2.2.1) z.2.2.2.2 0 (tkE T len z.1.1) (tkK T len z.1.1) (tkS T len z.1.1) (tkN T len z.1.1) (tkM T len z.1.1) z.2.1 z.2.2.1 (S0, P, L, a, kp, Wn) Q0 Q1 Q2 (fun ad r => by
          have h := x_village E ad r (bI hb) fk pl len nx kk st nu nm T VA XA VB XB (S0, P, L, a, kp, Wn) Q0 Q1 Q2 tb hT9 z hz
          rw [if_neg h0, if_neg h0] at h
          exact h) ad
      · exact m_villageN E ad V' D' len T k' f' fa' VR' XR' (S', P', L', a') (w, l, lg, ll, Wj, Bj, fj, bp, G) K' kb' fn' hb F' b' tb td te y b0 hy o1
  · have hR : R0 B VA XA len T fk pl (S0, P, L, a, kp, Wn) b W F hb Q0 Q1 Q2 V' D' tp' T' k' f' fa' (S', P', L', a') K' kb' hb' F' := hR
    obtain ⟨⟨ta, tb, tc, td, te⟩, ⟨hO, hV, hso, hst, hcl⟩, hN, ⟨s0, s1, s2⟩, ⟨fa1, fa2⟩, ⟨g1, g2, g3, g4⟩, ⟨l1, l2⟩⟩ := id hR
    subst tp' T' hb'
    have hO' : Vok V' := hO.eq' hV
    have hnp : npV V' = npV VA := hV.2.1.symm
    have hnh : nhV V' = nhV VA := hV.1.symm
    have hp5 : npV VA ≤ 5 := hO.2.1
    have hh5 : nhV VA ≤ 5 := hO.1
    have hSo : Sok VA S0 := hN.2.2.2.2.2.1
    have hPo : Pok VA P := hN.2.2.2.2.2.2.1
    have hPl : Ple P := hN.2.2.2.2.2.2.2.1
    have hps : psS S0 ≤ B := hN.2.2.2.2.2.2.2.2.1
    have hgb : ∀ W9 p, p < npV VA → Ib (ltS (gon VA L W9 S0) p) (-128) 127 := fun W9 p hp => gon_gb hO hN.2.2.2.2.2.2.2.2.2.1 hN.2.2.2.2.2.2.2.2.2.2 hp
    have hSo' : Sok V' S' := hN.Sok' hV
    have hPo' : Pok V' P' := hN.Pok' hV
    have hps' : psS S' ≤ B := hN.ps'
    have hq : Rq VA (ovr V' ((-1, -1, w, -1, false, l) : Ovr)) P P' L L' S0 S' := hN.Rq hO hV w l
    have hv : Rv VA V' ((-1, -1, w, -1, false, l) : Ovr) L L' S0 S' := ⟨hO, hq.2.1, hq.2.2.2.1, hq.2.2.2.2⟩
    obtain ⟨z, hz⟩ : ∃ z, z = tlA T len VB XB := ⟨_, rfl⟩
    obtain ⟨⟨b0, y⟩, hy⟩ : ∃ w9, rVF T (len + 1) (rV0 ((p0F len, tkV T len 0 k'.2.2.2.2.1, k'.2.2.2.2.2, VR', XR', 0, -1) : Rst len)) = w9 := ⟨_, rfl⟩
    have hT9 : ∀ k, k < 900 → T k < 256 := fun k _ => td k
    have hou := ou_vil td tb VB XB VR' XR' k'.2.2.2.2.1 te k'.2.2.2.2.2
    rw [← hz, hy] at hou
    rcases hou with ⟨o1, o2⟩ | ⟨o1, o2⟩
    · have o1 : b0 = true := o1
      have h0 : z.2.2.2.1 = 0 := o2.2.1
      have vr : Vr z.2.1 z.2.2.1 y.2.2.2.1 y.2.2.2.2.1 := o2.2.2.2.2
      have hf0 : y.2.2.2.2.2.1 = 0 := o2.2.2.1.2.1
      have hfa : z.2.2.2.2 = y.2.2.2.2.2.2 := o2.2.2.1.2.2
      have vO : Vok z.2.1 := vr.2.2.2.2.2
      have vE : Veq z.2.1 (nhV y.2.2.2.1, npV y.2.2.2.1, laV y.2.2.2.1, pre (ruV y.2.2.2.1) (ruV V') 6, pre (woV y.2.2.2.1) (woV V') (nhV y.2.2.2.1), pre (owV y.2.2.2.1) (owV V') (nhV y.2.2.2.1), pre (hoV y.2.2.2.1) (hoV V') (npV y.2.2.2.1), pre (wkV y.2.2.2.1) (wkV V') (npV y.2.2.2.1), pre (tiR (npV y.2.2.2.1) (tiV y.2.2.2.1)) (tiV V') 25) := (by
        refine ⟨vr.1.1, vr.1.2.1, vr.1.2.2.1, fun j hj => ?_, fun h hh => ?_, fun h hh => ?_, fun p hp => ?_, fun p hp => ?_, fun p q hp hq => ?_⟩
        · rw [vr.2.1.1 j hj]; exact (pre_n hj).symm
        · rw [vr.2.1.2.1 h hh]; exact (pre_n (by rw [← vr.1.1]; exact hh)).symm
        · rw [vr.2.1.2.2.1 h hh]; exact (pre_n (by rw [← vr.1.1]; exact hh)).symm
        · rw [vr.2.1.2.2.2.1 p hp]; exact (pre_n (by rw [← vr.1.2.1]; exact hp)).symm
        · rw [vr.2.1.2.2.2.2.1 p hp]; exact (pre_n (by rw [← vr.1.2.1]; exact hp)).symm
        · have h5 := vr.1.2.2.2.2.1
          rw [vr.2.1.2.2.2.2.2 p q hp (by omega)]
          have e : pre (tiR (npV y.2.2.2.1) (tiV y.2.2.2.1)) (tiV V') 25 (p * 5 + q) = tiV y.2.2.2.1 (p * 5 + q) := by
            rw [pre_n (by omega)]
            unfold tiR
            rw [if_pos (by rw [← vr.1.2.1]; omega)]
          exact e.symm)
      have h1 : nhV y.2.2.2.1 ≤ 5 := by rw [← vr.1.1]; exact vr.1.2.2.2.1
      have h2 : npV y.2.2.2.1 ≤ 5 := by rw [← vr.1.2.1]; exact vr.1.2.2.2.2.1
      have h3 : ∀ p, p < npV y.2.2.2.1 → hoV y.2.2.2.1 p ≤ 5 := fun p hp => by
        rw [← vr.1.2.1] at hp
        rw [← vr.2.1.2.2.2.1 p hp]
        have := vO.2.2.2.1 p hp
        have := vO.1
        omega
      have hso2 : ∀ h, h < nhV z.2.1 → z.2.2.1.2.2.2.2.1 h = (pre y.2.2.2.2.1.2.2.2.2.1 D'.1 (nhV y.2.2.2.1)) h := fun h hh => by rw [vr.2.2.1.1 h hh]; exact (pre_n (by rw [← vr.1.1]; exact hh)).symm
      have hst2 : ∀ h, h < nhV z.2.1 → z.2.2.1.2.2.2.2.2.1 h = (pre y.2.2.2.2.1.2.2.2.2.2.1 D'.2.1 (nhV y.2.2.2.1)) h := fun h hh => by rw [vr.2.2.1.2.1 h hh]; exact (pre_n (by rw [← vr.1.1]; exact hh)).symm
      have hnp2 : npV z.2.1 = npV y.2.2.2.1 := vr.1.2.1
      have hho2 : ∀ p, p < npV z.2.1 → hoV z.2.1 p = pre (hoV y.2.2.2.1) (hoV V') (npV y.2.2.2.1) p := fun p hp => by rw [vr.2.1.2.2.2.1 p hp]; exact (pre_n (by rw [← vr.1.2.1]; exact hp)).symm
      have hRn : Rn (B + 400) z.2.1 (sBeg z.2.1 z.2.2.1) (pBeg z.2.1) (fun _ => nI 31) a (bgS (nhV y.2.2.2.1) (npV y.2.2.2.1) (pre y.2.2.2.2.1.2.2.2.2.1 D'.1 (nhV y.2.2.2.1)) (pre y.2.2.2.2.1.2.2.2.2.2.1 D'.2.1 (nhV y.2.2.2.1)) (pre (hoV y.2.2.2.1) (hoV V') (npV y.2.2.2.1)), bpP (npV y.2.2.2.1) (pre (hoV y.2.2.2.1) (hoV V') (npV y.2.2.2.1)) (fun _ => 0) 5, bpL (fun _ => 0) 5, a') := by
        refine ⟨begN vO vr.1.1 hnp2 hho2 hso2 hst2, pbegN vO hnp2 hho2, fun p hp => ?_, hN.2.2.2.1, hN.2.2.2.2.1, fun p hp => vO.2.2.2.1 p hp, fun p hp q hq => ?_, fun j hj => ?_, Nat.zero_le _, vr.1.2.2.2.2.2.2.1, vr.1.2.2.2.2.2.2.2⟩
        · show nI 31 = bpL (fun _ => 0) 5 p
          rw [bpL_at _ 5 p (by have := vO.2.1; omega)]
        · have e : pBeg z.2.1 (p * 4 + q) = hoV z.2.1 p := by show hoV z.2.1 ((p * 4 + q) / 4) = _; rw [show (p * 4 + q) / 4 = p by omega]
          rw [e]
          exact vO.2.2.2.1 p hp
        · show hoV z.2.1 (j / 4) ≤ 5
          by_cases cj : j / 4 < npV z.2.1
          · have := vO.2.2.2.1 _ cj
            have := vO.1
            omega
          · rw [vr.2.2.2.2.1.2.1 _ (by omega)]; exact Nat.le_refl _
      have hfk : (nI z.2.2.2.1) = nI y.2.2.2.2.2.1 := by rw [h0, hf0]
      have hyv : y.2.1 < 100000 := o2.2.2.2.1
      refine ⟨z.2.2.1.1, (false, 0, (tkE T len z.1.1), (tkK T len z.1.1), (tkS T len z.1.1), (tkN T len z.1.1), (tkM T len z.1.1), T, (nI z.2.2.2.1), z.2.2.2.2, VA, XA, z.2.1, z.2.2.1, (bgQ z.2.1 z.2.2.1 (S0, P, L, a, kp, Wn)), Tt, b, Sl, W, F, false, (unQ Q0), (unQ Q1), (unQ Q2)), ((nhV y.2.2.2.1, npV y.2.2.2.1, laV y.2.2.2.1, pre (ruV y.2.2.2.1) (ruV V') 6, pre (woV y.2.2.2.1) (woV V') (nhV y.2.2.2.1), pre (owV y.2.2.2.1) (owV V') (nhV y.2.2.2.1), pre (hoV y.2.2.2.1) (hoV V') (npV y.2.2.2.1), pre (wkV y.2.2.2.1) (wkV V') (npV y.2.2.2.1), pre (tiR (npV y.2.2.2.1) (tiV y.2.2.2.1)) (tiV V') 25), (pre y.2.2.2.2.1.2.2.2.2.1 D'.1 (nhV y.2.2.2.1), pre y.2.2.2.2.1.2.2.2.2.2.1 D'.2.1 (nhV y.2.2.2.1), y.2.2.2.2.1.1), 0, T, (len, tkS T len y.1.1, tkE T len y.1.1, tkH T len y.1.1, y.2.1, y.2.2.1), y.2.2.2.2.2.1, y.2.2.2.2.2.2, y.2.2.2.1, y.2.2.2.2.1, (bgS (nhV y.2.2.2.1) (npV y.2.2.2.1) (pre y.2.2.2.2.1.2.2.2.2.1 D'.1 (nhV y.2.2.2.1)) (pre y.2.2.2.2.1.2.2.2.2.2.1 D'.2.1 (nhV y.2.2.2.1)) (pre (hoV y.2.2.2.1) (hoV V') (npV y.2.2.2.1)), bpP (npV y.2.2.2.1) (pre (hoV y.2.2.2.1) (hoV V') (npV y.2.2.2.1)) (fun _ => 0) 5, bpL (fun _ => 0) 5, a'), (w, l, lg, ll, Wj, Bj, fj, bp, G), K', (pre (fun _ => false) kb' 3), fn', false, F', b'), (show R0 _ _ _ _ _ _ _ _ _ _ _ _ _ _ _ _ _ _ _ _ _ _ _ _ _ _ _ from ⟨⟨rfl, Nat.zero_le _, rfl, td, hyv⟩, ⟨vO, vE, hso2, hst2, vr.1.2.2.2.2.2.1⟩, hRn, ⟨⟨rfl, fun zz => absurd (show false = true from zz) nft⟩, ⟨rfl, fun zz => absurd (show false = true from zz) nft⟩, ⟨rfl, fun zz => absurd (show false = true from zz) nft⟩⟩, ⟨hfk, hfa⟩, ⟨rfl, fun zz => absurd (show false = true from zz) nft, g3, g4⟩, ⟨l1, l2⟩⟩), fun ad => ?_, fun ad => ?_⟩
      · exact lx_wY1 E len nx kk st nu nm T fk pl VA XA VB XB (S0, P, L, a, kp, Wn) Tt b Sl W F hb Q0 Q1 Q2 false (nI z.2.2.2.1) z.2.2.2.2 0 (tkE T len z.1.1) (tkK T len z.1.1) (tkS T len z.1.1) (tkN T len z.1.1) (tkM T len z.1.1) z.2.1 z.2.2.1 (bgQ z.2.1 z.2.2.1 (S0, P, L, a, kp, Wn)) (unQ Q0) (unQ Q1) (unQ Q2) (fun ad r => by
          have h := x_village E ad r (bI hb) fk pl len nx kk st nu nm T VB XB VA XA (S0, P, L, a, kp, Wn) Q0 Q1 Q2 tb hT9 z hz
          rw [if_pos h0, if_pos h0] at h
          exact h) ad
      · exact Md.ans (m_villageY E ad V' D' len T k' f' fa' VR' XR' (S', P', L', a') (w, l, lg, ll, Wj, Bj, fj, bp, G) K' kb' fn' hb F' b' tb td te y b0 hy o1 h1 h2 h3) vr.1.2.2.2.2.2.1.symm
    · have o1 : b0 = false := o1
      have h0 : ¬ z.2.2.2.1 = 0 := o2.1
      refine ⟨-1, (true, 0, (tkE T len z.1.1), (tkK T len z.1.1), (tkS T len z.1.1), (tkN T len z.1.1), (tkM T len z.1.1), T, (nI z.2.2.2.1), z.2.2.2.2, VA, XA, z.2.1, z.2.2.1, (S0, P, L, a, kp, Wn), Tt, b, Sl, W, F, hb, Q0, Q1, Q2), (V', D', 0, T, (len, tkS T len y.1.1, tkE T len y.1.1, tkH T len y.1.1, y.2.1, y.2.2.1), y.2.2.2.2.2.1, y.2.2.2.2.2.2, y.2.2.2.1, y.2.2.2.2.1, (S', P', L', a'), (w, l, lg, ll, Wj, Bj, fj, bp, G), K', kb', fn', hb, F', b'), (show R0 _ _ _ _ _ _ _ _ _ _ _ _ _ _ _ _ _ _ _ _ _ _ _ _ _ _ _ from ⟨⟨rfl, Nat.zero_le _, rfl, td, ?_⟩, ⟨hO, hV, hso, hst, hcl⟩, hN.mono (by omega), ⟨s0.mono (by omega), s1.mono (by omega), s2.mono (by omega)⟩, ⟨(by rw [o2.2.1]), o2.2.2⟩, ⟨rfl, g2, g3, g4⟩, ⟨l1, l2⟩⟩), fun ad => ?_, fun ad => ?_⟩
      · exact rVF_v td te hy
      · exact lx_wN1 E len nx kk st nu nm T fk pl VA XA VB XB (S0, P, L, a, kp, Wn) Tt b Sl W F hb Q0 Q1 Q2 hb (nI z.2.2.2.1) z.2.2.2.2 0 (tkE T len z.1.1) (tkK T len z.1.1) (tkS T len z.1.1) (tkN T len z.1.1) (tkM T len z.1.1) z.2.1 z.2.2.1 (S0, P, L, a, kp, Wn) Q0 Q1 Q2 (fun ad r => by
          have h := x_village E ad r (bI hb) fk pl len nx kk st nu nm T VB XB VA XA (S0, P, L, a, kp, Wn) Q0 Q1 Q2 tb hT9 z hz
          rw [if_neg h0, if_neg h0] at h
          exact h) ad
      · exact m_villageN E ad V' D' len T k' f' fa' VR' XR' (S', P', L', a') (w, l, lg, ll, Wj, Bj, fj, bp, G) K' kb' fn' hb F' b' tb td te y b0 hy o1
