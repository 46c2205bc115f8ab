/-! PAIRS: passing, texts, plans, feasts, slots -/
set_option maxHeartbeats 4000000 in
set_option maxRecDepth 100000 in
theorem pr_pass (E : EnvT) (B : Nat) (x : Xst) (m : Mst) (y1 : Int32) (hR : RR B x m) (hB : B < 2 ^ 28) : Pr E B mX9_pass mX10_pass [.int y1] x m := by
  obtain ⟨sw, len, nx, kk, st, nu, nm, T, fk, pl, VA, XA, VB, XB, ⟨S0, P, L, a, kp, Wn⟩, Tt, b, Sl, W, F, hb, Q0, Q1, Q2⟩ := x
  obtain ⟨V', D', tp', T', k', f', fa', VR', XR', ⟨S', P', L', a'⟩, ⟨w, l, lg, ll, Wj, Bj, fj, bp, G⟩, K', kb', fn', hb', F', b'⟩ := m
  cases sw
  · have hR : R0 B VB XB len T fk pl (S0, P, L, a, kp, Wn) b W F hb Q0 Q1 Q2 V' D' tp' T' k' f' fa' (S', P', L', a') K' kb' hb' F' := hR
    obtain ⟨⟨ta, tb, tc, td, te⟩, ⟨hO, hV, hso, hst, hcl⟩, hN, ⟨s0, s1, s2⟩, ⟨fa1, fa2⟩, ⟨g1, g2, g3, g4⟩, ⟨l1, l2⟩⟩ := id hR
    subst tp' T' hb'
    have hO' : Vok V' := hO.eq' hV
    have hnp : npV V' = npV VB := hV.2.1.symm
    have hnh : nhV V' = nhV VB := hV.1.symm
    have hp5 : npV VB ≤ 5 := hO.2.1
    have hh5 : nhV VB ≤ 5 := hO.1
    have hSo : Sok VB S0 := hN.2.2.2.2.2.1
    have hPo : Pok VB P := hN.2.2.2.2.2.2.1
    have hPl : Ple P := hN.2.2.2.2.2.2.2.1
    have hps : psS S0 ≤ B := hN.2.2.2.2.2.2.2.2.1
    have hgb : ∀ W9 p, p < npV VB → Ib (ltS (gon VB L W9 S0) p) (-128) 127 := fun W9 p hp => gon_gb hO hN.2.2.2.2.2.2.2.2.2.1 hN.2.2.2.2.2.2.2.2.2.2 hp
    have hSo' : Sok V' S' := hN.Sok' hV
    have hPo' : Pok V' P' := hN.Pok' hV
    have hps' : psS S' ≤ B := hN.ps'
    have hq : Rq VB (ovr V' ((-1, -1, w, -1, false, l) : Ovr)) P P' L L' S0 S' := hN.Rq hO hV w l
    have hv : Rv VB V' ((-1, -1, w, -1, false, l) : Ovr) L L' S0 S' := ⟨hO, hq.2.1, hq.2.2.2.1, hq.2.2.2.2⟩
    have ea : a = a' := hN.2.2.2.1
    subst a'
    have hal : a < 2 ^ 31 := hN.2.2.2.2.1
    by_cases c : rgB y1 (nI 0) (nI 400) = true
    · have cl1 := rg_lt (by decide) (by decide) c
      have hp := pass_eq (o := ((-1, -1, w, -1, false, l) : Ovr)) hO hV hq.2.1 hq.2.2.1 hq.2.2.2.1 hq.2.2.2.2 a Wn Wj Bj (nN y1)
      have hk := pcF_ok (L := L) (q := (S0, a, Wn)) hO hPl (Sok.le hO hSo) hal (nN y1)
      have hs := pc_Sok (L := L) hPo (S0, a, Wn) hSo (nN y1)
      have hsb := pc_Sb (P := P) (L := L) hN.2.2.2.2.2.2.2.2.2.1 (S0, a, Wn) hN.2.2.2.2.2.2.2.2.2.2 (nN y1)
      refine ⟨nI (psS (pcF VB P L (S0, a, Wn) (nN y1)).1), (false, len, nx, kk, st, nu, nm, T, fk, pl, VA, XA, VB, XB, ((pcF VB P L (S0, a, Wn) (nN y1)).1, P, L, (pcF VB P L (S0, a, Wn) (nN y1)).2.1, kp, (pcF VB P L (S0, a, Wn) (nN y1)).2.2), Tt, b, Sl, W, F, hb, Q0, Q1, Q2), (V', D', len, T, k', f', fa', VR', XR', ((paF V' ((-1, -1, w, -1, false, l) : Ovr) P' L' (S', a, Wj, Bj) (nN y1)).1, P', L', (paF V' ((-1, -1, w, -1, false, l) : Ovr) P' L' (S', a, Wj, Bj) (nN y1)).2.1), (w, l, lg, ll, (paF V' ((-1, -1, w, -1, false, l) : Ovr) P' L' (S', a, Wj, Bj) (nN y1)).2.2.1, (paF V' ((-1, -1, w, -1, false, l) : Ovr) P' L' (S', a, Wj, Bj) (nN y1)).2.2.2, fj, bp, G), K', kb', fn', hb, F', b'), (show R0 _ _ _ _ _ _ _ _ _ _ _ _ _ _ _ _ _ _ _ _ _ _ _ _ _ _ _ from ⟨⟨rfl, tb, rfl, td, te⟩, ⟨hO, hV, hso, hst, hcl⟩, ⟨hp.1, hq.2.2.1, hq.2.2.2.1, hp.2, hk.2.1, hs, hPo, hPl, (by have e := hk.2.2; have e2 : psS ((S0, a, Wn) : Scn × Nat × (Nat → Nat)).1 = psS S0 := rfl; show psS (pcF VB P L (S0, a, Wn) (nN y1)).1 ≤ B + 400; omega), hN.2.2.2.2.2.2.2.2.2.1, hsb⟩, ⟨s0.mono (by omega), s1.mono (by omega), s2.mono (by omega)⟩, ⟨fa1, fa2⟩, ⟨rfl, g2, g3, g4⟩, ⟨l1, l2⟩⟩), fun ad => ?_, fun ad => ?_⟩
      · exact lx_n0 E len nx kk st nu nm T fk pl VA XA VB XB (S0, P, L, a, kp, Wn) Tt b Sl W F hb Q0 Q1 Q2 ((pcF VB P L (S0, a, Wn) (nN y1)).1, P, L, (pcF VB P L (S0, a, Wn) (nN y1)).2.1, kp, (pcF VB P L (S0, a, Wn) (nN y1)).2.2) (fun ad r => by
          have h := x_pass E ad r (bI hb) S0 P L a kp Wn VB XB y1 hO (Sok.le hO hSo) hPl (by omega) hal
          rw [if_pos c, if_pos c] at h
          exact h) ad
      · exact Md.ans (lm_t E V' D' len T k' f' fa' VR' XR' (S', P', L', a) (w, l, lg, ll, Wj, Bj, fj, bp, G) K' kb' fn' hb F' b' (w, l, lg, ll, (paF V' ((-1, -1, w, -1, false, l) : Ovr) P' L' (S', a, Wj, Bj) (nN y1)).2.2.1, (paF V' ((-1, -1, w, -1, false, l) : Ovr) P' L' (S', a, Wj, Bj) (nN y1)).2.2.2, fj, bp, G) ((paF V' ((-1, -1, w, -1, false, l) : Ovr) P' L' (S', a, Wj, Bj) (nN y1)).1, P', L', (paF V' ((-1, -1, w, -1, false, l) : Ovr) P' L' (S', a, Wj, Bj) (nN y1)).2.1) (fun ad r i => by
          have h := m_pass E ad r i V' w l lg ll Wj Bj fj bp G S' P' L' a y1 hO' (Sok.le hO' hSo') hPo' (by omega) hal
          rw [if_pos c, if_pos c] at h
          exact h) ad) (by rw [hp.1.1])
    · refine ⟨-2, (false, len, nx, kk, st, nu, nm, T, fk, pl, VA, XA, VB, XB, (S0, P, L, a, kp, Wn), Tt, b, Sl, W, F, hb, Q0, Q1, Q2), (V', D', len, T, k', f', fa', VR', XR', (S', P', L', a), (w, l, lg, ll, Wj, Bj, fj, bp, G), K', kb', fn', hb, F', b'), (show R0 _ _ _ _ _ _ _ _ _ _ _ _ _ _ _ _ _ _ _ _ _ _ _ _ _ _ _ from hR.mono (by omega)), fun ad => ?_, fun ad => ?_⟩
      · exact lx_n0 E len nx kk st nu nm T fk pl VA XA VB XB (S0, P, L, a, kp, Wn) Tt b Sl W F hb Q0 Q1 Q2 (S0, P, L, a, kp, Wn) (fun ad r => by
          have h := x_pass E ad r (bI hb) S0 P L a kp Wn VB XB y1 hO (Sok.le hO hSo) hPl (by omega) hal
          rw [if_neg c, if_neg c] at h
          exact h) ad
      · exact lm_t E V' D' len T k' f' fa' VR' XR' (S', P', L', a) (w, l, lg, ll, Wj, Bj, fj, bp, G) K' kb' fn' hb F' b' (w, l, lg, ll, Wj, Bj, fj, bp, G) (S', P', L', a) (fun ad r i => by
          have h := m_pass E ad r i V' w l lg ll Wj Bj fj bp G S' P' L' a y1 hO' (Sok.le hO' hSo') hPo' (by omega) hal
          rw [if_neg c, if_neg c] at h
          exact h) ad
  · have hR : R0 B VA XA len T fk pl (S0, P, L, a, kp, Wn) b W F hb Q0 Q1 Q2 V' D' tp' T' k' f' fa' (S', P', L', a') K' kb' hb' F' := hR
    obtain ⟨⟨ta, tb, tc, td, te⟩, ⟨hO, hV, hso, hst, hcl⟩, hN, ⟨s0, s1, s2⟩, ⟨fa1, fa2⟩, ⟨g1, g2, g3, g4⟩, ⟨l1, l2⟩⟩ := id hR
    subst tp' T' hb'
    have hO' : Vok V' := hO.eq' hV
    have hnp : npV V' = npV VA := hV.2.1.symm
    have hnh : nhV V' = nhV VA := hV.1.symm
    have hp5 : npV VA ≤ 5 := hO.2.1
    have hh5 : nhV VA ≤ 5 := hO.1
    have hSo : Sok VA S0 := hN.2.2.2.2.2.1
    have hPo : Pok VA P := hN.2.2.2.2.2.2.1
    have hPl : Ple P := hN.2.2.2.2.2.2.2.1
    have hps : psS S0 ≤ B := hN.2.2.2.2.2.2.2.2.1
    have hgb : ∀ W9 p, p < npV VA → Ib (ltS (gon VA L W9 S0) p) (-128) 127 := fun W9 p hp => gon_gb hO hN.2.2.2.2.2.2.2.2.2.1 hN.2.2.2.2.2.2.2.2.2.2 hp
    have hSo' : Sok V' S' := hN.Sok' hV
    have hPo' : Pok V' P' := hN.Pok' hV
    have hps' : psS S' ≤ B := hN.ps'
    have hq : Rq VA (ovr V' ((-1, -1, w, -1, false, l) : Ovr)) P P' L L' S0 S' := hN.Rq hO hV w l
    have hv : Rv VA V' ((-1, -1, w, -1, false, l) : Ovr) L L' S0 S' := ⟨hO, hq.2.1, hq.2.2.2.1, hq.2.2.2.2⟩
    have ea : a = a' := hN.2.2.2.1
    subst a'
    have hal : a < 2 ^ 31 := hN.2.2.2.2.1
    by_cases c : rgB y1 (nI 0) (nI 400) = true
    · have cl1 := rg_lt (by decide) (by decide) c
      have hp := pass_eq (o := ((-1, -1, w, -1, false, l) : Ovr)) hO hV hq.2.1 hq.2.2.1 hq.2.2.2.1 hq.2.2.2.2 a Wn Wj Bj (nN y1)
      have hk := pcF_ok (L := L) (q := (S0, a, Wn)) hO hPl (Sok.le hO hSo) hal (nN y1)
      have hs := pc_Sok (L := L) hPo (S0, a, Wn) hSo (nN y1)
      have hsb := pc_Sb (P := P) (L := L) hN.2.2.2.2.2.2.2.2.2.1 (S0, a, Wn) hN.2.2.2.2.2.2.2.2.2.2 (nN y1)
      refine ⟨nI (psS (pcF VA P L (S0, a, Wn) (nN y1)).1), (true, len, nx, kk, st, nu, nm, T, fk, pl, VA, XA, VB, XB, ((pcF VA P L (S0, a, Wn) (nN y1)).1, P, L, (pcF VA P L (S0, a, Wn) (nN y1)).2.1, kp, (pcF VA P L (S0, a, Wn) (nN y1)).2.2), Tt, b, Sl, W, F, hb, Q0, Q1, Q2), (V', D', len, T, k', f', fa', VR', XR', ((paF V' ((-1, -1, w, -1, false, l) : Ovr) P' L' (S', a, Wj, Bj) (nN y1)).1, P', L', (paF V' ((-1, -1, w, -1, false, l) : Ovr) P' L' (S', a, Wj, Bj) (nN y1)).2.1), (w, l, lg, ll, (paF V' ((-1, -1, w, -1, false, l) : Ovr) P' L' (S', a, Wj, Bj) (nN y1)).2.2.1, (paF V' ((-1, -1, w, -1, false, l) : Ovr) P' L' (S', a, Wj, Bj) (nN y1)).2.2.2, fj, bp, G), K', kb', fn', hb, F', b'), (show R0 _ _ _ _ _ _ _ _ _ _ _ _ _ _ _ _ _ _ _ _ _ _ _ _ _ _ _ from ⟨⟨rfl, tb, rfl, td, te⟩, ⟨hO, hV, hso, hst, hcl⟩, ⟨hp.1, hq.2.2.1, hq.2.2.2.1, hp.2, hk.2.1, hs, hPo, hPl, (by have e := hk.2.2; have e2 : psS ((S0, a, Wn) : Scn × Nat × (Nat → Nat)).1 = psS S0 := rfl; show psS (pcF VA P L (S0, a, Wn) (nN y1)).1 ≤ B + 400; omega), hN.2.2.2.2.2.2.2.2.2.1, hsb⟩, ⟨s0.mono (by omega), s1.mono (by omega), s2.mono (by omega)⟩, ⟨fa1, fa2⟩, ⟨rfl, g2, g3, g4⟩, ⟨l1, l2⟩⟩), fun ad => ?_, fun ad => ?_⟩
      · exact lx_n1 E len nx kk st nu nm T fk pl VA XA VB XB (S0, P, L, a, kp, Wn) Tt b Sl W F hb Q0 Q1 Q2 ((pcF VA P L (S0, a, Wn) (nN y1)).1, P, L, (pcF VA P L (S0, a, Wn) (nN y1)).2.1, kp, (pcF VA P L (S0, a, Wn) (nN y1)).2.2) (fun ad r => by
          have h := x_pass E ad r (bI hb) S0 P L a kp Wn VA XA y1 hO (Sok.le hO hSo) hPl (by omega) hal
          rw [if_pos c, if_pos c] at h
          exact h) ad
      · exact Md.ans (lm_t E V' D' len T k' f' fa' VR' XR' (S', P', L', a) (w, l, lg, ll, Wj, Bj, fj, bp, G) K' kb' fn' hb F' b' (w, l, lg, ll, (paF V' ((-1, -1, w, -1, false, l) : Ovr) P' L' (S', a, Wj, Bj) (nN y1)).2.2.1, (paF V' ((-1, -1, w, -1, false, l) : Ovr) P' L' (S', a, Wj, Bj) (nN y1)).2.2.2, fj, bp, G) ((paF V' ((-1, -1, w, -1, false, l) : Ovr) P' L' (S', a, Wj, Bj) (nN y1)).1, P', L', (paF V' ((-1, -1, w, -1, false, l) : Ovr) P' L' (S', a, Wj, Bj) (nN y1)).2.1) (fun ad r i => by
          have h := m_pass E ad r i V' w l lg ll Wj Bj fj bp G S' P' L' a y1 hO' (Sok.le hO' hSo') hPo' (by omega) hal
          rw [if_pos c, if_pos c] at h
          exact h) ad) (by rw [hp.1.1])
    · refine ⟨-2, (true, len, nx, kk, st, nu, nm, T, fk, pl, VA, XA, VB, XB, (S0, P, L, a, kp, Wn), Tt, b, Sl, W, F, hb, Q0, Q1, Q2), (V', D', len, T, k', f', fa', VR', XR', (S', P', L', a), (w, l, lg, ll, Wj, Bj, fj, bp, G), K', kb', fn', hb, F', b'), (show R0 _ _ _ _ _ _ _ _ _ _ _ _ _ _ _ _ _ _ _ _ _ _ _ _ _ _ _ from hR.mono (by omega)), fun ad => ?_, fun ad => ?_⟩
      · exact lx_n1 E len nx kk st nu nm T fk pl VA XA VB XB (S0, P, L, a, kp, Wn) Tt b Sl W F hb Q0 Q1 Q2 (S0, P, L, a, kp, Wn) (fun ad r => by
          have h := x_pass E ad r (bI hb) S0 P L a kp Wn VA XA y1 hO (Sok.le hO hSo) hPl (by omega) hal
          rw [if_neg c, if_neg c] at h
          exact h) ad
      · exact lm_t E V' D' len T k' f' fa' VR' XR' (S', P', L', a) (w, l, lg, ll, Wj, Bj, fj, bp, G) K' kb' fn' hb F' b' (w, l, lg, ll, Wj, Bj, fj, bp, G) (S', P', L', a) (fun ad r i => by
          have h := m_pass E ad r i V' w l lg ll Wj Bj fj bp G S' P' L' a y1 hO' (Sok.le hO' hSo') hPo' (by omega) hal
          rw [if_neg c, if_neg c] at h
          exact h) ad
set_option maxHeartbeats 4000000 in
set_option maxRecDepth 100000 in
theorem pr_feed (E : EnvT) (B : Nat) (x : Xst) (m : Mst) (y1 : Int32) (y2 : Int32) (y3 : Int32) (y4 : Int32) (y5 : Int32) (hR : RR B x m) (hB : B < 2 ^ 28) : Pr E B mX9_feed mX10_feed [.int y1, .int y2, .int y3, .int y4, .int y5] x m := by
  obtain ⟨sw, len, nx, kk, st, nu, nm, T, fk, pl, VA, XA, VB, XB, ⟨S0, P, L, a, kp, Wn⟩, Tt, b, Sl, W, F, hb, Q0, Q1, Q2⟩ := x
  obtain ⟨V', D', tp', T', k', f', fa', VR', XR', ⟨S', P', L', a'⟩, ⟨w, l, lg, ll, Wj, Bj, fj, bp, G⟩, K', kb', fn', hb', F', b'⟩ := m
  cases sw
  · have hR : R0 B VB XB len T fk pl (S0, P, L, a, kp, Wn) b W F hb Q0 Q1 Q2 V' D' tp' T' k' f' fa' (S', P', L', a') K' kb' hb' F' := hR
    obtain ⟨⟨ta, tb, tc, td, te⟩, ⟨hO, hV, hso, hst, hcl⟩, hN, ⟨s0, s1, s2⟩, ⟨fa1, fa2⟩, ⟨g1, g2, g3, g4⟩, ⟨l1, l2⟩⟩ := id hR
    subst tp' T' hb'
    have hO' : Vok V' := hO.eq' hV
    have hnp : npV V' = npV VB := hV.2.1.symm
    have hnh : nhV V' = nhV VB := hV.1.symm
    have hp5 : npV VB ≤ 5 := hO.2.1
    have hh5 : nhV VB ≤ 5 := hO.1
    have hSo : Sok VB S0 := hN.2.2.2.2.2.1
    have hPo : Pok VB P := hN.2.2.2.2.2.2.1
    have hPl : Ple P := hN.2.2.2.2.2.2.2.1
    have hps : psS S0 ≤ B := hN.2.2.2.2.2.2.2.2.1
    have hgb : ∀ W9 p, p < npV VB → Ib (ltS (gon VB L W9 S0) p) (-128) 127 := fun W9 p hp => gon_gb hO hN.2.2.2.2.2.2.2.2.2.1 hN.2.2.2.2.2.2.2.2.2.2 hp
    have hSo' : Sok V' S' := hN.Sok' hV
    have hPo' : Pok V' P' := hN.Pok' hV
    have hps' : psS S' ≤ B := hN.ps'
    have hq : Rq VB (ovr V' ((-1, -1, w, -1, false, l) : Ovr)) P P' L L' S0 S' := hN.Rq hO hV w l
    have hv : Rv VB V' ((-1, -1, w, -1, false, l) : Ovr) L L' S0 S' := ⟨hO, hq.2.1, hq.2.2.2.1, hq.2.2.2.2⟩
    by_cases c : 900 < len + 20
    · refine ⟨-3, (false, len, nx, kk, st, nu, nm, T, fk, pl, VA, XA, VB, XB, (S0, P, L, a, kp, Wn), Tt, b, Sl, W, F, hb, Q0, Q1, Q2), (V', D', len, T, k', f', fa', VR', XR', (S', P', L', a'), (w, l, lg, ll, Wj, Bj, fj, bp, G), K', kb', fn', hb, F', b'), (show R0 _ _ _ _ _ _ _ _ _ _ _ _ _ _ _ _ _ _ _ _ _ _ _ _ _ _ _ from hR.mono (by omega)), fun ad => ?_, fun ad => ?_⟩
      · exact lx_p0 E len nx kk st nu nm T fk pl VA XA VB XB (S0, P, L, a, kp, Wn) Tt b Sl W F hb Q0 Q1 Q2 hb len T (S0, P, L, a, kp, Wn) F (fun ad r => by
          have h := x_feed E ad r hb len (nI nx, nI kk, nI st, nI nu) (lN nm) T S0 P L a kp Wn VB XB F y1 y2 y3 y4 y5 tb
          rw [if_pos c, if_pos c] at h
          exact h) ad
      · exact lm_p E V' D' len T k' f' fa' VR' XR' (S', P', L', a') (w, l, lg, ll, Wj, Bj, fj, bp, G) K' kb' fn' hb F' b' len T (fun ad r i => by
          have h := m_feed E ad r i len (fun k => sb (T k)) y1 y2 y3 y4 y5 tb
          rw [if_pos c, if_pos c] at h
          exact h) ad
    · refine ⟨nI (len + 4 + 4 + 4 + 4 + 4), (false, (len + 4 + 4 + 4 + 4 + 4), nx, kk, st, nu, nm, (c4F (c4F (c4F (c4F (c4F T (len) y1) (len + 4) y2) (len + 4 + 4) y3) (len + 4 + 4 + 4) y4) (len + 4 + 4 + 4 + 4) y5), fk, pl, VA, XA, VB, XB, (S0, P, L, a, kp, Wn), Tt, b, Sl, W, F, hb, Q0, Q1, Q2), (V', D', (len + 4 + 4 + 4 + 4 + 4), (c4F (c4F (c4F (c4F (c4F T (len) y1) (len + 4) y2) (len + 4 + 4) y3) (len + 4 + 4 + 4) y4) (len + 4 + 4 + 4 + 4) y5), k', f', fa', VR', XR', (S', P', L', a'), (w, l, lg, ll, Wj, Bj, fj, bp, G), K', kb', fn', hb, F', b'), (show R0 _ _ _ _ _ _ _ _ _ _ _ _ _ _ _ _ _ _ _ _ _ _ _ _ _ _ _ from ⟨⟨rfl, (show len + 4 + 4 + 4 + 4 + 4 ≤ 900 by omega), rfl, c4_lt (c4_lt (c4_lt (c4_lt (c4_lt td)))), te⟩, ⟨hO, hV, hso, hst, hcl⟩, hN.mono (by omega), ⟨s0.mono (by omega), s1.mono (by omega), s2.mono (by omega)⟩, ⟨fa1, fa2⟩, ⟨rfl, g2, g3, g4⟩, ⟨l1, l2⟩⟩), fun ad => ?_, fun ad => ?_⟩
      · exact lx_p0 E len nx kk st nu nm T fk pl VA XA VB XB (S0, P, L, a, kp, Wn) Tt b Sl W F hb Q0 Q1 Q2 hb (len + 4 + 4 + 4 + 4 + 4) (c4F (c4F (c4F (c4F (c4F T (len) y1) (len + 4) y2) (len + 4 + 4) y3) (len + 4 + 4 + 4) y4) (len + 4 + 4 + 4 + 4) y5) (S0, P, L, a, kp, Wn) F (fun ad r => by
          have h := x_feed E ad r hb len (nI nx, nI kk, nI st, nI nu) (lN nm) T S0 P L a kp Wn VB XB F y1 y2 y3 y4 y5 tb
          rw [if_neg c, if_neg c] at h
          exact h) ad
      · exact lm_p E V' D' len T k' f' fa' VR' XR' (S', P', L', a') (w, l, lg, ll, Wj, Bj, fj, bp, G) K' kb' fn' hb F' b' (len + 4 + 4 + 4 + 4 + 4) (c4F (c4F (c4F (c4F (c4F T (len) y1) (len + 4) y2) (len + 4 + 4) y3) (len + 4 + 4 + 4) y4) (len + 4 + 4 + 4 + 4) y5) (fun ad r i => by
          have h := m_feed E ad r i len (fun k => sb (T k)) y1 y2 y3 y4 y5 tb
          rw [if_neg c, if_neg c, p4_c4, p4_c4, p4_c4, p4_c4, p4_c4] at h
          exact h) ad
  · have hR : R0 B VA XA len T fk pl (S0, P, L, a, kp, Wn) b W F hb Q0 Q1 Q2 V' D' tp' T' k' f' fa' (S', P', L', a') K' kb' hb' F' := hR
    obtain ⟨⟨ta, tb, tc, td, te⟩, ⟨hO, hV, hso, hst, hcl⟩, hN, ⟨s0, s1, s2⟩, ⟨fa1, fa2⟩, ⟨g1, g2, g3, g4⟩, ⟨l1, l2⟩⟩ := id hR
    subst tp' T' hb'
    have hO' : Vok V' := hO.eq' hV
    have hnp : npV V' = npV VA := hV.2.1.symm
    have hnh : nhV V' = nhV VA := hV.1.symm
    have hp5 : npV VA ≤ 5 := hO.2.1
    have hh5 : nhV VA ≤ 5 := hO.1
    have hSo : Sok VA S0 := hN.2.2.2.2.2.1
    have hPo : Pok VA P := hN.2.2.2.2.2.2.1
    have hPl : Ple P := hN.2.2.2.2.2.2.2.1
    have hps : psS S0 ≤ B := hN.2.2.2.2.2.2.2.2.1
    have hgb : ∀ W9 p, p < npV VA → Ib (ltS (gon VA L W9 S0) p) (-128) 127 := fun W9 p hp => gon_gb hO hN.2.2.2.2.2.2.2.2.2.1 hN.2.2.2.2.2.2.2.2.2.2 hp
    have hSo' : Sok V' S' := hN.Sok' hV
    have hPo' : Pok V' P' := hN.Pok' hV
    have hps' : psS S' ≤ B := hN.ps'
    have hq : Rq VA (ovr V' ((-1, -1, w, -1, false, l) : Ovr)) P P' L L' S0 S' := hN.Rq hO hV w l
    have hv : Rv VA V' ((-1, -1, w, -1, false, l) : Ovr) L L' S0 S' := ⟨hO, hq.2.1, hq.2.2.2.1, hq.2.2.2.2⟩
    by_cases c : 900 < len + 20
    · refine ⟨-3, (true, len, nx, kk, st, nu, nm, T, fk, pl, VA, XA, VB, XB, (S0, P, L, a, kp, Wn), Tt, b, Sl, W, F, hb, Q0, Q1, Q2), (V', D', len, T, k', f', fa', VR', XR', (S', P', L', a'), (w, l, lg, ll, Wj, Bj, fj, bp, G), K', kb', fn', hb, F', b'), (show R0 _ _ _ _ _ _ _ _ _ _ _ _ _ _ _ _ _ _ _ _ _ _ _ _ _ _ _ from hR.mono (by omega)), fun ad => ?_, fun ad => ?_⟩
      · exact lx_p1 E len nx kk st nu nm T fk pl VA XA VB XB (S0, P, L, a, kp, Wn) Tt b Sl W F hb Q0 Q1 Q2 hb len T (S0, P, L, a, kp, Wn) F (fun ad r => by
          have h := x_feed E ad r hb len (nI nx, nI kk, nI st, nI nu) (lN nm) T S0 P L a kp Wn VA XA F y1 y2 y3 y4 y5 tb
          rw [if_pos c, if_pos c] at h
          exact h) ad
      · exact lm_p E V' D' len T k' f' fa' VR' XR' (S', P', L', a') (w, l, lg, ll, Wj, Bj, fj, bp, G) K' kb' fn' hb F' b' len T (fun ad r i => by
          have h := m_feed E ad r i len (fun k => sb (T k)) y1 y2 y3 y4 y5 tb
          rw [if_pos c, if_pos c] at h
          exact h) ad
    · refine ⟨nI (len + 4 + 4 + 4 + 4 + 4), (true, (len + 4 + 4 + 4 + 4 + 4), nx, kk, st, nu, nm, (c4F (c4F (c4F (c4F (c4F T (len) y1) (len + 4) y2) (len + 4 + 4) y3) (len + 4 + 4 + 4) y4) (len + 4 + 4 + 4 + 4) y5), fk, pl, VA, XA, VB, XB, (S0, P, L, a, kp, Wn), Tt, b, Sl, W, F, hb, Q0, Q1, Q2), (V', D', (len + 4 + 4 + 4 + 4 + 4), (c4F (c4F (c4F (c4F (c4F T (len) y1) (len + 4) y2) (len + 4 + 4) y3) (len + 4 + 4 + 4) y4) (len + 4 + 4 + 4 + 4) y5), k', f', fa', VR', XR', (S', P', L', a'), (w, l, lg, ll, Wj, Bj, fj, bp, G), K', kb', fn', hb, F', b'), (show R0 _ _ _ _ _ _ _ _ _ _ _ _ _ _ _ _ _ _ _ _ _ _ _ _ _ _ _ from ⟨⟨rfl, (show len + 4 + 4 + 4 + 4 + 4 ≤ 900 by omega), rfl, c4_lt (c4_lt (c4_lt (c4_lt (c4_lt td)))), te⟩, ⟨hO, hV, hso, hst, hcl⟩, hN.mono (by omega), ⟨s0.mono (by omega), s1.mono (by omega), s2.mono (by omega)⟩, ⟨fa1, fa2⟩, ⟨rfl, g2, g3, g4⟩, ⟨l1, l2⟩⟩), fun ad => ?_, fun ad => ?_⟩
      · exact lx_p1 E len nx kk st nu nm T fk pl VA XA VB XB (S0, P, L, a, kp, Wn) Tt b Sl W F hb Q0 Q1 Q2 hb (len + 4 + 4 + 4 + 4 + 4) (c4F (c4F (c4F (c4F (c4F T (len) y1) (len + 4) y2) (len + 4 + 4) y3) (len + 4 + 4 + 4) y4) (len + 4 + 4 + 4 + 4) y5) (S0, P, L, a, kp, Wn) F (fun ad r => by
          have h := x_feed E ad r hb len (nI nx, nI kk, nI st, nI nu) (lN nm) T S0 P L a kp Wn VA XA F y1 y2 y3 y4 y5 tb
          rw [if_neg c, if_neg c] at h
          exact h) ad
      · exact lm_p E V' D' len T k' f' fa' VR' XR' (S', P', L', a') (w, l, lg, ll, Wj, Bj, fj, bp, G) K' kb' fn' hb F' b' (len + 4 + 4 + 4 + 4 + 4) (c4F (c4F (c4F (c4F (c4F T (len) y1) (len + 4) y2) (len + 4 + 4) y3) (len + 4 + 4 + 4) y4) (len + 4 + 4 + 4 + 4) y5) (fun ad r i => by
          have h := m_feed E ad r i len (fun k => sb (T k)) y1 y2 y3 y4 y5 tb
          rw [if_neg c, if_neg c, p4_c4, p4_c4, p4_c4, p4_c4, p4_c4] at h
          exact h) ad
set_option maxHeartbeats 4000000 in
set_option maxRecDepth 100000 in
theorem pr_end (E : EnvT) (B : Nat) (x : Xst) (m : Mst) (y1 : Int32) (hR : RR B x m) (hB : B < 2 ^ 28) : Pr E B mX9_end mX10_end [.int y1] x m := by
  obtain ⟨sw, len, nx, kk, st, nu, nm, T, fk, pl, VA, XA, VB, XB, ⟨S0, P, L, a, kp, Wn⟩, Tt, b, Sl, W, F, hb, Q0, Q1, Q2⟩ := x
  obtain ⟨V', D', tp', T', k', f', fa', VR', XR', ⟨S', P', L', a'⟩, ⟨w, l, lg, ll, Wj, Bj, fj, bp, G⟩, K', kb', fn', hb', F', b'⟩ := m
  cases sw
  · have hR : R0 B VB XB len T fk pl (S0, P, L, a, kp, Wn) b W F hb Q0 Q1 Q2 V' D' tp' T' k' f' fa' (S', P', L', a') K' kb' hb' F' := hR
    obtain ⟨⟨ta, tb, tc, td, te⟩, ⟨hO, hV, hso, hst, hcl⟩, hN, ⟨s0, s1, s2⟩, ⟨fa1, fa2⟩, ⟨g1, g2, g3, g4⟩, ⟨l1, l2⟩⟩ := id hR
    subst tp' T' hb'
    have hO' : Vok V' := hO.eq' hV
    have hnp : npV V' = npV VB := hV.2.1.symm
    have hnh : nhV V' = nhV VB := hV.1.symm
    have hp5 : npV VB ≤ 5 := hO.2.1
    have hh5 : nhV VB ≤ 5 := hO.1
    have hSo : Sok VB S0 := hN.2.2.2.2.2.1
    have hPo : Pok VB P := hN.2.2.2.2.2.2.1
    have hPl : Ple P := hN.2.2.2.2.2.2.2.1
    have hps : psS S0 ≤ B := hN.2.2.2.2.2.2.2.2.1
    have hgb : ∀ W9 p, p < npV VB → Ib (ltS (gon VB L W9 S0) p) (-128) 127 := fun W9 p hp => gon_gb hO hN.2.2.2.2.2.2.2.2.2.1 hN.2.2.2.2.2.2.2.2.2.2 hp
    have hSo' : Sok V' S' := hN.Sok' hV
    have hPo' : Pok V' P' := hN.Pok' hV
    have hps' : psS S' ≤ B := hN.ps'
    have hq : Rq VB (ovr V' ((-1, -1, w, -1, false, l) : Ovr)) P P' L L' S0 S' := hN.Rq hO hV w l
    have hv : Rv VB V' ((-1, -1, w, -1, false, l) : Ovr) L L' S0 S' := ⟨hO, hq.2.1, hq.2.2.2.1, hq.2.2.2.2⟩
    have hle : (if rgB y1 (nI 0) (nI len) then nN y1 else len) ≤ 900 := by
      by_cases c : rgB y1 (nI 0) (nI len) = true
      · rw [if_pos c]; have := rg_lt (by omega) (Nat.zero_le _) c; omega
      · rw [if_neg c]; exact tb
    refine ⟨(if rgB y1 (nI 0) (nI len) then y1 else -1), (false, (if rgB y1 (nI 0) (nI len) then nN y1 else len), nx, kk, st, nu, nm, T, fk, pl, VA, XA, VB, XB, (S0, P, L, a, kp, Wn), Tt, b, Sl, W, F, hb, Q0, Q1, Q2), (V', D', (if rgB y1 (nI 0) (nI len) then nN y1 else len), T, k', f', fa', VR', XR', (S', P', L', a'), (w, l, lg, ll, Wj, Bj, fj, bp, G), K', kb', fn', hb, F', b'), (show R0 _ _ _ _ _ _ _ _ _ _ _ _ _ _ _ _ _ _ _ _ _ _ _ _ _ _ _ from ⟨⟨rfl, hle, rfl, td, te⟩, ⟨hO, hV, hso, hst, hcl⟩, hN.mono (by omega), ⟨s0.mono (by omega), s1.mono (by omega), s2.mono (by omega)⟩, ⟨fa1, fa2⟩, ⟨rfl, g2, g3, g4⟩, ⟨l1, l2⟩⟩), fun ad => ?_, fun ad => ?_⟩
    · exact lx_p0 E len nx kk st nu nm T fk pl VA XA VB XB (S0, P, L, a, kp, Wn) Tt b Sl W F hb Q0 Q1 Q2 hb (if rgB y1 (nI 0) (nI len) then nN y1 else len) T (S0, P, L, a, kp, Wn) F (fun ad r => x_end E ad r hb len (nI nx, nI kk, nI st, nI nu) (lN nm) T S0 P L a kp Wn VB XB F y1 tb) ad
    · exact lm_p E V' D' len T k' f' fa' VR' XR' (S', P', L', a') (w, l, lg, ll, Wj, Bj, fj, bp, G) K' kb' fn' hb F' b' (if rgB y1 (nI 0) (nI len) then nN y1 else len) T (fun ad r i => m_end E ad r i len (fun k => sb (T k)) y1 tb) ad
  · have hR : R0 B VA XA len T fk pl (S0, P, L, a, kp, Wn) b W F hb Q0 Q1 Q2 V' D' tp' T' k' f' fa' (S', P', L', a') K' kb' hb' F' := hR
    obtain ⟨⟨ta, tb, tc, td, te⟩, ⟨hO, hV, hso, hst, hcl⟩, hN, ⟨s0, s1, s2⟩, ⟨fa1, fa2⟩, ⟨g1, g2, g3, g4⟩, ⟨l1, l2⟩⟩ := id hR
    subst tp' T' hb'
    have hO' : Vok V' := hO.eq' hV
    have hnp : npV V' = npV VA := hV.2.1.symm
    have hnh : nhV V' = nhV VA := hV.1.symm
    have hp5 : npV VA ≤ 5 := hO.2.1
    have hh5 : nhV VA ≤ 5 := hO.1
    have hSo : Sok VA S0 := hN.2.2.2.2.2.1
    have hPo : Pok VA P := hN.2.2.2.2.2.2.1
    have hPl : Ple P := hN.2.2.2.2.2.2.2.1
    have hps : psS S0 ≤ B := hN.2.2.2.2.2.2.2.2.1
    have hgb : ∀ W9 p, p < npV VA → Ib (ltS (gon VA L W9 S0) p) (-128) 127 := fun W9 p hp => gon_gb hO hN.2.2.2.2.2.2.2.2.2.1 hN.2.2.2.2.2.2.2.2.2.2 hp
    have hSo' : Sok V' S' := hN.Sok' hV
    have hPo' : Pok V' P' := hN.Pok' hV
    have hps' : psS S' ≤ B := hN.ps'
    have hq : Rq VA (ovr V' ((-1, -1, w, -1, false, l) : Ovr)) P P' L L' S0 S' := hN.Rq hO hV w l
    have hv : Rv VA V' ((-1, -1, w, -1, false, l) : Ovr) L L' S0 S' := ⟨hO, hq.2.1, hq.2.2.2.1, hq.2.2.2.2⟩
    have hle : (if rgB y1 (nI 0) (nI len) then nN y1 else len) ≤ 900 := by
      by_cases c : rgB y1 (nI 0) (nI len) = true
      · rw [if_pos c]; have := rg_lt (by omega) (Nat.zero_le _) c; omega
      · rw [if_neg c]; exact tb
    refine ⟨(if rgB y1 (nI 0) (nI len) then y1 else -1), (true, (if rgB y1 (nI 0) (nI len) then nN y1 else len), nx, kk, st, nu, nm, T, fk, pl, VA, XA, VB, XB, (S0, P, L, a, kp, Wn), Tt, b, Sl, W, F, hb, Q0, Q1, Q2), (V', D', (if rgB y1 (nI 0) (nI len) then nN y1 else len), T, k', f', fa', VR', XR', (S', P', L', a'), (w, l, lg, ll, Wj, Bj, fj, bp, G), K', kb', fn', hb, F', b'), (show R0 _ _ _ _ _ _ _ _ _ _ _ _ _ _ _ _ _ _ _ _ _ _ _ _ _ _ _ from ⟨⟨rfl, hle, rfl, td, te⟩, ⟨hO, hV, hso, hst, hcl⟩, hN.mono (by omega), ⟨s0.mono (by omega), s1.mono (by omega), s2.mono (by omega)⟩, ⟨fa1, fa2⟩, ⟨rfl, g2, g3, g4⟩, ⟨l1, l2⟩⟩), fun ad => ?_, fun ad => ?_⟩
    · exact lx_p1 E len nx kk st nu nm T fk pl VA XA VB XB (S0, P, L, a, kp, Wn) Tt b Sl W F hb Q0 Q1 Q2 hb (if rgB y1 (nI 0) (nI len) then nN y1 else len) T (S0, P, L, a, kp, Wn) F (fun ad r => x_end E ad r hb len (nI nx, nI kk, nI st, nI nu) (lN nm) T S0 P L a kp Wn VA XA F y1 tb) ad
    · exact lm_p E V' D' len T k' f' fa' VR' XR' (S', P', L', a') (w, l, lg, ll, Wj, Bj, fj, bp, G) K' kb' fn' hb F' b' (if rgB y1 (nI 0) (nI len) then nN y1 else len) T (fun ad r i => m_end E ad r i len (fun k => sb (T k)) y1 tb) ad
set_option maxHeartbeats 4000000 in
set_option maxRecDepth 100000 in
theorem pr_plan (E : EnvT) (B : Nat) (x : Xst) (m : Mst) (y1 : Int32) (hR : RR B x m) (hB : B < 2 ^ 28) : Pr E B mX9_plan mX10_plan [.int y1] x m := by
  obtain ⟨sw, len, nx, kk, st, nu, nm, T, fk, pl, VA, XA, VB, XB, ⟨S0, P, L, a, kp, Wn⟩, Tt, b, Sl, W, F, hb, Q0, Q1, Q2⟩ := x
  obtain ⟨V', D', tp', T', k', f', fa', VR', XR', ⟨S', P', L', a'⟩, ⟨w, l, lg, ll, Wj, Bj, fj, bp, G⟩, K', kb', fn', hb', F', b'⟩ := m
  cases sw
  · have hR : R0 B VB XB len T fk pl (S0, P, L, a, kp, Wn) b W F hb Q0 Q1 Q2 V' D' tp' T' k' f' fa' (S', P', L', a') K' kb' hb' F' := hR
    obtain ⟨⟨ta, tb, tc, td, te⟩, ⟨hO, hV, hso, hst, hcl⟩, hN, ⟨s0, s1, s2⟩, ⟨fa1, fa2⟩, ⟨g1, g2, g3, g4⟩, ⟨l1, l2⟩⟩ := id hR
    subst tp' T' hb'
    have hO' : Vok V' := hO.eq' hV
    have hnp : npV V' = npV VB := hV.2.1.symm
    have hnh : nhV V' = nhV VB := hV.1.symm
    have hp5 : npV VB ≤ 5 := hO.2.1
    have hh5 : nhV VB ≤ 5 := hO.1
    have hSo : Sok VB S0 := hN.2.2.2.2.2.1
    have hPo : Pok VB P := hN.2.2.2.2.2.2.1
    have hPl : Ple P := hN.2.2.2.2.2.2.2.1
    have hps : psS S0 ≤ B := hN.2.2.2.2.2.2.2.2.1
    have hgb : ∀ W9 p, p < npV VB → Ib (ltS (gon VB L W9 S0) p) (-128) 127 := fun W9 p hp => gon_gb hO hN.2.2.2.2.2.2.2.2.2.1 hN.2.2.2.2.2.2.2.2.2.2 hp
    have hSo' : Sok V' S' := hN.Sok' hV
    have hPo' : Pok V' P' := hN.Pok' hV
    have hps' : psS S' ≤ B := hN.ps'
    have hq : Rq VB (ovr V' ((-1, -1, w, -1, false, l) : Ovr)) P P' L L' S0 S' := hN.Rq hO hV w l
    have hv : Rv VB V' ((-1, -1, w, -1, false, l) : Ovr) L L' S0 S' := ⟨hO, hq.2.1, hq.2.2.2.1, hq.2.2.2.2⟩
    have hT9 : ∀ k, k < 900 → T k < 256 := fun k _ => td k
    refine ⟨(if ixB y1 (npV VB) then (if rpA (nhV VB) len T then 1 else -1) else -2), (false, 0, nx, kk, st, nu, nm, T, fk, pl, VA, XA, VB, XB, (S0, (if ixB y1 (npV VB) then (if rpA (nhV VB) len T then rpF T (nN y1) P 4 else P) else P), L, a, kp, Wn), Tt, b, Sl, W, F, hb, Q0, Q1, Q2), (V', D', 0, T, k', f', fa', VR', XR', (S', (if ixB y1 (npV V') then (if rpA (nhV V') len T then rpF T (nN y1) P' 4 else P') else P'), L', a'), (w, l, lg, ll, Wj, Bj, fj, bp, G), K', kb', fn', hb, F', b'), (show R0 _ _ _ _ _ _ _ _ _ _ _ _ _ _ _ _ _ _ _ _ _ _ _ _ _ _ _ from ⟨⟨rfl, Nat.zero_le _, rfl, td, te⟩, ⟨hO, hV, hso, hst, hcl⟩, ?_, ⟨s0.mono (by omega), s1.mono (by omega), s2.mono (by omega)⟩, ⟨fa1, fa2⟩, ⟨rfl, g2, g3, g4⟩, ⟨l1, l2⟩⟩), fun ad => ?_, fun ad => ?_⟩
    · refine (hN.mono (show B ≤ B + 400 by omega)).setP (fun p q hp hq => ?_) ?_ ?_
      · show (if ixB y1 (npV VB) then (if rpA (nhV VB) len T then rpF T (nN y1) P 4 else P) else P) (p * 4 + q) = (if ixB y1 (npV V') then (if rpA (nhV V') len T then rpF T (nN y1) P' 4 else P') else P') (p * 4 + q)
        rw [hnp, hnh]
        by_cases c : ixB y1 (npV VB) = true
        · rw [if_pos c, if_pos c]
          by_cases c2 : rpA (nhV VB) len T = true
          · rw [if_pos c2, if_pos c2, rpF_at, rpF_at]
            by_cases c3 : nN y1 * 4 ≤ p * 4 + q ∧ p * 4 + q < nN y1 * 4 + 4
            · rw [if_pos c3, if_pos c3]
            · rw [if_neg c3, if_neg c3]; exact hN.2.1 p q hp hq
          · rw [if_neg c2, if_neg c2]; exact hN.2.1 p q hp hq
        · rw [if_neg c, if_neg c]; exact hN.2.1 p q hp hq
      · intro p hp q hq
        show (if ixB y1 (npV VB) then (if rpA (nhV VB) len T then rpF T (nN y1) P 4 else P) else P) (p * 4 + q) < nhV VB ∨ (if ixB y1 (npV VB) then (if rpA (nhV VB) len T then rpF T (nN y1) P 4 else P) else P) (p * 4 + q) = 5
        by_cases c : ixB y1 (npV VB) = true
        · rw [if_pos c]
          by_cases c2 : rpA (nhV VB) len T = true
          · rw [if_pos c2, rpF_at]
            by_cases c3 : nN y1 * 4 ≤ p * 4 + q ∧ p * 4 + q < nN y1 * 4 + 4
            · rw [if_pos c3]; exact rp_val hh5 c2 _ (by omega)
            · rw [if_neg c3]; exact hPo p hp q hq
          · rw [if_neg c2]; exact hPo p hp q hq
        · rw [if_neg c]; exact hPo p hp q hq
      · intro j hj
        show (if ixB y1 (npV VB) then (if rpA (nhV VB) len T then rpF T (nN y1) P 4 else P) else P) j ≤ 5
        by_cases c : ixB y1 (npV VB) = true
        · rw [if_pos c]
          by_cases c2 : rpA (nhV VB) len T = true
          · rw [if_pos c2, rpF_at]
            by_cases c3 : nN y1 * 4 ≤ j ∧ j < nN y1 * 4 + 4
            · rw [if_pos c3]; have := rp_val hh5 c2 (j - nN y1 * 4) (by omega); omega
            · rw [if_neg c3]; exact hPl j hj
          · rw [if_neg c2]; exact hPl j hj
        · rw [if_neg c]; exact hPl j hj
    · exact lx_p0 E len nx kk st nu nm T fk pl VA XA VB XB (S0, P, L, a, kp, Wn) Tt b Sl W F hb Q0 Q1 Q2 hb 0 T (S0, (if ixB y1 (npV VB) then (if rpA (nhV VB) len T then rpF T (nN y1) P 4 else P) else P), L, a, kp, Wn) F (fun ad r => x_plan E ad r hb len (nI nx, nI kk, nI st, nI nu) (lN nm) T S0 P L a kp Wn VB XB F y1 hO tb hT9) ad
    · exact Md.ans (lm_n E V' D' len T k' f' fa' VR' XR' (S', P', L', a') (w, l, lg, ll, Wj, Bj, fj, bp, G) K' kb' fn' hb F' b' 0 (S', (if ixB y1 (npV V') then (if rpA (nhV V') len T then rpF T (nN y1) P' 4 else P') else P'), L', a') (fun ad r i => m_plan E ad r i (nhV V') (npV V') len T S' P' L' a' y1 (by omega) (by omega) tb hT9) ad) (by rw [hnp, hnh])
  · have hR : R0 B VA XA len T fk pl (S0, P, L, a, kp, Wn) b W F hb Q0 Q1 Q2 V' D' tp' T' k' f' fa' (S', P', L', a') K' kb' hb' F' := hR
    obtain ⟨⟨ta, tb, tc, td, te⟩, ⟨hO, hV, hso, hst, hcl⟩, hN, ⟨s0, s1, s2⟩, ⟨fa1, fa2⟩, ⟨g1, g2, g3, g4⟩, ⟨l1, l2⟩⟩ := id hR
    subst tp' T' hb'
    have hO' : Vok V' := hO.eq' hV
    have hnp : npV V' = npV VA := hV.2.1.symm
    have hnh : nhV V' = nhV VA := hV.1.symm
    have hp5 : npV VA ≤ 5 := hO.2.1
    have hh5 : nhV VA ≤ 5 := hO.1
    have hSo : Sok VA S0 := hN.2.2.2.2.2.1
    have hPo : Pok VA P := hN.2.2.2.2.2.2.1
    have hPl : Ple P := hN.2.2.2.2.2.2.2.1
    have hps : psS S0 ≤ B := hN.2.2.2.2.2.2.2.2.1
    have hgb : ∀ W9 p, p < npV VA → Ib (ltS (gon VA L W9 S0) p) (-128) 127 := fun W9 p hp => gon_gb hO hN.2.2.2.2.2.2.2.2.2.1 hN.2.2.2.2.2.2.2.2.2.2 hp
    have hSo' : Sok V' S' := hN.Sok' hV
    have hPo' : Pok V' P' := hN.Pok' hV
    have hps' : psS S' ≤ B := hN.ps'
    have hq : Rq VA (ovr V' ((-1, -1, w, -1, false, l) : Ovr)) P P' L L' S0 S' := hN.Rq hO hV w l
    have hv : Rv VA V' ((-1, -1, w, -1, false, l) : Ovr) L L' S0 S' := ⟨hO, hq.2.1, hq.2.2.2.1, hq.2.2.2.2⟩
    have hT9 : ∀ k, k < 900 → T k < 256 := fun k _ => td k
    refine ⟨(if ixB y1 (npV VA) then (if rpA (nhV VA) len T then 1 else -1) else -2), (true, 0, nx, kk, st, nu, nm, T, fk, pl, VA, XA, VB, XB, (S0, (if ixB y1 (npV VA) then (if rpA (nhV VA) len T then rpF T (nN y1) P 4 else P) else P), L, a, kp, Wn), Tt, b, Sl, W, F, hb, Q0, Q1, Q2), (V', D', 0, T, k', f', fa', VR', XR', (S', (if ixB y1 (npV V') then (if rpA (nhV V') len T then rpF T (nN y1) P' 4 else P') else P'), L', a'), (w, l, lg, ll, Wj, Bj, fj, bp, G), K', kb', fn', hb, F', b'), (show R0 _ _ _ _ _ _ _ _ _ _ _ _ _ _ _ _ _ _ _ _ _ _ _ _ _ _ _ from ⟨⟨rfl, Nat.zero_le _, rfl, td, te⟩, ⟨hO, hV, hso, hst, hcl⟩, ?_, ⟨s0.mono (by omega), s1.mono (by omega), s2.mono (by omega)⟩, ⟨fa1, fa2⟩, ⟨rfl, g2, g3, g4⟩, ⟨l1, l2⟩⟩), fun ad => ?_, fun ad => ?_⟩
    · refine (hN.mono (show B ≤ B + 400 by omega)).setP (fun p q hp hq => ?_) ?_ ?_
      · show (if ixB y1 (npV VA) then (if rpA (nhV VA) len T then rpF T (nN y1) P 4 else P) else P) (p * 4 + q) = (if ixB y1 (npV V') then (if rpA (nhV V') len T then rpF T (nN y1) P' 4 else P') else P') (p * 4 + q)
        rw [hnp, hnh]
        by_cases c : ixB y1 (npV VA) = true
        · rw [if_pos c, if_pos c]
          by_cases c2 : rpA (nhV VA) len T = true
          · rw [if_pos c2, if_pos c2, rpF_at, rpF_at]
            by_cases c3 : nN y1 * 4 ≤ p * 4 + q ∧ p * 4 + q < nN y1 * 4 + 4
            · rw [if_pos c3, if_pos c3]
            · rw [if_neg c3, if_neg c3]; exact hN.2.1 p q hp hq
          · rw [if_neg c2, if_neg c2]; exact hN.2.1 p q hp hq
        · rw [if_neg c, if_neg c]; exact hN.2.1 p q hp hq
      · intro p hp q hq
        show (if ixB y1 (npV VA) then (if rpA (nhV VA) len T then rpF T (nN y1) P 4 else P) else P) (p * 4 + q) < nhV VA ∨ (if ixB y1 (npV VA) then (if rpA (nhV VA) len T then rpF T (nN y1) P 4 else P) else P) (p * 4 + q) = 5
        by_cases c : ixB y1 (npV VA) = true
        · rw [if_pos c]
          by_cases c2 : rpA (nhV VA) len T = true
          · rw [if_pos c2, rpF_at]
            by_cases c3 : nN y1 * 4 ≤ p * 4 + q ∧ p * 4 + q < nN y1 * 4 + 4
            · rw [if_pos c3]; exact rp_val hh5 c2 _ (by omega)
            · rw [if_neg c3]; exact hPo p hp q hq
          · rw [if_neg c2]; exact hPo p hp q hq
        · rw [if_neg c]; exact hPo p hp q hq
      · intro j hj
        show (if ixB y1 (npV VA) then (if rpA (nhV VA) len T then rpF T (nN y1) P 4 else P) else P) j ≤ 5
        by_cases c : ixB y1 (npV VA) = true
        · rw [if_pos c]
          by_cases c2 : rpA (nhV VA) len T = true
          · rw [if_pos c2, rpF_at]
            by_cases c3 : nN y1 * 4 ≤ j ∧ j < nN y1 * 4 + 4
            · rw [if_pos c3]; have := rp_val hh5 c2 (j - nN y1 * 4) (by omega); omega
            · rw [if_neg c3]; exact hPl j hj
          · rw [if_neg c2]; exact hPl j hj
        · rw [if_neg c]; exact hPl j hj
    · exact lx_p1 E len nx kk st nu nm T fk pl VA XA VB XB (S0, P, L, a, kp, Wn) Tt b Sl W F hb Q0 Q1 Q2 hb 0 T (S0, (if ixB y1 (npV VA) then (if rpA (nhV VA) len T then rpF T (nN y1) P 4 else P) else P), L, a, kp, Wn) F (fun ad r => x_plan E ad r hb len (nI nx, nI kk, nI st, nI nu) (lN nm) T S0 P L a kp Wn VA XA F y1 hO tb hT9) ad
    · exact Md.ans (lm_n E V' D' len T k' f' fa' VR' XR' (S', P', L', a') (w, l, lg, ll, Wj, Bj, fj, bp, G) K' kb' fn' hb F' b' 0 (S', (if ixB y1 (npV V') then (if rpA (nhV V') len T then rpF T (nN y1) P' 4 else P') else P'), L', a') (fun ad r i => m_plan E ad r i (nhV V') (npV V') len T S' P' L' a' y1 (by omega) (by omega) tb hT9) ad) (by rw [hnp, hnh])
set_option maxHeartbeats 4000000 in
set_option maxRecDepth 100000 in
theorem pr_feast (E : EnvT) (B : Nat) (x : Xst) (m : Mst)  (hR : RR B x m) (hB : B < 2 ^ 28) : Pr E B mX9_feast mX10_feast [] x m := by
  obtain ⟨sw, len, nx, kk, st, nu, nm, T, fk, pl, VA, XA, VB, XB, ⟨S0, P, L, a, kp, Wn⟩, Tt, b, Sl, W, F, hb, Q0, Q1, Q2⟩ := x
  obtain ⟨V', D', tp', T', k', f', fa', VR', XR', ⟨S', P', L', a'⟩, ⟨w, l, lg, ll, Wj, Bj, fj, bp, G⟩, K', kb', fn', hb', F', b'⟩ := m
  cases sw
  · have hR : R0 B VB XB len T fk pl (S0, P, L, a, kp, Wn) b W F hb Q0 Q1 Q2 V' D' tp' T' k' f' fa' (S', P', L', a') K' kb' hb' F' := hR
    obtain ⟨⟨ta, tb, tc, td, te⟩, ⟨hO, hV, hso, hst, hcl⟩, hN, ⟨s0, s1, s2⟩, ⟨fa1, fa2⟩, ⟨g1, g2, g3, g4⟩, ⟨l1, l2⟩⟩ := id hR
    subst tp' T' hb'
    have hO' : Vok V' := hO.eq' hV
    have hnp : npV V' = npV VB := hV.2.1.symm
    have hnh : nhV V' = nhV VB := hV.1.symm
    have hp5 : npV VB ≤ 5 := hO.2.1
    have hh5 : nhV VB ≤ 5 := hO.1
    have hSo : Sok VB S0 := hN.2.2.2.2.2.1
    have hPo : Pok VB P := hN.2.2.2.2.2.2.1
    have hPl : Ple P := hN.2.2.2.2.2.2.2.1
    have hps : psS S0 ≤ B := hN.2.2.2.2.2.2.2.2.1
    have hgb : ∀ W9 p, p < npV VB → Ib (ltS (gon VB L W9 S0) p) (-128) 127 := fun W9 p hp => gon_gb hO hN.2.2.2.2.2.2.2.2.2.1 hN.2.2.2.2.2.2.2.2.2.2 hp
    have hSo' : Sok V' S' := hN.Sok' hV
    have hPo' : Pok V' P' := hN.Pok' hV
    have hps' : psS S' ≤ B := hN.ps'
    have hq : Rq VB (ovr V' ((-1, -1, w, -1, false, l) : Ovr)) P P' L L' S0 S' := hN.Rq hO hV w l
    have hv : Rv VB V' ((-1, -1, w, -1, false, l) : Ovr) L L' S0 S' := ⟨hO, hq.2.1, hq.2.2.2.1, hq.2.2.2.2⟩
    have hT9 : ∀ k, k < 900 → T k < 256 := fun k _ => td k
    refine ⟨(if (ftB (npV VB) len T) then feN (frW T F (npV VB)) (npV VB) 119 1 else -1), (false, 0, nx, kk, st, nu, nm, T, fk, pl, VA, XA, VB, XB, (S0, P, L, a, kp, Wn), Tt, b, Sl, W, (if (ftB (npV VB) len T) then frW T F (npV VB) else F), (if (ftB (npV VB) len T) then true else hb), Q0, Q1, Q2), (V', D', 0, T, k', f', fa', VR', XR', (S', P', L', a'), (w, l, lg, ll, Wj, Bj, fj, bp, G), K', kb', (if (ftB (npV V') len T) then npV V' else fn'), (if (ftB (npV V') len T) then true else hb), (if (ftB (npV V') len T) then frW T F' (npV V') else F'), b'), (show R0 _ _ _ _ _ _ _ _ _ _ _ _ _ _ _ _ _ _ _ _ _ _ _ _ _ _ _ from ⟨⟨rfl, Nat.zero_le _, rfl, td, te⟩, ⟨hO, hV, hso, hst, hcl⟩, hN.mono (by omega), ⟨s0.mono (by omega), s1.mono (by omega), s2.mono (by omega)⟩, ⟨fa1, fa2⟩, ⟨by rw [hnp], fun hz p hp => (by
        have hp : p < npV VB := hp
        show (if (ftB (npV VB) len T) then frW T F (npV VB) else F) p = (if (ftB (npV V') len T) then frW T F' (npV V') else F') p ∧ (if (ftB (npV VB) len T) then frW T F (npV VB) else F) p < npV VB
        rw [hnp]
        by_cases c : (ftB (npV VB) len T) = true
        · rw [if_pos c, if_pos c, frW_at, frW_at, if_pos hp, if_pos hp]
          have hz2 := (feast_per hp5 c F).1 p hp
          rw [frW_at, if_pos hp] at hz2
          exact ⟨rfl, hz2⟩
        · rw [if_neg c, if_neg c]
          have hz : (if (ftB (npV VB) len T) then true else hb) = true := hz
          rw [if_neg c] at hz
          exact g2 hz p hp), fun k hk => (by
        show (if (ftB (npV VB) len T) then frW T F (npV VB) else F) k < 5
        by_cases c : (ftB (npV VB) len T) = true
        · rw [if_pos c]
          by_cases ck : k < npV VB
          · have := (feast_per hp5 c F).1 k ck; omega
          · rw [frW_at, if_neg ck]; exact g3 k hk
        · rw [if_neg c]; exact g3 k hk), fun k hk => (by
        show (if (ftB (npV V') len T) then frW T F' (npV V') else F') k < 5
        rw [hnp]
        by_cases c : (ftB (npV VB) len T) = true
        · rw [if_pos c]
          by_cases ck : k < npV VB
          · have := (feast_per hp5 c F').1 k ck; omega
          · rw [frW_at, if_neg ck]; exact g4 k hk
        · rw [if_neg c]; exact g4 k hk)⟩, ⟨l1, l2⟩⟩), fun ad => ?_, fun ad => ?_⟩
    · exact lx_p0 E len nx kk st nu nm T fk pl VA XA VB XB (S0, P, L, a, kp, Wn) Tt b Sl W F hb Q0 Q1 Q2 (if (ftB (npV VB) len T) then true else hb) 0 T (S0, P, L, a, kp, Wn) (if (ftB (npV VB) len T) then frW T F (npV VB) else F) (fun ad r => x_feast E ad r hb len (nI nx, nI kk, nI st, nI nu) (lN nm) T S0 P L a kp Wn VB XB F hO tb g3) ad
    · exact Md.ans (lm_f E V' D' len T k' f' fa' VR' XR' (S', P', L', a') (w, l, lg, ll, Wj, Bj, fj, bp, G) K' kb' fn' hb F' b' 0 (if (ftB (npV V') len T) then npV V' else fn') (if (ftB (npV V') len T) then true else hb) (if (ftB (npV V') len T) then frW T F' (npV V') else F') (fun ad r i => m_feast E ad r i (npV V') len fn' hb T F' (by omega) tb hT9 g4 (fun hz => (feast_per (by omega) hz F').2)) ad) (by
        rw [hnp]
        by_cases c : (ftB (npV VB) len T) = true
        · rw [if_pos c, if_pos c]; exact (feast_eq hp5 c F F').symm
        · rw [if_neg c, if_neg c])
  · have hR : R0 B VA XA len T fk pl (S0, P, L, a, kp, Wn) b W F hb Q0 Q1 Q2 V' D' tp' T' k' f' fa' (S', P', L', a') K' kb' hb' F' := hR
    obtain ⟨⟨ta, tb, tc, td, te⟩, ⟨hO, hV, hso, hst, hcl⟩, hN, ⟨s0, s1, s2⟩, ⟨fa1, fa2⟩, ⟨g1, g2, g3, g4⟩, ⟨l1, l2⟩⟩ := id hR
    subst tp' T' hb'
    have hO' : Vok V' := hO.eq' hV
    have hnp : npV V' = npV VA := hV.2.1.symm
    have hnh : nhV V' = nhV VA := hV.1.symm
    have hp5 : npV VA ≤ 5 := hO.2.1
    have hh5 : nhV VA ≤ 5 := hO.1
    have hSo : Sok VA S0 := hN.2.2.2.2.2.1
    have hPo : Pok VA P := hN.2.2.2.2.2.2.1
    have hPl : Ple P := hN.2.2.2.2.2.2.2.1
    have hps : psS S0 ≤ B := hN.2.2.2.2.2.2.2.2.1
    have hgb : ∀ W9 p, p < npV VA → Ib (ltS (gon VA L W9 S0) p) (-128) 127 := fun W9 p hp => gon_gb hO hN.2.2.2.2.2.2.2.2.2.1 hN.2.2.2.2.2.2.2.2.2.2 hp
    have hSo' : Sok V' S' := hN.Sok' hV
    have hPo' : Pok V' P' := hN.Pok' hV
    have hps' : psS S' ≤ B := hN.ps'
    have hq : Rq VA (ovr V' ((-1, -1, w, -1, false, l) : Ovr)) P P' L L' S0 S' := hN.Rq hO hV w l
    have hv : Rv VA V' ((-1, -1, w, -1, false, l) : Ovr) L L' S0 S' := ⟨hO, hq.2.1, hq.2.2.2.1, hq.2.2.2.2⟩
    have hT9 : ∀ k, k < 900 → T k < 256 := fun k _ => td k
    refine ⟨(if (ftB (npV VA) len T) then feN (frW T F (npV VA)) (npV VA) 119 1 else -1), (true, 0, nx, kk, st, nu, nm, T, fk, pl, VA, XA, VB, XB, (S0, P, L, a, kp, Wn), Tt, b, Sl, W, (if (ftB (npV VA) len T) then frW T F (npV VA) else F), (if (ftB (npV VA) len T) then true else hb), Q0, Q1, Q2), (V', D', 0, T, k', f', fa', VR', XR', (S', P', L', a'), (w, l, lg, ll, Wj, Bj, fj, bp, G), K', kb', (if (ftB (npV V') len T) then npV V' else fn'), (if (ftB (npV V') len T) then true else hb), (if (ftB (npV V') len T) then frW T F' (npV V') else F'), b'), (show R0 _ _ _ _ _ _ _ _ _ _ _ _ _ _ _ _ _ _ _ _ _ _ _ _ _ _ _ from ⟨⟨rfl, Nat.zero_le _, rfl, td, te⟩, ⟨hO, hV, hso, hst, hcl⟩, hN.mono (by omega), ⟨s0.mono (by omega), s1.mono (by omega), s2.mono (by omega)⟩, ⟨fa1, fa2⟩, ⟨by rw [hnp], fun hz p hp => (by
        have hp : p < npV VA := hp
        show (if (ftB (npV VA) len T) then frW T F (npV VA) else F) p = (if (ftB (npV V') len T) then frW T F' (npV V') else F') p ∧ (if (ftB (npV VA) len T) then frW T F (npV VA) else F) p < npV VA
        rw [hnp]
        by_cases c : (ftB (npV VA) len T) = true
        · rw [if_pos c, if_pos c, frW_at, frW_at, if_pos hp, if_pos hp]
          have hz2 := (feast_per hp5 c F).1 p hp
          rw [frW_at, if_pos hp] at hz2
          exact ⟨rfl, hz2⟩
        · rw [if_neg c, if_neg c]
          have hz : (if (ftB (npV VA) len T) then true else hb) = true := hz
          rw [if_neg c] at hz
          exact g2 hz p hp), fun k hk => (by
        show (if (ftB (npV VA) len T) then frW T F (npV VA) else F) k < 5
        by_cases c : (ftB (npV VA) len T) = true
        · rw [if_pos c]
          by_cases ck : k < npV VA
          · have := (feast_per hp5 c F).1 k ck; omega
          · rw [frW_at, if_neg ck]; exact g3 k hk
        · rw [if_neg c]; exact g3 k hk), fun k hk => (by
        show (if (ftB (npV V') len T) then frW T F' (npV V') else F') k < 5
        rw [hnp]
        by_cases c : (ftB (npV VA) len T) = true
        · rw [if_pos c]
          by_cases ck : k < npV VA
          · have := (feast_per hp5 c F').1 k ck; omega
          · rw [frW_at, if_neg ck]; exact g4 k hk
        · rw [if_neg c]; exact g4 k hk)⟩, ⟨l1, l2⟩⟩), fun ad => ?_, fun ad => ?_⟩
    · exact lx_p1 E len nx kk st nu nm T fk pl VA XA VB XB (S0, P, L, a, kp, Wn) Tt b Sl W F hb Q0 Q1 Q2 (if (ftB (npV VA) len T) then true else hb) 0 T (S0, P, L, a, kp, Wn) (if (ftB (npV VA) len T) then frW T F (npV VA) else F) (fun ad r => x_feast E ad r hb len (nI nx, nI kk, nI st, nI nu) (lN nm) T S0 P L a kp Wn VA XA F hO tb g3) ad
    · exact Md.ans (lm_f E V' D' len T k' f' fa' VR' XR' (S', P', L', a') (w, l, lg, ll, Wj, Bj, fj, bp, G) K' kb' fn' hb F' b' 0 (if (ftB (npV V') len T) then npV V' else fn') (if (ftB (npV V') len T) then true else hb) (if (ftB (npV V') len T) then frW T F' (npV V') else F') (fun ad r i => m_feast E ad r i (npV V') len fn' hb T F' (by omega) tb hT9 g4 (fun hz => (feast_per (by omega) hz F').2)) ad) (by
        rw [hnp]
        by_cases c : (ftB (npV VA) len T) = true
        · rw [if_pos c, if_pos c]; exact (feast_eq hp5 c F F').symm
        · rw [if_neg c, if_neg c])
set_option maxHeartbeats 4000000 in
set_option maxRecDepth 100000 in
theorem pr_turned (E : EnvT) (B : Nat) (x : Xst) (m : Mst) (y1 : Int32) (y2 : Int32) (hR : RR B x m) (hB : B < 2 ^ 28) : Pr E B mX9_turned mX10_turned [.int y1, .int y2] x m := by
  obtain ⟨sw, len, nx, kk, st, nu, nm, T, fk, pl, VA, XA, VB, XB, ⟨S0, P, L, a, kp, Wn⟩, Tt, b, Sl, W, F, hb, Q0, Q1, Q2⟩ := x
  obtain ⟨V', D', tp', T', k', f', fa', VR', XR', ⟨S', P', L', a'⟩, ⟨w, l, lg, ll, Wj, Bj, fj, bp, G⟩, K', kb', fn', hb', F', b'⟩ := m
  cases sw
  · have hR : R0 B VB XB len T fk pl (S0, P, L, a, kp, Wn) b W F hb Q0 Q1 Q2 V' D' tp' T' k' f' fa' (S', P', L', a') K' kb' hb' F' := hR
    obtain ⟨⟨ta, tb, tc, td, te⟩, ⟨hO, hV, hso, hst, hcl⟩, hN, ⟨s0, s1, s2⟩, ⟨fa1, fa2⟩, ⟨g1, g2, g3, g4⟩, ⟨l1, l2⟩⟩ := id hR
    subst tp' T' hb'
    have hO' : Vok V' := hO.eq' hV
    have hnp : npV V' = npV VB := hV.2.1.symm
    have hnh : nhV V' = nhV VB := hV.1.symm
    have hp5 : npV VB ≤ 5 := hO.2.1
    have hh5 : nhV VB ≤ 5 := hO.1
    have hSo : Sok VB S0 := hN.2.2.2.2.2.1
    have hPo : Pok VB P := hN.2.2.2.2.2.2.1
    have hPl : Ple P := hN.2.2.2.2.2.2.2.1
    have hps : psS S0 ≤ B := hN.2.2.2.2.2.2.2.2.1
    have hgb : ∀ W9 p, p < npV VB → Ib (ltS (gon VB L W9 S0) p) (-128) 127 := fun W9 p hp => gon_gb hO hN.2.2.2.2.2.2.2.2.2.1 hN.2.2.2.2.2.2.2.2.2.2 hp
    have hSo' : Sok V' S' := hN.Sok' hV
    have hPo' : Pok V' P' := hN.Pok' hV
    have hps' : psS S' ≤ B := hN.ps'
    have hq : Rq VB (ovr V' ((-1, -1, w, -1, false, l) : Ovr)) P P' L L' S0 S' := hN.Rq hO hV w l
    have hv : Rv VB V' ((-1, -1, w, -1, false, l) : Ovr) L L' S0 S' := ⟨hO, hq.2.1, hq.2.2.2.1, hq.2.2.2.2⟩
    refine ⟨(if (ixB y1 (npV VB) && rgB y2 (nI 0) (nI 999)) then (if hb then nI (plB F (npV VB) (nN y1) (nN y2)) else -1) else -2), (false, len, nx, kk, st, nu, nm, T, fk, pl, VA, XA, VB, XB, (S0, P, L, a, kp, Wn), Tt, b, Sl, W, F, hb, Q0, Q1, Q2), (V', D', len, T, k', f', fa', VR', XR', (S', P', L', a'), (w, l, lg, ll, Wj, Bj, fj, bp, G), K', kb', fn', hb, F', b'), (show R0 _ _ _ _ _ _ _ _ _ _ _ _ _ _ _ _ _ _ _ _ _ _ _ _ _ _ _ from hR.mono (by omega)), fun ad => ?_, fun ad => ?_⟩
    · exact lx_p0 E len nx kk st nu nm T fk pl VA XA VB XB (S0, P, L, a, kp, Wn) Tt b Sl W F hb Q0 Q1 Q2 hb len T (S0, P, L, a, kp, Wn) F (fun ad r => x_turned E ad r hb len (nI nx, nI kk, nI st, nI nu) (lN nm) T S0 P L a kp Wn VB XB F y1 y2 hO g3) ad
    · exact Md.ans (lm_f E V' D' len T k' f' fa' VR' XR' (S', P', L', a') (w, l, lg, ll, Wj, Bj, fj, bp, G) K' kb' fn' hb F' b' len fn' hb F' (fun ad r i => m_turned E ad r i (npV V') len fn' hb T F' y1 y2 (by omega) g4) ad) (by
        rw [hnp]
        by_cases c : (ixB y1 (npV VB) && rgB y2 (nI 0) (nI 999)) = true
        · rw [if_pos c, if_pos c]
          by_cases ch : hb = true
          · rw [if_pos ch, if_pos ch, (plB_mb (g2 ch) (nN y2) (nN y1) (ix_lt hp5 (Bool.and_eq_true_iff.mp c).1)).1]
          · rw [if_neg ch, if_neg ch]
        · rw [if_neg c, if_neg c])
  · have hR : R0 B VA XA len T fk pl (S0, P, L, a, kp, Wn) b W F hb Q0 Q1 Q2 V' D' tp' T' k' f' fa' (S', P', L', a') K' kb' hb' F' := hR
    obtain ⟨⟨ta, tb, tc, td, te⟩, ⟨hO, hV, hso, hst, hcl⟩, hN, ⟨s0, s1, s2⟩, ⟨fa1, fa2⟩, ⟨g1, g2, g3, g4⟩, ⟨l1, l2⟩⟩ := id hR
    subst tp' T' hb'
    have hO' : Vok V' := hO.eq' hV
    have hnp : npV V' = npV VA := hV.2.1.symm
    have hnh : nhV V' = nhV VA := hV.1.symm
    have hp5 : npV VA ≤ 5 := hO.2.1
    have hh5 : nhV VA ≤ 5 := hO.1
    have hSo : Sok VA S0 := hN.2.2.2.2.2.1
    have hPo : Pok VA P := hN.2.2.2.2.2.2.1
    have hPl : Ple P := hN.2.2.2.2.2.2.2.1
    have hps : psS S0 ≤ B := hN.2.2.2.2.2.2.2.2.1
    have hgb : ∀ W9 p, p < npV VA → Ib (ltS (gon VA L W9 S0) p) (-128) 127 := fun W9 p hp => gon_gb hO hN.2.2.2.2.2.2.2.2.2.1 hN.2.2.2.2.2.2.2.2.2.2 hp
    have hSo' : Sok V' S' := hN.Sok' hV
    have hPo' : Pok V' P' := hN.Pok' hV
    have hps' : psS S' ≤ B := hN.ps'
    have hq : Rq VA (ovr V' ((-1, -1, w, -1, false, l) : Ovr)) P P' L L' S0 S' := hN.Rq hO hV w l
    have hv : Rv VA V' ((-1, -1, w, -1, false, l) : Ovr) L L' S0 S' := ⟨hO, hq.2.1, hq.2.2.2.1, hq.2.2.2.2⟩
    refine ⟨(if (ixB y1 (npV VA) && rgB y2 (nI 0) (nI 999)) then (if hb then nI (plB F (npV VA) (nN y1) (nN y2)) else -1) else -2), (true, len, nx, kk, st, nu, nm, T, fk, pl, VA, XA, VB, XB, (S0, P, L, a, kp, Wn), Tt, b, Sl, W, F, hb, Q0, Q1, Q2), (V', D', len, T, k', f', fa', VR', XR', (S', P', L', a'), (w, l, lg, ll, Wj, Bj, fj, bp, G), K', kb', fn', hb, F', b'), (show R0 _ _ _ _ _ _ _ _ _ _ _ _ _ _ _ _ _ _ _ _ _ _ _ _ _ _ _ from hR.mono (by omega)), fun ad => ?_, fun ad => ?_⟩
    · exact lx_p1 E len nx kk st nu nm T fk pl VA XA VB XB (S0, P, L, a, kp, Wn) Tt b Sl W F hb Q0 Q1 Q2 hb len T (S0, P, L, a, kp, Wn) F (fun ad r => x_turned E ad r hb len (nI nx, nI kk, nI st, nI nu) (lN nm) T S0 P L a kp Wn VA XA F y1 y2 hO g3) ad
    · exact Md.ans (lm_f E V' D' len T k' f' fa' VR' XR' (S', P', L', a') (w, l, lg, ll, Wj, Bj, fj, bp, G) K' kb' fn' hb F' b' len fn' hb F' (fun ad r i => m_turned E ad r i (npV V') len fn' hb T F' y1 y2 (by omega) g4) ad) (by
        rw [hnp]
        by_cases c : (ixB y1 (npV VA) && rgB y2 (nI 0) (nI 999)) = true
        · rw [if_pos c, if_pos c]
          by_cases ch : hb = true
          · rw [if_pos ch, if_pos ch, (plB_mb (g2 ch) (nN y2) (nN y1) (ix_lt hp5 (Bool.and_eq_true_iff.mp c).1)).1]
          · rw [if_neg ch, if_neg ch]
        · rw [if_neg c, if_neg c])
set_option maxHeartbeats 4000000 in
set_option maxRecDepth 100000 in
theorem pr_keep (E : EnvT) (B : Nat) (x : Xst) (m : Mst) (y1 : Int32) (hR : RR B x m) (hB : B < 2 ^ 28) : Pr E B mX9_keep mX10_keep [.int y1] x m := by
  obtain ⟨sw, len, nx, kk, st, nu, nm, T, fk, pl, VA, XA, VB, XB, ⟨S0, P, L, a, kp, Wn⟩, Tt, b, Sl, W, F, hb, Q0, Q1, Q2⟩ := x
  obtain ⟨V', D', tp', T', k', f', fa', VR', XR', ⟨S', P', L', a'⟩, ⟨w, l, lg, ll, Wj, Bj, fj, bp, G⟩, K', kb', fn', hb', F', b'⟩ := m
  cases sw
  · have hR : R0 B VB XB len T fk pl (S0, P, L, a, kp, Wn) b W F hb Q0 Q1 Q2 V' D' tp' T' k' f' fa' (S', P', L', a') K' kb' hb' F' := hR
    obtain ⟨⟨ta, tb, tc, td, te⟩, ⟨hO, hV, hso, hst, hcl⟩, hN, ⟨s0, s1, s2⟩, ⟨fa1, fa2⟩, ⟨g1, g2, g3, g4⟩, ⟨l1, l2⟩⟩ := id hR
    subst tp' T' hb'
    have hO' : Vok V' := hO.eq' hV
    have hnp : npV V' = npV VB := hV.2.1.symm
    have hnh : nhV V' = nhV VB := hV.1.symm
    have hp5 : npV VB ≤ 5 := hO.2.1
    have hh5 : nhV VB ≤ 5 := hO.1
    have hSo : Sok VB S0 := hN.2.2.2.2.2.1
    have hPo : Pok VB P := hN.2.2.2.2.2.2.1
    have hPl : Ple P := hN.2.2.2.2.2.2.2.1
    have hps : psS S0 ≤ B := hN.2.2.2.2.2.2.2.2.1
    have hgb : ∀ W9 p, p < npV VB → Ib (ltS (gon VB L W9 S0) p) (-128) 127 := fun W9 p hp => gon_gb hO hN.2.2.2.2.2.2.2.2.2.1 hN.2.2.2.2.2.2.2.2.2.2 hp
    have hSo' : Sok V' S' := hN.Sok' hV
    have hPo' : Pok V' P' := hN.Pok' hV
    have hps' : psS S' ≤ B := hN.ps'
    have hq : Rq VB (ovr V' ((-1, -1, w, -1, false, l) : Ovr)) P P' L L' S0 S' := hN.Rq hO hV w l
    have hv : Rv VB V' ((-1, -1, w, -1, false, l) : Ovr) L L' S0 S' := ⟨hO, hq.2.1, hq.2.2.2.1, hq.2.2.2.2⟩
    by_cases c : rgB y1 (nI 0) (nI 2) = true
    · obtain ⟨s, -, hs, rfl⟩ := rgB_n (by decide) (by decide) c
      rcases (show s = 0 ∨ s = 1 ∨ s = 2 by omega) with rfl | rfl | rfl
      · refine ⟨nI (psS S0), (false, len, nx, kk, st, nu, nm, T, fk, pl, VA, XA, VB, XB, (S0, P, L, a, kp, Wn), Tt, b, Sl, W, F, hb, (kpQ (S0, P, L, a, kp, Wn) Q0), Q1, Q2), (V', D', len, T, k', f', fa', VR', XR', (S', P', L', a'), (w, l, lg, ll, Wj, Bj, fj, bp, G), (ksF (rwF S' P' L' a') K' 0 57), (upB kb' 0 true), fn', hb, F', b'), (show R0 _ _ _ _ _ _ _ _ _ _ _ _ _ _ _ _ _ _ _ _ _ _ _ _ _ _ _ from ⟨⟨rfl, tb, rfl, td, te⟩, ⟨hO, hV, hso, hst, hcl⟩, hN.mono (by omega), ⟨⟨rfl, fun _ => ⟨(S', P', L', a'), fun j hj => (by show (ksF (rwF S' P' L' a') K' 0 57) (57 * 0 + j) = _; rw [ks_at, if_pos (by omega), show 57 * 0 + j - 57 * 0 = j by omega]), hN.mono (by omega)⟩⟩, ⟨s1.1, fun z => (by obtain ⟨Nq, z1, z2⟩ := s1.2 z; exact ⟨Nq, fun j hj => (by show (ksF (rwF S' P' L' a') K' 0 57) (57 * 1 + j) = _; rw [ks_at, if_neg (by omega)]; exact z1 j hj), z2.mono (by omega)⟩)⟩, ⟨s2.1, fun z => (by obtain ⟨Nq, z1, z2⟩ := s2.2 z; exact ⟨Nq, fun j hj => (by show (ksF (rwF S' P' L' a') K' 0 57) (57 * 2 + j) = _; rw [ks_at, if_neg (by omega)]; exact z1 j hj), z2.mono (by omega)⟩)⟩⟩, ⟨fa1, fa2⟩, ⟨rfl, g2, g3, g4⟩, ⟨l1, l2⟩⟩), fun ad => ?_, fun ad => ?_⟩
        · exact lx_k E false len nx kk st nu nm T fk pl VA XA VB XB (S0, P, L, a, kp, Wn) Tt b Sl W F hb Q0 Q1 Q2 (S0, P, L, a, kp, Wn) (kpQ (S0, P, L, a, kp, Wn) Q0) Q1 Q2 (fun ad r => x_keep E ad r (bI hb) (S0, P, L, a, kp, Wn) Q0 Q1 Q2 (nI 0)) ad
        · exact Md.ans (lm_k E V' D' len T k' f' fa' VR' XR' (S', P', L', a') (w, l, lg, ll, Wj, Bj, fj, bp, G) K' kb' fn' hb F' b' (ksF (rwF S' P' L' a') K' 0 57) (upB kb' 0 true) (fun ad r i => m_keep E ad r i K' kb' S' P' L' a' (nI 0)) ad) (by
            have e : psS S0 = psS S' := hN.1.1
            rw [if_pos c, e])
      · refine ⟨nI (psS S0), (false, len, nx, kk, st, nu, nm, T, fk, pl, VA, XA, VB, XB, (S0, P, L, a, kp, Wn), Tt, b, Sl, W, F, hb, Q0, (kpQ (S0, P, L, a, kp, Wn) Q1), Q2), (V', D', len, T, k', f', fa', VR', XR', (S', P', L', a'), (w, l, lg, ll, Wj, Bj, fj, bp, G), (ksF (rwF S' P' L' a') K' 1 57), (upB kb' 1 true), fn', hb, F', b'), (show R0 _ _ _ _ _ _ _ _ _ _ _ _ _ _ _ _ _ _ _ _ _ _ _ _ _ _ _ from ⟨⟨rfl, tb, rfl, td, te⟩, ⟨hO, hV, hso, hst, hcl⟩, hN.mono (by omega), ⟨⟨s0.1, fun z => (by obtain ⟨Nq, z1, z2⟩ := s0.2 z; exact ⟨Nq, fun j hj => (by show (ksF (rwF S' P' L' a') K' 1 57) (57 * 0 + j) = _; rw [ks_at, if_neg (by omega)]; exact z1 j hj), z2.mono (by omega)⟩)⟩, ⟨rfl, fun _ => ⟨(S', P', L', a'), fun j hj => (by show (ksF (rwF S' P' L' a') K' 1 57) (57 * 1 + j) = _; rw [ks_at, if_pos (by omega), show 57 * 1 + j - 57 * 1 = j by omega]), hN.mono (by omega)⟩⟩, ⟨s2.1, fun z => (by obtain ⟨Nq, z1, z2⟩ := s2.2 z; exact ⟨Nq, fun j hj => (by show (ksF (rwF S' P' L' a') K' 1 57) (57 * 2 + j) = _; rw [ks_at, if_neg (by omega)]; exact z1 j hj), z2.mono (by omega)⟩)⟩⟩, ⟨fa1, fa2⟩, ⟨rfl, g2, g3, g4⟩, ⟨l1, l2⟩⟩), fun ad => ?_, fun ad => ?_⟩
        · exact lx_k E false len nx kk st nu nm T fk pl VA XA VB XB (S0, P, L, a, kp, Wn) Tt b Sl W F hb Q0 Q1 Q2 (S0, P, L, a, kp, Wn) Q0 (kpQ (S0, P, L, a, kp, Wn) Q1) Q2 (fun ad r => x_keep E ad r (bI hb) (S0, P, L, a, kp, Wn) Q0 Q1 Q2 (nI 1)) ad
        · exact Md.ans (lm_k E V' D' len T k' f' fa' VR' XR' (S', P', L', a') (w, l, lg, ll, Wj, Bj, fj, bp, G) K' kb' fn' hb F' b' (ksF (rwF S' P' L' a') K' 1 57) (upB kb' 1 true) (fun ad r i => m_keep E ad r i K' kb' S' P' L' a' (nI 1)) ad) (by
            have e : psS S0 = psS S' := hN.1.1
            rw [if_pos c, e])
      · refine ⟨nI (psS S0), (false, len, nx, kk, st, nu, nm, T, fk, pl, VA, XA, VB, XB, (S0, P, L, a, kp, Wn), Tt, b, Sl, W, F, hb, Q0, Q1, (kpQ (S0, P, L, a, kp, Wn) Q2)), (V', D', len, T, k', f', fa', VR', XR', (S', P', L', a'), (w, l, lg, ll, Wj, Bj, fj, bp, G), (ksF (rwF S' P' L' a') K' 2 57), (upB kb' 2 true), fn', hb, F', b'), (show R0 _ _ _ _ _ _ _ _ _ _ _ _ _ _ _ _ _ _ _ _ _ _ _ _ _ _ _ from ⟨⟨rfl, tb, rfl, td, te⟩, ⟨hO, hV, hso, hst, hcl⟩, hN.mono (by omega), ⟨⟨s0.1, fun z => (by obtain ⟨Nq, z1, z2⟩ := s0.2 z; exact ⟨Nq, fun j hj => (by show (ksF (rwF S' P' L' a') K' 2 57) (57 * 0 + j) = _; rw [ks_at, if_neg (by omega)]; exact z1 j hj), z2.mono (by omega)⟩)⟩, ⟨s1.1, fun z => (by obtain ⟨Nq, z1, z2⟩ := s1.2 z; exact ⟨Nq, fun j hj => (by show (ksF (rwF S' P' L' a') K' 2 57) (57 * 1 + j) = _; rw [ks_at, if_neg (by omega)]; exact z1 j hj), z2.mono (by omega)⟩)⟩, ⟨rfl, fun _ => ⟨(S', P', L', a'), fun j hj => (by show (ksF (rwF S' P' L' a') K' 2 57) (57 * 2 + j) = _; rw [ks_at, if_pos (by omega), show 57 * 2 + j - 57 * 2 = j by omega]), hN.mono (by omega)⟩⟩⟩, ⟨fa1, fa2⟩, ⟨rfl, g2, g3, g4⟩, ⟨l1, l2⟩⟩), fun ad => ?_, fun ad => ?_⟩
        · exact lx_k E false len nx kk st nu nm T fk pl VA XA VB XB (S0, P, L, a, kp, Wn) Tt b Sl W F hb Q0 Q1 Q2 (S0, P, L, a, kp, Wn) Q0 Q1 (kpQ (S0, P, L, a, kp, Wn) Q2) (fun ad r => x_keep E ad r (bI hb) (S0, P, L, a, kp, Wn) Q0 Q1 Q2 (nI 2)) ad
        · exact Md.ans (lm_k E V' D' len T k' f' fa' VR' XR' (S', P', L', a') (w, l, lg, ll, Wj, Bj, fj, bp, G) K' kb' fn' hb F' b' (ksF (rwF S' P' L' a') K' 2 57) (upB kb' 2 true) (fun ad r i => m_keep E ad r i K' kb' S' P' L' a' (nI 2)) ad) (by
            have e : psS S0 = psS S' := hN.1.1
            rw [if_pos c, e])
    · refine ⟨-2, (false, len, nx, kk, st, nu, nm, T, fk, pl, VA, XA, VB, XB, (S0, P, L, a, kp, Wn), Tt, b, Sl, W, F, hb, Q0, Q1, Q2), (V', D', len, T, k', f', fa', VR', XR', (S', P', L', a'), (w, l, lg, ll, Wj, Bj, fj, bp, G), K', kb', fn', hb, F', b'), (show R0 _ _ _ _ _ _ _ _ _ _ _ _ _ _ _ _ _ _ _ _ _ _ _ _ _ _ _ from hR.mono (by omega)), fun ad => ?_, fun ad => ?_⟩
      · exact lx_k E false len nx kk st nu nm T fk pl VA XA VB XB (S0, P, L, a, kp, Wn) Tt b Sl W F hb Q0 Q1 Q2 (S0, P, L, a, kp, Wn) Q0 Q1 Q2 (fun ad r => by
          have h := x_keep E ad r (bI hb) (S0, P, L, a, kp, Wn) Q0 Q1 Q2 y1
          simp only [if_neg c] at h
          exact h) ad
      · exact lm_k E V' D' len T k' f' fa' VR' XR' (S', P', L', a') (w, l, lg, ll, Wj, Bj, fj, bp, G) K' kb' fn' hb F' b' K' kb' (fun ad r i => by
          have h := m_keep E ad r i K' kb' S' P' L' a' y1
          simp only [if_neg c] at h
          exact h) ad
  · have hR : R0 B VA XA len T fk pl (S0, P, L, a, kp, Wn) b W F hb Q0 Q1 Q2 V' D' tp' T' k' f' fa' (S', P', L', a') K' kb' hb' F' := hR
    obtain ⟨⟨ta, tb, tc, td, te⟩, ⟨hO, hV, hso, hst, hcl⟩, hN, ⟨s0, s1, s2⟩, ⟨fa1, fa2⟩, ⟨g1, g2, g3, g4⟩, ⟨l1, l2⟩⟩ := id hR
    subst tp' T' hb'
    have hO' : Vok V' := hO.eq' hV
    have hnp : npV V' = npV VA := hV.2.1.symm
    have hnh : nhV V' = nhV VA := hV.1.symm
    have hp5 : npV VA ≤ 5 := hO.2.1
    have hh5 : nhV VA ≤ 5 := hO.1
    have hSo : Sok VA S0 := hN.2.2.2.2.2.1
    have hPo : Pok VA P := hN.2.2.2.2.2.2.1
    have hPl : Ple P := hN.2.2.2.2.2.2.2.1
    have hps : psS S0 ≤ B := hN.2.2.2.2.2.2.2.2.1
    have hgb : ∀ W9 p, p < npV VA → Ib (ltS (gon VA L W9 S0) p) (-128) 127 := fun W9 p hp => gon_gb hO hN.2.2.2.2.2.2.2.2.2.1 hN.2.2.2.2.2.2.2.2.2.2 hp
    have hSo' : Sok V' S' := hN.Sok' hV
    have hPo' : Pok V' P' := hN.Pok' hV
    have hps' : psS S' ≤ B := hN.ps'
    have hq : Rq VA (ovr V' ((-1, -1, w, -1, false, l) : Ovr)) P P' L L' S0 S' := hN.Rq hO hV w l
    have hv : Rv VA V' ((-1, -1, w, -1, false, l) : Ovr) L L' S0 S' := ⟨hO, hq.2.1, hq.2.2.2.1, hq.2.2.2.2⟩
    by_cases c : rgB y1 (nI 0) (nI 2) = true
    · obtain ⟨s, -, hs, rfl⟩ := rgB_n (by decide) (by decide) c
      rcases (show s = 0 ∨ s = 1 ∨ s = 2 by omega) with rfl | rfl | rfl
      · refine ⟨nI (psS S0), (true, len, nx, kk, st, nu, nm, T, fk, pl, VA, XA, VB, XB, (S0, P, L, a, kp, Wn), Tt, b, Sl, W, F, hb, (kpQ (S0, P, L, a, kp, Wn) Q0), Q1, Q2), (V', D', len, T, k', f', fa', VR', XR', (S', P', L', a'), (w, l, lg, ll, Wj, Bj, fj, bp, G), (ksF (rwF S' P' L' a') K' 0 57), (upB kb' 0 true), fn', hb, F', b'), (show R0 _ _ _ _ _ _ _ _ _ _ _ _ _ _ _ _ _ _ _ _ _ _ _ _ _ _ _ from ⟨⟨rfl, tb, rfl, td, te⟩, ⟨hO, hV, hso, hst, hcl⟩, hN.mono (by omega), ⟨⟨rfl, fun _ => ⟨(S', P', L', a'), fun j hj => (by show (ksF (rwF S' P' L' a') K' 0 57) (57 * 0 + j) = _; rw [ks_at, if_pos (by omega), show 57 * 0 + j - 57 * 0 = j by omega]), hN.mono (by omega)⟩⟩, ⟨s1.1, fun z => (by obtain ⟨Nq, z1, z2⟩ := s1.2 z; exact ⟨Nq, fun j hj => (by show (ksF (rwF S' P' L' a') K' 0 57) (57 * 1 + j) = _; rw [ks_at, if_neg (by omega)]; exact z1 j hj), z2.mono (by omega)⟩)⟩, ⟨s2.1, fun z => (by obtain ⟨Nq, z1, z2⟩ := s2.2 z; exact ⟨Nq, fun j hj => (by show (ksF (rwF S' P' L' a') K' 0 57) (57 * 2 + j) = _; rw [ks_at, if_neg (by omega)]; exact z1 j hj), z2.mono (by omega)⟩)⟩⟩, ⟨fa1, fa2⟩, ⟨rfl, g2, g3, g4⟩, ⟨l1, l2⟩⟩), fun ad => ?_, fun ad => ?_⟩
        · exact lx_k E true len nx kk st nu nm T fk pl VA XA VB XB (S0, P, L, a, kp, Wn) Tt b Sl W F hb Q0 Q1 Q2 (S0, P, L, a, kp, Wn) (kpQ (S0, P, L, a, kp, Wn) Q0) Q1 Q2 (fun ad r => x_keep E ad r (bI hb) (S0, P, L, a, kp, Wn) Q0 Q1 Q2 (nI 0)) ad
        · exact Md.ans (lm_k E V' D' len T k' f' fa' VR' XR' (S', P', L', a') (w, l, lg, ll, Wj, Bj, fj, bp, G) K' kb' fn' hb F' b' (ksF (rwF S' P' L' a') K' 0 57) (upB kb' 0 true) (fun ad r i => m_keep E ad r i K' kb' S' P' L' a' (nI 0)) ad) (by
            have e : psS S0 = psS S' := hN.1.1
            rw [if_pos c, e])
      · refine ⟨nI (psS S0), (true, len, nx, kk, st, nu, nm, T, fk, pl, VA, XA, VB, XB, (S0, P, L, a, kp, Wn), Tt, b, Sl, W, F, hb, Q0, (kpQ (S0, P, L, a, kp, Wn) Q1), Q2), (V', D', len, T, k', f', fa', VR', XR', (S', P', L', a'), (w, l, lg, ll, Wj, Bj, fj, bp, G), (ksF (rwF S' P' L' a') K' 1 57), (upB kb' 1 true), fn', hb, F', b'), (show R0 _ _ _ _ _ _ _ _ _ _ _ _ _ _ _ _ _ _ _ _ _ _ _ _ _ _ _ from ⟨⟨rfl, tb, rfl, td, te⟩, ⟨hO, hV, hso, hst, hcl⟩, hN.mono (by omega), ⟨⟨s0.1, fun z => (by obtain ⟨Nq, z1, z2⟩ := s0.2 z; exact ⟨Nq, fun j hj => (by show (ksF (rwF S' P' L' a') K' 1 57) (57 * 0 + j) = _; rw [ks_at, if_neg (by omega)]; exact z1 j hj), z2.mono (by omega)⟩)⟩, ⟨rfl, fun _ => ⟨(S', P', L', a'), fun j hj => (by show (ksF (rwF S' P' L' a') K' 1 57) (57 * 1 + j) = _; rw [ks_at, if_pos (by omega), show 57 * 1 + j - 57 * 1 = j by omega]), hN.mono (by omega)⟩⟩, ⟨s2.1, fun z => (by obtain ⟨Nq, z1, z2⟩ := s2.2 z; exact ⟨Nq, fun j hj => (by show (ksF (rwF S' P' L' a') K' 1 57) (57 * 2 + j) = _; rw [ks_at, if_neg (by omega)]; exact z1 j hj), z2.mono (by omega)⟩)⟩⟩, ⟨fa1, fa2⟩, ⟨rfl, g2, g3, g4⟩, ⟨l1, l2⟩⟩), fun ad => ?_, fun ad => ?_⟩
        · exact lx_k E true len nx kk st nu nm T fk pl VA XA VB XB (S0, P, L, a, kp, Wn) Tt b Sl W F hb Q0 Q1 Q2 (S0, P, L, a, kp, Wn) Q0 (kpQ (S0, P, L, a, kp, Wn) Q1) Q2 (fun ad r => x_keep E ad r (bI hb) (S0, P, L, a, kp, Wn) Q0 Q1 Q2 (nI 1)) ad
        · exact Md.ans (lm_k E V' D' len T k' f' fa' VR' XR' (S', P', L', a') (w, l, lg, ll, Wj, Bj, fj, bp, G) K' kb' fn' hb F' b' (ksF (rwF S' P' L' a') K' 1 57) (upB kb' 1 true) (fun ad r i => m_keep E ad r i K' kb' S' P' L' a' (nI 1)) ad) (by
            have e : psS S0 = psS S' := hN.1.1
            rw [if_pos c, e])
      · refine ⟨nI (psS S0), (true, len, nx, kk, st, nu, nm, T, fk, pl, VA, XA, VB, XB, (S0, P, L, a, kp, Wn), Tt, b, Sl, W, F, hb, Q0, Q1, (kpQ (S0, P, L, a, kp, Wn) Q2)), (V', D', len, T, k', f', fa', VR', XR', (S', P', L', a'), (w, l, lg, ll, Wj, Bj, fj, bp, G), (ksF (rwF S' P' L' a') K' 2 57), (upB kb' 2 true), fn', hb, F', b'), (show R0 _ _ _ _ _ _ _ _ _ _ _ _ _ _ _ _ _ _ _ _ _ _ _ _ _ _ _ from ⟨⟨rfl, tb, rfl, td, te⟩, ⟨hO, hV, hso, hst, hcl⟩, hN.mono (by omega), ⟨⟨s0.1, fun z => (by obtain ⟨Nq, z1, z2⟩ := s0.2 z; exact ⟨Nq, fun j hj => (by show (ksF (rwF S' P' L' a') K' 2 57) (57 * 0 + j) = _; rw [ks_at, if_neg (by omega)]; exact z1 j hj), z2.mono (by omega)⟩)⟩, ⟨s1.1, fun z => (by obtain ⟨Nq, z1, z2⟩ := s1.2 z; exact ⟨Nq, fun j hj => (by show (ksF (rwF S' P' L' a') K' 2 57) (57 * 1 + j) = _; rw [ks_at, if_neg (by omega)]; exact z1 j hj), z2.mono (by omega)⟩)⟩, ⟨rfl, fun _ => ⟨(S', P', L', a'), fun j hj => (by show (ksF (rwF S' P' L' a') K' 2 57) (57 * 2 + j) = _; rw [ks_at, if_pos (by omega), show 57 * 2 + j - 57 * 2 = j by omega]), hN.mono (by omega)⟩⟩⟩, ⟨fa1, fa2⟩, ⟨rfl, g2, g3, g4⟩, ⟨l1, l2⟩⟩), fun ad => ?_, fun ad => ?_⟩
        · exact lx_k E true len nx kk st nu nm T fk pl VA XA VB XB (S0, P, L, a, kp, Wn) Tt b Sl W F hb Q0 Q1 Q2 (S0, P, L, a, kp, Wn) Q0 Q1 (kpQ (S0, P, L, a, kp, Wn) Q2) (fun ad r => x_keep E ad r (bI hb) (S0, P, L, a, kp, Wn) Q0 Q1 Q2 (nI 2)) ad
        · exact Md.ans (lm_k E V' D' len T k' f' fa' VR' XR' (S', P', L', a') (w, l, lg, ll, Wj, Bj, fj, bp, G) K' kb' fn' hb F' b' (ksF (rwF S' P' L' a') K' 2 57) (upB kb' 2 true) (fun ad r i => m_keep E ad r i K' kb' S' P' L' a' (nI 2)) ad) (by
            have e : psS S0 = psS S' := hN.1.1
            rw [if_pos c, e])
    · refine ⟨-2, (true, len, nx, kk, st, nu, nm, T, fk, pl, VA, XA, VB, XB, (S0, P, L, a, kp, Wn), Tt, b, Sl, W, F, hb, Q0, Q1, Q2), (V', D', len, T, k', f', fa', VR', XR', (S', P', L', a'), (w, l, lg, ll, Wj, Bj, fj, bp, G), K', kb', fn', hb, F', b'), (show R0 _ _ _ _ _ _ _ _ _ _ _ _ _ _ _ _ _ _ _ _ _ _ _ _ _ _ _ from hR.mono (by omega)), fun ad => ?_, fun ad => ?_⟩
      · exact lx_k E true len nx kk st nu nm T fk pl VA XA VB XB (S0, P, L, a, kp, Wn) Tt b Sl W F hb Q0 Q1 Q2 (S0, P, L, a, kp, Wn) Q0 Q1 Q2 (fun ad r => by
          have h := x_keep E ad r (bI hb) (S0, P, L, a, kp, Wn) Q0 Q1 Q2 y1
          simp only [if_neg c] at h
          exact h) ad
      · exact lm_k E V' D' len T k' f' fa' VR' XR' (S', P', L', a') (w, l, lg, ll, Wj, Bj, fj, bp, G) K' kb' fn' hb F' b' K' kb' (fun ad r i => by
          have h := m_keep E ad r i K' kb' S' P' L' a' y1
          simp only [if_neg c] at h
          exact h) ad
set_option maxHeartbeats 4000000 in
set_option maxRecDepth 100000 in
theorem pr_take (E : EnvT) (B : Nat) (x : Xst) (m : Mst) (y1 : Int32) (hR : RR B x m) (hB : B < 2 ^ 28) : Pr E B mX9_take mX10_take [.int y1] x m := by
  obtain ⟨sw, len, nx, kk, st, nu, nm, T, fk, pl, VA, XA, VB, XB, ⟨S0, P, L, a, kp, Wn⟩, Tt, b, Sl, W, F, hb, Q0, Q1, Q2⟩ := x
  obtain ⟨V', D', tp', T', k', f', fa', VR', XR', ⟨S', P', L', a'⟩, ⟨w, l, lg, ll, Wj, Bj, fj, bp, G⟩, K', kb', fn', hb', F', b'⟩ := m
  cases sw
  · have hR : R0 B VB XB len T fk pl (S0, P, L, a, kp, Wn) b W F hb Q0 Q1 Q2 V' D' tp' T' k' f' fa' (S', P', L', a') K' kb' hb' F' := hR
    obtain ⟨⟨ta, tb, tc, td, te⟩, ⟨hO, hV, hso, hst, hcl⟩, hN, ⟨s0, s1, s2⟩, ⟨fa1, fa2⟩, ⟨g1, g2, g3, g4⟩, ⟨l1, l2⟩⟩ := id hR
    subst tp' T' hb'
    have hO' : Vok V' := hO.eq' hV
    have hnp : npV V' = npV VB := hV.2.1.symm
    have hnh : nhV V' = nhV VB := hV.1.symm
    have hp5 : npV VB ≤ 5 := hO.2.1
    have hh5 : nhV VB ≤ 5 := hO.1
    have hSo : Sok VB S0 := hN.2.2.2.2.2.1
    have hPo : Pok VB P := hN.2.2.2.2.2.2.1
    have hPl : Ple P := hN.2.2.2.2.2.2.2.1
    have hps : psS S0 ≤ B := hN.2.2.2.2.2.2.2.2.1
    have hgb : ∀ W9 p, p < npV VB → Ib (ltS (gon VB L W9 S0) p) (-128) 127 := fun W9 p hp => gon_gb hO hN.2.2.2.2.2.2.2.2.2.1 hN.2.2.2.2.2.2.2.2.2.2 hp
    have hSo' : Sok V' S' := hN.Sok' hV
    have hPo' : Pok V' P' := hN.Pok' hV
    have hps' : psS S' ≤ B := hN.ps'
    have hq : Rq VB (ovr V' ((-1, -1, w, -1, false, l) : Ovr)) P P' L L' S0 S' := hN.Rq hO hV w l
    have hv : Rv VB V' ((-1, -1, w, -1, false, l) : Ovr) L L' S0 S' := ⟨hO, hq.2.1, hq.2.2.2.1, hq.2.2.2.2⟩
    by_cases c : rgB y1 (nI 0) (nI 2) = true
    · obtain ⟨s, -, hs, rfl⟩ := rgB_n (by decide) (by decide) c
      rcases (show s = 0 ∨ s = 1 ∨ s = 2 by omega) with rfl | rfl | rfl
      · by_cases ck : kb' 0 = true
        · obtain ⟨Nq, z1, z2⟩ := s0.2 ck
          have hk : Q0.2.2.2.2.1 = true := s0.1.trans ck
          refine ⟨nI (psS Q0.1), (false, len, nx, kk, st, nu, nm, T, fk, pl, VA, XA, VB, XB, (tkQ (S0, P, L, a, kp, Wn) Q0), Tt, b, Sl, W, F, hb, Q0, Q1, Q2), (V', D', len, T, k', f', fa', VR', XR', Nq, (w, l, lg, ll, Wj, Bj, fj, bp, G), K', kb', fn', hb, F', b'), (show R0 _ _ _ _ _ _ _ _ _ _ _ _ _ _ _ _ _ _ _ _ _ _ _ _ _ _ _ from ⟨⟨rfl, tb, rfl, td, te⟩, ⟨hO, hV, hso, hst, hcl⟩, z2.mono (by omega), ⟨s0.mono (by omega), s1.mono (by omega), s2.mono (by omega)⟩, ⟨fa1, fa2⟩, ⟨rfl, g2, g3, g4⟩, ⟨l1, l2⟩⟩), fun ad => ?_, fun ad => ?_⟩
          · exact lx_k E false len nx kk st nu nm T fk pl VA XA VB XB (S0, P, L, a, kp, Wn) Tt b Sl W F hb Q0 Q1 Q2 (tkQ (S0, P, L, a, kp, Wn) Q0) Q0 Q1 Q2 (fun ad r => by
              have h := x_take E ad r (bI hb) (S0, P, L, a, kp, Wn) Q0 Q1 Q2 (nI 0)
              have e : (if nI 0 = nI 0 then Q0 else if nI 0 = nI 1 then Q1 else Q2) = Q0 := rfl
              rw [if_pos c, if_pos c, e, if_pos hk, if_pos hk] at h
              exact h) ad
          · exact Md.ans (lm_g E V' D' len T k' f' fa' VR' XR' (S', P', L', a') (w, l, lg, ll, Wj, Bj, fj, bp, G) K' kb' fn' hb F' b' (fun j => K' (57 * 0 + j)) Nq z1 (fun ad r i => by
              have h := m_take E ad r i (rwF S' P' L' a') K' kb' (nI 0)
              have e : nN (nI 0) = 0 := nN_n (by decide)
              rw [if_pos c, if_pos c, e, if_pos ck, if_pos ck] at h
              exact h) ad) (by
              rw [z1 55 (by decide)]
              show nI (psS Nq.1) = _
              rw [z2.1.1])
        · have hk : ¬ Q0.2.2.2.2.1 = true := fun z => ck (s0.1.symm.trans z)
          refine ⟨-4, (false, len, nx, kk, st, nu, nm, T, fk, pl, VA, XA, VB, XB, (S0, P, L, a, kp, Wn), Tt, b, Sl, W, F, hb, Q0, Q1, Q2), (V', D', len, T, k', f', fa', VR', XR', (S', P', L', a'), (w, l, lg, ll, Wj, Bj, fj, bp, G), K', kb', fn', hb, F', b'), (show R0 _ _ _ _ _ _ _ _ _ _ _ _ _ _ _ _ _ _ _ _ _ _ _ _ _ _ _ from hR.mono (by omega)), fun ad => ?_, fun ad => ?_⟩
          · exact lx_k E false len nx kk st nu nm T fk pl VA XA VB XB (S0, P, L, a, kp, Wn) Tt b Sl W F hb Q0 Q1 Q2 (S0, P, L, a, kp, Wn) Q0 Q1 Q2 (fun ad r => by
              have h := x_take E ad r (bI hb) (S0, P, L, a, kp, Wn) Q0 Q1 Q2 (nI 0)
              have e : (if nI 0 = nI 0 then Q0 else if nI 0 = nI 1 then Q1 else Q2) = Q0 := rfl
              rw [if_pos c, if_pos c, e, if_neg hk, if_neg hk] at h
              exact h) ad
          · exact lm_k E V' D' len T k' f' fa' VR' XR' (S', P', L', a') (w, l, lg, ll, Wj, Bj, fj, bp, G) K' kb' fn' hb F' b' K' kb' (fun ad r i => by
              have h := m_take E ad r i (rwF S' P' L' a') K' kb' (nI 0)
              have e : nN (nI 0) = 0 := nN_n (by decide)
              rw [if_pos c, if_pos c, e, if_neg ck, if_neg ck] at h
              exact h) ad
      · by_cases ck : kb' 1 = true
        · obtain ⟨Nq, z1, z2⟩ := s1.2 ck
          have hk : Q1.2.2.2.2.1 = true := s1.1.trans ck
          refine ⟨nI (psS Q1.1), (false, len, nx, kk, st, nu, nm, T, fk, pl, VA, XA, VB, XB, (tkQ (S0, P, L, a, kp, Wn) Q1), Tt, b, Sl, W, F, hb, Q0, Q1, Q2), (V', D', len, T, k', f', fa', VR', XR', Nq, (w, l, lg, ll, Wj, Bj, fj, bp, G), K', kb', fn', hb, F', b'), (show R0 _ _ _ _ _ _ _ _ _ _ _ _ _ _ _ _ _ _ _ _ _ _ _ _ _ _ _ from ⟨⟨rfl, tb, rfl, td, te⟩, ⟨hO, hV, hso, hst, hcl⟩, z2.mono (by omega), ⟨s0.mono (by omega), s1.mono (by omega), s2.mono (by omega)⟩, ⟨fa1, fa2⟩, ⟨rfl, g2, g3, g4⟩, ⟨l1, l2⟩⟩), fun ad => ?_, fun ad => ?_⟩
          · exact lx_k E false len nx kk st nu nm T fk pl VA XA VB XB (S0, P, L, a, kp, Wn) Tt b Sl W F hb Q0 Q1 Q2 (tkQ (S0, P, L, a, kp, Wn) Q1) Q0 Q1 Q2 (fun ad r => by
              have h := x_take E ad r (bI hb) (S0, P, L, a, kp, Wn) Q0 Q1 Q2 (nI 1)
              have e : (if nI 1 = nI 0 then Q0 else if nI 1 = nI 1 then Q1 else Q2) = Q1 := rfl
              rw [if_pos c, if_pos c, e, if_pos hk, if_pos hk] at h
              exact h) ad
          · exact Md.ans (lm_g E V' D' len T k' f' fa' VR' XR' (S', P', L', a') (w, l, lg, ll, Wj, Bj, fj, bp, G) K' kb' fn' hb F' b' (fun j => K' (57 * 1 + j)) Nq z1 (fun ad r i => by
              have h := m_take E ad r i (rwF S' P' L' a') K' kb' (nI 1)
              have e : nN (nI 1) = 1 := nN_n (by decide)
              rw [if_pos c, if_pos c, e, if_pos ck, if_pos ck] at h
              exact h) ad) (by
              rw [z1 55 (by decide)]
              show nI (psS Nq.1) = _
              rw [z2.1.1])
        · have hk : ¬ Q1.2.2.2.2.1 = true := fun z => ck (s1.1.symm.trans z)
          refine ⟨-4, (false, len, nx, kk, st, nu, nm, T, fk, pl, VA, XA, VB, XB, (S0, P, L, a, kp, Wn), Tt, b, Sl, W, F, hb, Q0, Q1, Q2), (V', D', len, T, k', f', fa', VR', XR', (S', P', L', a'), (w, l, lg, ll, Wj, Bj, fj, bp, G), K', kb', fn', hb, F', b'), (show R0 _ _ _ _ _ _ _ _ _ _ _ _ _ _ _ _ _ _ _ _ _ _ _ _ _ _ _ from hR.mono (by omega)), fun ad => ?_, fun ad => ?_⟩
          · exact lx_k E false len nx kk st nu nm T fk pl VA XA VB XB (S0, P, L, a, kp, Wn) Tt b Sl W F hb Q0 Q1 Q2 (S0, P, L, a, kp, Wn) Q0 Q1 Q2 (fun ad r => by
              have h := x_take E ad r (bI hb) (S0, P, L, a, kp, Wn) Q0 Q1 Q2 (nI 1)
              have e : (if nI 1 = nI 0 then Q0 else if nI 1 = nI 1 then Q1 else Q2) = Q1 := rfl
              rw [if_pos c, if_pos c, e, if_neg hk, if_neg hk] at h
              exact h) ad
          · exact lm_k E V' D' len T k' f' fa' VR' XR' (S', P', L', a') (w, l, lg, ll, Wj, Bj, fj, bp, G) K' kb' fn' hb F' b' K' kb' (fun ad r i => by
              have h := m_take E ad r i (rwF S' P' L' a') K' kb' (nI 1)
              have e : nN (nI 1) = 1 := nN_n (by decide)
              rw [if_pos c, if_pos c, e, if_neg ck, if_neg ck] at h
              exact h) ad
      · by_cases ck : kb' 2 = true
        · obtain ⟨Nq, z1, z2⟩ := s2.2 ck
          have hk : Q2.2.2.2.2.1 = true := s2.1.trans ck
          refine ⟨nI (psS Q2.1), (false, len, nx, kk, st, nu, nm, T, fk, pl, VA, XA, VB, XB, (tkQ (S0, P, L, a, kp, Wn) Q2), Tt, b, Sl, W, F, hb, Q0, Q1, Q2), (V', D', len, T, k', f', fa', VR', XR', Nq, (w, l, lg, ll, Wj, Bj, fj, bp, G), K', kb', fn', hb, F', b'), (show R0 _ _ _ _ _ _ _ _ _ _ _ _ _ _ _ _ _ _ _ _ _ _ _ _ _ _ _ from ⟨⟨rfl, tb, rfl, td, te⟩, ⟨hO, hV, hso, hst, hcl⟩, z2.mono (by omega), ⟨s0.mono (by omega), s1.mono (by omega), s2.mono (by omega)⟩, ⟨fa1, fa2⟩, ⟨rfl, g2, g3, g4⟩, ⟨l1, l2⟩⟩), fun ad => ?_, fun ad => ?_⟩
          · exact lx_k E false len nx kk st nu nm T fk pl VA XA VB XB (S0, P, L, a, kp, Wn) Tt b Sl W F hb Q0 Q1 Q2 (tkQ (S0, P, L, a, kp, Wn) Q2) Q0 Q1 Q2 (fun ad r => by
              have h := x_take E ad r (bI hb) (S0, P, L, a, kp, Wn) Q0 Q1 Q2 (nI 2)
              have e : (if nI 2 = nI 0 then Q0 else if nI 2 = nI 1 then Q1 else Q2) = Q2 := rfl
              rw [if_pos c, if_pos c, e, if_pos hk, if_pos hk] at h
              exact h) ad
          · exact Md.ans (lm_g E V' D' len T k' f' fa' VR' XR' (S', P', L', a') (w, l, lg, ll, Wj, Bj, fj, bp, G) K' kb' fn' hb F' b' (fun j => K' (57 * 2 + j)) Nq z1 (fun ad r i => by
              have h := m_take E ad r i (rwF S' P' L' a') K' kb' (nI 2)
              have e : nN (nI 2) = 2 := nN_n (by decide)
              rw [if_pos c, if_pos c, e, if_pos ck, if_pos ck] at h
              exact h) ad) (by
              rw [z1 55 (by decide)]
              show nI (psS Nq.1) = _
              rw [z2.1.1])
        · have hk : ¬ Q2.2.2.2.2.1 = true := fun z => ck (s2.1.symm.trans z)
          refine ⟨-4, (false, len, nx, kk, st, nu, nm, T, fk, pl, VA, XA, VB, XB, (S0, P, L, a, kp, Wn), Tt, b, Sl, W, F, hb, Q0, Q1, Q2), (V', D', len, T, k', f', fa', VR', XR', (S', P', L', a'), (w, l, lg, ll, Wj, Bj, fj, bp, G), K', kb', fn', hb, F', b'), (show R0 _ _ _ _ _ _ _ _ _ _ _ _ _ _ _ _ _ _ _ _ _ _ _ _ _ _ _ from hR.mono (by omega)), fun ad => ?_, fun ad => ?_⟩
          · exact lx_k E false len nx kk st nu nm T fk pl VA XA VB XB (S0, P, L, a, kp, Wn) Tt b Sl W F hb Q0 Q1 Q2 (S0, P, L, a, kp, Wn) Q0 Q1 Q2 (fun ad r => by
              have h := x_take E ad r (bI hb) (S0, P, L, a, kp, Wn) Q0 Q1 Q2 (nI 2)
              have e : (if nI 2 = nI 0 then Q0 else if nI 2 = nI 1 then Q1 else Q2) = Q2 := rfl
              rw [if_pos c, if_pos c, e, if_neg hk, if_neg hk] at h
              exact h) ad
          · exact lm_k E V' D' len T k' f' fa' VR' XR' (S', P', L', a') (w, l, lg, ll, Wj, Bj, fj, bp, G) K' kb' fn' hb F' b' K' kb' (fun ad r i => by
              have h := m_take E ad r i (rwF S' P' L' a') K' kb' (nI 2)
              have e : nN (nI 2) = 2 := nN_n (by decide)
              rw [if_pos c, if_pos c, e, if_neg ck, if_neg ck] at h
              exact h) ad
    · refine ⟨-2, (false, len, nx, kk, st, nu, nm, T, fk, pl, VA, XA, VB, XB, (S0, P, L, a, kp, Wn), Tt, b, Sl, W, F, hb, Q0, Q1, Q2), (V', D', len, T, k', f', fa', VR', XR', (S', P', L', a'), (w, l, lg, ll, Wj, Bj, fj, bp, G), K', kb', fn', hb, F', b'), (show R0 _ _ _ _ _ _ _ _ _ _ _ _ _ _ _ _ _ _ _ _ _ _ _ _ _ _ _ from hR.mono (by omega)), fun ad => ?_, fun ad => ?_⟩
      · exact lx_k E false len nx kk st nu nm T fk pl VA XA VB XB (S0, P, L, a, kp, Wn) Tt b Sl W F hb Q0 Q1 Q2 (S0, P, L, a, kp, Wn) Q0 Q1 Q2 (fun ad r => by
          have h := x_take E ad r (bI hb) (S0, P, L, a, kp, Wn) Q0 Q1 Q2 y1
          rw [if_neg c, if_neg c] at h
          exact h) ad
      · exact lm_k E V' D' len T k' f' fa' VR' XR' (S', P', L', a') (w, l, lg, ll, Wj, Bj, fj, bp, G) K' kb' fn' hb F' b' K' kb' (fun ad r i => by
          have h := m_take E ad r i (rwF S' P' L' a') K' kb' y1
          rw [if_neg c, if_neg c] at h
          exact h) ad
  · have hR : R0 B VA XA len T fk pl (S0, P, L, a, kp, Wn) b W F hb Q0 Q1 Q2 V' D' tp' T' k' f' fa' (S', P', L', a') K' kb' hb' F' := hR
    obtain ⟨⟨ta, tb, tc, td, te⟩, ⟨hO, hV, hso, hst, hcl⟩, hN, ⟨s0, s1, s2⟩, ⟨fa1, fa2⟩, ⟨g1, g2, g3, g4⟩, ⟨l1, l2⟩⟩ := id hR
    subst tp' T' hb'
    have hO' : Vok V' := hO.eq' hV
    have hnp : npV V' = npV VA := hV.2.1.symm
    have hnh : nhV V' = nhV VA := hV.1.symm
    have hp5 : npV VA ≤ 5 := hO.2.1
    have hh5 : nhV VA ≤ 5 := hO.1
    have hSo : Sok VA S0 := hN.2.2.2.2.2.1
    have hPo : Pok VA P := hN.2.2.2.2.2.2.1
    have hPl : Ple P := hN.2.2.2.2.2.2.2.1
    have hps : psS S0 ≤ B := hN.2.2.2.2.2.2.2.2.1
    have hgb : ∀ W9 p, p < npV VA → Ib (ltS (gon VA L W9 S0) p) (-128) 127 := fun W9 p hp => gon_gb hO hN.2.2.2.2.2.2.2.2.2.1 hN.2.2.2.2.2.2.2.2.2.2 hp
    have hSo' : Sok V' S' := hN.Sok' hV
    have hPo' : Pok V' P' := hN.Pok' hV
    have hps' : psS S' ≤ B := hN.ps'
    have hq : Rq VA (ovr V' ((-1, -1, w, -1, false, l) : Ovr)) P P' L L' S0 S' := hN.Rq hO hV w l
    have hv : Rv VA V' ((-1, -1, w, -1, false, l) : Ovr) L L' S0 S' := ⟨hO, hq.2.1, hq.2.2.2.1, hq.2.2.2.2⟩
    by_cases c : rgB y1 (nI 0) (nI 2) = true
    · obtain ⟨s, -, hs, rfl⟩ := rgB_n (by decide) (by decide) c
      rcases (show s = 0 ∨ s = 1 ∨ s = 2 by omega) with rfl | rfl | rfl
      · by_cases ck : kb' 0 = true
        · obtain ⟨Nq, z1, z2⟩ := s0.2 ck
          have hk : Q0.2.2.2.2.1 = true := s0.1.trans ck
          refine ⟨nI (psS Q0.1), (true, len, nx, kk, st, nu, nm, T, fk, pl, VA, XA, VB, XB, (tkQ (S0, P, L, a, kp, Wn) Q0), Tt, b, Sl, W, F, hb, Q0, Q1, Q2), (V', D', len, T, k', f', fa', VR', XR', Nq, (w, l, lg, ll, Wj, Bj, fj, bp, G), K', kb', fn', hb, F', b'), (show R0 _ _ _ _ _ _ _ _ _ _ _ _ _ _ _ _ _ _ _ _ _ _ _ _ _ _ _ from ⟨⟨rfl, tb, rfl, td, te⟩, ⟨hO, hV, hso, hst, hcl⟩, z2.mono (by omega), ⟨s0.mono (by omega), s1.mono (by omega), s2.mono (by omega)⟩, ⟨fa1, fa2⟩, ⟨rfl, g2, g3, g4⟩, ⟨l1, l2⟩⟩), fun ad => ?_, fun ad => ?_⟩
          · exact lx_k E true len nx kk st nu nm T fk pl VA XA VB XB (S0, P, L, a, kp, Wn) Tt b Sl W F hb Q0 Q1 Q2 (tkQ (S0, P, L, a, kp, Wn) Q0) Q0 Q1 Q2 (fun ad r => by
              have h := x_take E ad r (bI hb) (S0, P, L, a, kp, Wn) Q0 Q1 Q2 (nI 0)
              have e : (if nI 0 = nI 0 then Q0 else if nI 0 = nI 1 then Q1 else Q2) = Q0 := rfl
              rw [if_pos c, if_pos c, e, if_pos hk, if_pos hk] at h
              exact h) ad
          · exact Md.ans (lm_g E V' D' len T k' f' fa' VR' XR' (S', P', L', a') (w, l, lg, ll, Wj, Bj, fj, bp, G) K' kb' fn' hb F' b' (fun j => K' (57 * 0 + j)) Nq z1 (fun ad r i => by
              have h := m_take E ad r i (rwF S' P' L' a') K' kb' (nI 0)
              have e : nN (nI 0) = 0 := nN_n (by decide)
              rw [if_pos c, if_pos c, e, if_pos ck, if_pos ck] at h
              exact h) ad) (by
              rw [z1 55 (by decide)]
              show nI (psS Nq.1) = _
              rw [z2.1.1])
        · have hk : ¬ Q0.2.2.2.2.1 = true := fun z => ck (s0.1.symm.trans z)
          refine ⟨-4, (true, len, nx, kk, st, nu, nm, T, fk, pl, VA, XA, VB, XB, (S0, P, L, a, kp, Wn), Tt, b, Sl, W, F, hb, Q0, Q1, Q2), (V', D', len, T, k', f', fa', VR', XR', (S', P', L', a'), (w, l, lg, ll, Wj, Bj, fj, bp, G), K', kb', fn', hb, F', b'), (show R0 _ _ _ _ _ _ _ _ _ _ _ _ _ _ _ _ _ _ _ _ _ _ _ _ _ _ _ from hR.mono (by omega)), fun ad => ?_, fun ad => ?_⟩
          · exact lx_k E true len nx kk st nu nm T fk pl VA XA VB XB (S0, P, L, a, kp, Wn) Tt b Sl W F hb Q0 Q1 Q2 (S0, P, L, a, kp, Wn) Q0 Q1 Q2 (fun ad r => by
              have h := x_take E ad r (bI hb) (S0, P, L, a, kp, Wn) Q0 Q1 Q2 (nI 0)
              have e : (if nI 0 = nI 0 then Q0 else if nI 0 = nI 1 then Q1 else Q2) = Q0 := rfl
              rw [if_pos c, if_pos c, e, if_neg hk, if_neg hk] at h
              exact h) ad
          · exact lm_k E V' D' len T k' f' fa' VR' XR' (S', P', L', a') (w, l, lg, ll, Wj, Bj, fj, bp, G) K' kb' fn' hb F' b' K' kb' (fun ad r i => by
              have h := m_take E ad r i (rwF S' P' L' a') K' kb' (nI 0)
              have e : nN (nI 0) = 0 := nN_n (by decide)
              rw [if_pos c, if_pos c, e, if_neg ck, if_neg ck] at h
              exact h) ad
      · by_cases ck : kb' 1 = true
        · obtain ⟨Nq, z1, z2⟩ := s1.2 ck
          have hk : Q1.2.2.2.2.1 = true := s1.1.trans ck
          refine ⟨nI (psS Q1.1), (true, len, nx, kk, st, nu, nm, T, fk, pl, VA, XA, VB, XB, (tkQ (S0, P, L, a, kp, Wn) Q1), Tt, b, Sl, W, F, hb, Q0, Q1, Q2), (V', D', len, T, k', f', fa', VR', XR', Nq, (w, l, lg, ll, Wj, Bj, fj, bp, G), K', kb', fn', hb, F', b'), (show R0 _ _ _ _ _ _ _ _ _ _ _ _ _ _ _ _ _ _ _ _ _ _ _ _ _ _ _ from ⟨⟨rfl, tb, rfl, td, te⟩, ⟨hO, hV, hso, hst, hcl⟩, z2.mono (by omega), ⟨s0.mono (by omega), s1.mono (by omega), s2.mono (by omega)⟩, ⟨fa1, fa2⟩, ⟨rfl, g2, g3, g4⟩, ⟨l1, l2⟩⟩), fun ad => ?_, fun ad => ?_⟩
          · exact lx_k E true len nx kk st nu nm T fk pl VA XA VB XB (S0, P, L, a, kp, Wn) Tt b Sl W F hb Q0 Q1 Q2 (tkQ (S0, P, L, a, kp, Wn) Q1) Q0 Q1 Q2 (fun ad r => by
              have h := x_take E ad r (bI hb) (S0, P, L, a, kp, Wn) Q0 Q1 Q2 (nI 1)
              have e : (if nI 1 = nI 0 then Q0 else if nI 1 = nI 1 then Q1 else Q2) = Q1 := rfl
              rw [if_pos c, if_pos c, e, if_pos hk, if_pos hk] at h
              exact h) ad
          · exact Md.ans (lm_g E V' D' len T k' f' fa' VR' XR' (S', P', L', a') (w, l, lg, ll, Wj, Bj, fj, bp, G) K' kb' fn' hb F' b' (fun j => K' (57 * 1 + j)) Nq z1 (fun ad r i => by
              have h := m_take E ad r i (rwF S' P' L' a') K' kb' (nI 1)
              have e : nN (nI 1) = 1 := nN_n (by decide)
              rw [if_pos c, if_pos c, e, if_pos ck, if_pos ck] at h
              exact h) ad) (by
              rw [z1 55 (by decide)]
              show nI (psS Nq.1) = _
              rw [z2.1.1])
        · have hk : ¬ Q1.2.2.2.2.1 = true := fun z => ck (s1.1.symm.trans z)
          refine ⟨-4, (true, len, nx, kk, st, nu, nm, T, fk, pl, VA, XA, VB, XB, (S0, P, L, a, kp, Wn), Tt, b, Sl, W, F, hb, Q0, Q1, Q2), (V', D', len, T, k', f', fa', VR', XR', (S', P', L', a'), (w, l, lg, ll, Wj, Bj, fj, bp, G), K', kb', fn', hb, F', b'), (show R0 _ _ _ _ _ _ _ _ _ _ _ _ _ _ _ _ _ _ _ _ _ _ _ _ _ _ _ from hR.mono (by omega)), fun ad => ?_, fun ad => ?_⟩
          · exact lx_k E true len nx kk st nu nm T fk pl VA XA VB XB (S0, P, L, a, kp, Wn) Tt b Sl W F hb Q0 Q1 Q2 (S0, P, L, a, kp, Wn) Q0 Q1 Q2 (fun ad r => by
              have h := x_take E ad r (bI hb) (S0, P, L, a, kp, Wn) Q0 Q1 Q2 (nI 1)
              have e : (if nI 1 = nI 0 then Q0 else if nI 1 = nI 1 then Q1 else Q2) = Q1 := rfl
              rw [if_pos c, if_pos c, e, if_neg hk, if_neg hk] at h
              exact h) ad
          · exact lm_k E V' D' len T k' f' fa' VR' XR' (S', P', L', a') (w, l, lg, ll, Wj, Bj, fj, bp, G) K' kb' fn' hb F' b' K' kb' (fun ad r i => by
              have h := m_take E ad r i (rwF S' P' L' a') K' kb' (nI 1)
              have e : nN (nI 1) = 1 := nN_n (by decide)
              rw [if_pos c, if_pos c, e, if_neg ck, if_neg ck] at h
              exact h) ad
      · by_cases ck : kb' 2 = true
        · obtain ⟨Nq, z1, z2⟩ := s2.2 ck
          have hk : Q2.2.2.2.2.1 = true := s2.1.trans ck
          refine ⟨nI (psS Q2.1), (true, len, nx, kk, st, nu, nm, T, fk, pl, VA, XA, VB, XB, (tkQ (S0, P, L, a, kp, Wn) Q2), Tt, b, Sl, W, F, hb, Q0, Q1, Q2), (V', D', len, T, k', f', fa', VR', XR', Nq, (w, l, lg, ll, Wj, Bj, fj, bp, G), K', kb', fn', hb, F', b'), (show R0 _ _ _ _ _ _ _ _ _ _ _ _ _ _ _ _ _ _ _ _ _ _ _ _ _ _ _ from ⟨⟨rfl, tb, rfl, td, te⟩, ⟨hO, hV, hso, hst, hcl⟩, z2.mono (by omega), ⟨s0.mono (by omega), s1.mono (by omega), s2.mono (by omega)⟩, ⟨fa1, fa2⟩, ⟨rfl, g2, g3, g4⟩, ⟨l1, l2⟩⟩), fun ad => ?_, fun ad => ?_⟩
          · exact lx_k E true len nx kk st nu nm T fk pl VA XA VB XB (S0, P, L, a, kp, Wn) Tt b Sl W F hb Q0 Q1 Q2 (tkQ (S0, P, L, a, kp, Wn) Q2) Q0 Q1 Q2 (fun ad r => by
              have h := x_take E ad r (bI hb) (S0, P, L, a, kp, Wn) Q0 Q1 Q2 (nI 2)
              have e : (if nI 2 = nI 0 then Q0 else if nI 2 = nI 1 then Q1 else Q2) = Q2 := rfl
              rw [if_pos c, if_pos c, e, if_pos hk, if_pos hk] at h
              exact h) ad
          · exact Md.ans (lm_g E V' D' len T k' f' fa' VR' XR' (S', P', L', a') (w, l, lg, ll, Wj, Bj, fj, bp, G) K' kb' fn' hb F' b' (fun j => K' (57 * 2 + j)) Nq z1 (fun ad r i => by
              have h := m_take E ad r i (rwF S' P' L' a') K' kb' (nI 2)
              have e : nN (nI 2) = 2 := nN_n (by decide)
              rw [if_pos c, if_pos c, e, if_pos ck, if_pos ck] at h
              exact h) ad) (by
              rw [z1 55 (by decide)]
              show nI (psS Nq.1) = _
              rw [z2.1.1])
        · have hk : ¬ Q2.2.2.2.2.1 = true := fun z => ck (s2.1.symm.trans z)
          refine ⟨-4, (true, len, nx, kk, st, nu, nm, T, fk, pl, VA, XA, VB, XB, (S0, P, L, a, kp, Wn), Tt, b, Sl, W, F, hb, Q0, Q1, Q2), (V', D', len, T, k', f', fa', VR', XR', (S', P', L', a'), (w, l, lg, ll, Wj, Bj, fj, bp, G), K', kb', fn', hb, F', b'), (show R0 _ _ _ _ _ _ _ _ _ _ _ _ _ _ _ _ _ _ _ _ _ _ _ _ _ _ _ from hR.mono (by omega)), fun ad => ?_, fun ad => ?_⟩
          · exact lx_k E true len nx kk st nu nm T fk pl VA XA VB XB (S0, P, L, a, kp, Wn) Tt b Sl W F hb Q0 Q1 Q2 (S0, P, L, a, kp, Wn) Q0 Q1 Q2 (fun ad r => by
              have h := x_take E ad r (bI hb) (S0, P, L, a, kp, Wn) Q0 Q1 Q2 (nI 2)
              have e : (if nI 2 = nI 0 then Q0 else if nI 2 = nI 1 then Q1 else Q2) = Q2 := rfl
              rw [if_pos c, if_pos c, e, if_neg hk, if_neg hk] at h
              exact h) ad
          · exact lm_k E V' D' len T k' f' fa' VR' XR' (S', P', L', a') (w, l, lg, ll, Wj, Bj, fj, bp, G) K' kb' fn' hb F' b' K' kb' (fun ad r i => by
              have h := m_take E ad r i (rwF S' P' L' a') K' kb' (nI 2)
              have e : nN (nI 2) = 2 := nN_n (by decide)
              rw [if_pos c, if_pos c, e, if_neg ck, if_neg ck] at h
              exact h) ad
    · refine ⟨-2, (true, len, nx, kk, st, nu, nm, T, fk, pl, VA, XA, VB, XB, (S0, P, L, a, kp, Wn), Tt, b, Sl, W, F, hb, Q0, Q1, Q2), (V', D', len, T, k', f', fa', VR', XR', (S', P', L', a'), (w, l, lg, ll, Wj, Bj, fj, bp, G), K', kb', fn', hb, F', b'), (show R0 _ _ _ _ _ _ _ _ _ _ _ _ _ _ _ _ _ _ _ _ _ _ _ _ _ _ _ from hR.mono (by omega)), fun ad => ?_, fun ad => ?_⟩
      · exact lx_k E true len nx kk st nu nm T fk pl VA XA VB XB (S0, P, L, a, kp, Wn) Tt b Sl W F hb Q0 Q1 Q2 (S0, P, L, a, kp, Wn) Q0 Q1 Q2 (fun ad r => by
          have h := x_take E ad r (bI hb) (S0, P, L, a, kp, Wn) Q0 Q1 Q2 y1
          rw [if_neg c, if_neg c] at h
          exact h) ad
      · exact lm_k E V' D' len T k' f' fa' VR' XR' (S', P', L', a') (w, l, lg, ll, Wj, Bj, fj, bp, G) K' kb' fn' hb F' b' K' kb' (fun ad r i => by
          have h := m_take E ad r i (rwF S' P' L' a') K' kb' y1
          rw [if_neg c, if_neg c] at h
          exact h) ad
