/-! PAIRS: what is asked of trials -/
theorem Md.ans {E : EnvT} {M : MInf} {ad : Nat → Nat} {av : List Value} {w w' : List va_E} {r r' : Int32} (h : Md E M ad av w (some (.int r)) w') (e : r = r') : Md E M ad av w (some (.int r')) w' := e ▸ h
theorem ix_lt {x : Int32} {n : Nat} (hn : n ≤ 5) (h : ixB x n = true) : nN x < n := by
  obtain ⟨k, hk, e⟩ := ixB_n hn h
  rw [e, nN_n (by omega)]
  exact hk
theorem rg_lt {x : Int32} {a b : Nat} (hb : b < 2 ^ 31) (ha : a ≤ b) (h : rgB x (nI a) (nI b) = true) : a ≤ nN x ∧ nN x ≤ b := by
  obtain ⟨k, h1, h2, e⟩ := rgB_n hb ha h
  rw [e, nN_n (by omega)]
  exact ⟨h1, h2⟩
set_option maxHeartbeats 4000000 in
set_option maxRecDepth 100000 in
theorem pr_sum (E : EnvT) (B : Nat) (x : Xst) (m : Mst) (y1 : Int32) (hR : RR B x m) (hB : B < 2 ^ 28) : Pr E B mX9_sum mX10_sum [.int y1] x m := by
  obtain ⟨sw, len, nx, kk, st, nu, nm, T, fk, pl, VA, XA, VB, XB, ⟨S0, P, L, a, kp, Wn⟩, Tt, b, Sl, W, F, hb, Q0, Q1, Q2⟩ := x
  obtain ⟨V', D', tp', T', k', f', fa', VR', XR', ⟨S', P', L', a'⟩, ⟨w, l, lg, ll, Wj, Bj, fj, bp, G⟩, K', kb', fn', hb', F', b'⟩ := m
  cases sw
  · have hR : R0 B VB XB len T fk pl (S0, P, L, a, kp, Wn) b W F hb Q0 Q1 Q2 V' D' tp' T' k' f' fa' (S', P', L', a') K' kb' hb' F' := hR
    obtain ⟨⟨ta, tb, tc, td, te⟩, ⟨hO, hV, hso, hst, hcl⟩, hN, ⟨s0, s1, s2⟩, ⟨fa1, fa2⟩, ⟨g1, g2, g3, g4⟩, ⟨l1, l2⟩⟩ := id hR
    subst tp' T' hb'
    have hO' : Vok V' := hO.eq' hV
    have hnp : npV V' = npV VB := hV.2.1.symm
    have hnh : nhV V' = nhV VB := hV.1.symm
    have hp5 : npV VB ≤ 5 := hO.2.1
    have hh5 : nhV VB ≤ 5 := hO.1
    have hSo : Sok VB S0 := hN.2.2.2.2.2.1
    have hPo : Pok VB P := hN.2.2.2.2.2.2.1
    have hPl : Ple P := hN.2.2.2.2.2.2.2.1
    have hps : psS S0 ≤ B := hN.2.2.2.2.2.2.2.2.1
    have hgb : ∀ W9 p, p < npV VB → Ib (ltS (gon VB L W9 S0) p) (-128) 127 := fun W9 p hp => gon_gb hO hN.2.2.2.2.2.2.2.2.2.1 hN.2.2.2.2.2.2.2.2.2.2 hp
    have hSo' : Sok V' S' := hN.Sok' hV
    have hPo' : Pok V' P' := hN.Pok' hV
    have hps' : psS S' ≤ B := hN.ps'
    have hq : Rq VB (ovr V' ((-1, -1, w, -1, false, l) : Ovr)) P P' L L' S0 S' := hN.Rq hO hV w l
    have hv : Rv VB V' ((-1, -1, w, -1, false, l) : Ovr) L L' S0 S' := ⟨hO, hq.2.1, hq.2.2.2.1, hq.2.2.2.2⟩
    refine ⟨(if ixB y1 (npV VB) then smF (stT Tt VB P L S0) (nN y1) else -1000000), (false, len, nx, kk, st, nu, nm, T, fk, pl, VA, XA, VB, XB, (S0, P, L, a, kp, Wn), (if ixB y1 (npV VB) then (rqT (stT Tt VB P L S0) 4) else Tt), b, Sl, W, F, hb, Q0, Q1, Q2), (V', D', len, T, k', f', fa', VR', XR', (S', P', L', a'), (if ixB y1 (npV V') then (w, l, lg, ll, (mgF V' ((-1, -1, w, -1, false, l) : Ovr) P' L' (S', Wj, Bj) 4).2.1, (mgF V' ((-1, -1, w, -1, false, l) : Ovr) P' L' (S', Wj, Bj) 4).2.2, (rwF (mgF V' ((-1, -1, w, -1, false, l) : Ovr) P' L' (S', Wj, Bj) 4).1 P' L' a'), bp, G) else (w, l, lg, ll, Wj, Bj, fj, bp, G)), K', kb', fn', hb, F', b'), (show R0 _ _ _ _ _ _ _ _ _ _ _ _ _ _ _ _ _ _ _ _ _ _ _ _ _ _ _ from hR.mono (by omega)), fun ad => ?_, fun ad => ?_⟩
    · exact lx_t0 E len nx kk st nu nm T fk pl VA XA VB XB (S0, P, L, a, kp, Wn) Tt b Sl W F hb Q0 Q1 Q2 (if ixB y1 (npV VB) then (rqT (stT Tt VB P L S0) 4) else Tt) (S0, P, L, a, kp, Wn) (fun ad r => x_sum E ad r (bI hb) Tt VB XB S0 P L a kp Wn y1 hO (Sok.le hO hSo) hPl (by omega)) ad
    · exact Md.ans (lm_t E V' D' len T k' f' fa' VR' XR' (S', P', L', a') (w, l, lg, ll, Wj, Bj, fj, bp, G) K' kb' fn' hb F' b' (if ixB y1 (npV V') then (w, l, lg, ll, (mgF V' ((-1, -1, w, -1, false, l) : Ovr) P' L' (S', Wj, Bj) 4).2.1, (mgF V' ((-1, -1, w, -1, false, l) : Ovr) P' L' (S', Wj, Bj) 4).2.2, (rwF (mgF V' ((-1, -1, w, -1, false, l) : Ovr) P' L' (S', Wj, Bj) 4).1 P' L' a'), bp, G) else (w, l, lg, ll, Wj, Bj, fj, bp, G)) (S', P', L', a') (fun ad r i => m_sum E ad r i V' w l lg ll Wj Bj fj bp G S' P' L' a' y1 hO' (Sok.le hO' hSo') hPo' (by omega)) ad) (by
        rw [hnp]
        by_cases c : ixB y1 (npV VB) = true
        · rw [if_pos c, if_pos c]; exact (sm_eq (T := (stT Tt VB P L S0)) hq (ix_lt hp5 c) Wj Bj).symm
        · rw [if_neg c, if_neg c])
  · have hR : R0 B VA XA len T fk pl (S0, P, L, a, kp, Wn) b W F hb Q0 Q1 Q2 V' D' tp' T' k' f' fa' (S', P', L', a') K' kb' hb' F' := hR
    obtain ⟨⟨ta, tb, tc, td, te⟩, ⟨hO, hV, hso, hst, hcl⟩, hN, ⟨s0, s1, s2⟩, ⟨fa1, fa2⟩, ⟨g1, g2, g3, g4⟩, ⟨l1, l2⟩⟩ := id hR
    subst tp' T' hb'
    have hO' : Vok V' := hO.eq' hV
    have hnp : npV V' = npV VA := hV.2.1.symm
    have hnh : nhV V' = nhV VA := hV.1.symm
    have hp5 : npV VA ≤ 5 := hO.2.1
    have hh5 : nhV VA ≤ 5 := hO.1
    have hSo : Sok VA S0 := hN.2.2.2.2.2.1
    have hPo : Pok VA P := hN.2.2.2.2.2.2.1
    have hPl : Ple P := hN.2.2.2.2.2.2.2.1
    have hps : psS S0 ≤ B := hN.2.2.2.2.2.2.2.2.1
    have hgb : ∀ W9 p, p < npV VA → Ib (ltS (gon VA L W9 S0) p) (-128) 127 := fun W9 p hp => gon_gb hO hN.2.2.2.2.2.2.2.2.2.1 hN.2.2.2.2.2.2.2.2.2.2 hp
    have hSo' : Sok V' S' := hN.Sok' hV
    have hPo' : Pok V' P' := hN.Pok' hV
    have hps' : psS S' ≤ B := hN.ps'
    have hq : Rq VA (ovr V' ((-1, -1, w, -1, false, l) : Ovr)) P P' L L' S0 S' := hN.Rq hO hV w l
    have hv : Rv VA V' ((-1, -1, w, -1, false, l) : Ovr) L L' S0 S' := ⟨hO, hq.2.1, hq.2.2.2.1, hq.2.2.2.2⟩
    refine ⟨(if ixB y1 (npV VA) then smF (stT Tt VA P L S0) (nN y1) else -1000000), (true, len, nx, kk, st, nu, nm, T, fk, pl, VA, XA, VB, XB, (S0, P, L, a, kp, Wn), (if ixB y1 (npV VA) then (rqT (stT Tt VA P L S0) 4) else Tt), b, Sl, W, F, hb, Q0, Q1, Q2), (V', D', len, T, k', f', fa', VR', XR', (S', P', L', a'), (if ixB y1 (npV V') then (w, l, lg, ll, (mgF V' ((-1, -1, w, -1, false, l) : Ovr) P' L' (S', Wj, Bj) 4).2.1, (mgF V' ((-1, -1, w, -1, false, l) : Ovr) P' L' (S', Wj, Bj) 4).2.2, (rwF (mgF V' ((-1, -1, w, -1, false, l) : Ovr) P' L' (S', Wj, Bj) 4).1 P' L' a'), bp, G) else (w, l, lg, ll, Wj, Bj, fj, bp, G)), K', kb', fn', hb, F', b'), (show R0 _ _ _ _ _ _ _ _ _ _ _ _ _ _ _ _ _ _ _ _ _ _ _ _ _ _ _ from hR.mono (by omega)), fun ad => ?_, fun ad => ?_⟩
    · exact lx_t1 E len nx kk st nu nm T fk pl VA XA VB XB (S0, P, L, a, kp, Wn) Tt b Sl W F hb Q0 Q1 Q2 (if ixB y1 (npV VA) then (rqT (stT Tt VA P L S0) 4) else Tt) (S0, P, L, a, kp, Wn) (fun ad r => x_sum E ad r (bI hb) Tt VA XA S0 P L a kp Wn y1 hO (Sok.le hO hSo) hPl (by omega)) ad
    · exact Md.ans (lm_t E V' D' len T k' f' fa' VR' XR' (S', P', L', a') (w, l, lg, ll, Wj, Bj, fj, bp, G) K' kb' fn' hb F' b' (if ixB y1 (npV V') then (w, l, lg, ll, (mgF V' ((-1, -1, w, -1, false, l) : Ovr) P' L' (S', Wj, Bj) 4).2.1, (mgF V' ((-1, -1, w, -1, false, l) : Ovr) P' L' (S', Wj, Bj) 4).2.2, (rwF (mgF V' ((-1, -1, w, -1, false, l) : Ovr) P' L' (S', Wj, Bj) 4).1 P' L' a'), bp, G) else (w, l, lg, ll, Wj, Bj, fj, bp, G)) (S', P', L', a') (fun ad r i => m_sum E ad r i V' w l lg ll Wj Bj fj bp G S' P' L' a' y1 hO' (Sok.le hO' hSo') hPo' (by omega)) ad) (by
        rw [hnp]
        by_cases c : ixB y1 (npV VA) = true
        · rw [if_pos c, if_pos c]; exact (sm_eq (T := (stT Tt VA P L S0)) hq (ix_lt hp5 c) Wj Bj).symm
        · rw [if_neg c, if_neg c])
set_option maxHeartbeats 4000000 in
set_option maxRecDepth 100000 in
theorem pr_best (E : EnvT) (B : Nat) (x : Xst) (m : Mst) (y1 : Int32) (y2 : Int32) (hR : RR B x m) (hB : B < 2 ^ 28) : Pr E B mX9_best mX10_best [.int y1, .int y2] x m := by
  obtain ⟨sw, len, nx, kk, st, nu, nm, T, fk, pl, VA, XA, VB, XB, ⟨S0, P, L, a, kp, Wn⟩, Tt, b, Sl, W, F, hb, Q0, Q1, Q2⟩ := x
  obtain ⟨V', D', tp', T', k', f', fa', VR', XR', ⟨S', P', L', a'⟩, ⟨w, l, lg, ll, Wj, Bj, fj, bp, G⟩, K', kb', fn', hb', F', b'⟩ := m
  cases sw
  · have hR : R0 B VB XB len T fk pl (S0, P, L, a, kp, Wn) b W F hb Q0 Q1 Q2 V' D' tp' T' k' f' fa' (S', P', L', a') K' kb' hb' F' := hR
    obtain ⟨⟨ta, tb, tc, td, te⟩, ⟨hO, hV, hso, hst, hcl⟩, hN, ⟨s0, s1, s2⟩, ⟨fa1, fa2⟩, ⟨g1, g2, g3, g4⟩, ⟨l1, l2⟩⟩ := id hR
    subst tp' T' hb'
    have hO' : Vok V' := hO.eq' hV
    have hnp : npV V' = npV VB := hV.2.1.symm
    have hnh : nhV V' = nhV VB := hV.1.symm
    have hp5 : npV VB ≤ 5 := hO.2.1
    have hh5 : nhV VB ≤ 5 := hO.1
    have hSo : Sok VB S0 := hN.2.2.2.2.2.1
    have hPo : Pok VB P := hN.2.2.2.2.2.2.1
    have hPl : Ple P := hN.2.2.2.2.2.2.2.1
    have hps : psS S0 ≤ B := hN.2.2.2.2.2.2.2.2.1
    have hgb : ∀ W9 p, p < npV VB → Ib (ltS (gon VB L W9 S0) p) (-128) 127 := fun W9 p hp => gon_gb hO hN.2.2.2.2.2.2.2.2.2.1 hN.2.2.2.2.2.2.2.2.2.2 hp
    have hSo' : Sok V' S' := hN.Sok' hV
    have hPo' : Pok V' P' := hN.Pok' hV
    have hps' : psS S' ≤ B := hN.ps'
    have hq : Rq VB (ovr V' ((-1, -1, w, -1, false, l) : Ovr)) P P' L L' S0 S' := hN.Rq hO hV w l
    have hv : Rv VB V' ((-1, -1, w, -1, false, l) : Ovr) L L' S0 S' := ⟨hO, hq.2.1, hq.2.2.2.1, hq.2.2.2.2⟩
    refine ⟨(if (ixB y1 (npV VB) && rgB y2 (nI 0) (nI 4)) then (if y2 = nI 4 then bsT (fbT (stT Tt VB P L S0) (nN y1)) else cl (bpl (fbT (stT Tt VB P L S0) (nN y1)) (nN y2))) else -1000000), (false, len, nx, kk, st, nu, nm, T, fk, pl, VA, XA, VB, XB, (S0, P, L, a, kp, Wn), (if (ixB y1 (npV VB) && rgB y2 (nI 0) (nI 4)) then (fbT (stT Tt VB P L S0) (nN y1)) else Tt), b, Sl, W, F, hb, Q0, Q1, Q2), (V', D', len, T, k', f', fa', VR', XR', (S', P', L', a'), (if (ixB y1 (npV V') && rgB y2 (nI 0) (nI 4)) then (w, l, lg, ll, (fmR V' ((-1, -1, w, -1, false, l) : Ovr) S' P' L' a' (nN y1) Wj Bj fj).2.2.1, (fmR V' ((-1, -1, w, -1, false, l) : Ovr) S' P' L' a' (nN y1) Wj Bj fj).2.2.2.1, (fmR V' ((-1, -1, w, -1, false, l) : Ovr) S' P' L' a' (nN y1) Wj Bj fj).2.2.2.2, pbR V' (fmR V' ((-1, -1, w, -1, false, l) : Ovr) S' P' L' a' (nN y1) Wj Bj fj).2.1 bp, G) else (w, l, lg, ll, Wj, Bj, fj, bp, G)), K', kb', fn', hb, F', b'), (show R0 _ _ _ _ _ _ _ _ _ _ _ _ _ _ _ _ _ _ _ _ _ _ _ _ _ _ _ from hR.mono (by omega)), fun ad => ?_, fun ad => ?_⟩
    · exact lx_t0 E len nx kk st nu nm T fk pl VA XA VB XB (S0, P, L, a, kp, Wn) Tt b Sl W F hb Q0 Q1 Q2 (if (ixB y1 (npV VB) && rgB y2 (nI 0) (nI 4)) then (fbT (stT Tt VB P L S0) (nN y1)) else Tt) (S0, P, L, a, kp, Wn) (fun ad r => x_best E ad r (bI hb) Tt VB XB S0 P L a kp Wn y1 y2 hO (Sok.le hO hSo) hPl (by omega)) ad
    · exact Md.ans (lm_t E V' D' len T k' f' fa' VR' XR' (S', P', L', a') (w, l, lg, ll, Wj, Bj, fj, bp, G) K' kb' fn' hb F' b' (if (ixB y1 (npV V') && rgB y2 (nI 0) (nI 4)) then (w, l, lg, ll, (fmR V' ((-1, -1, w, -1, false, l) : Ovr) S' P' L' a' (nN y1) Wj Bj fj).2.2.1, (fmR V' ((-1, -1, w, -1, false, l) : Ovr) S' P' L' a' (nN y1) Wj Bj fj).2.2.2.1, (fmR V' ((-1, -1, w, -1, false, l) : Ovr) S' P' L' a' (nN y1) Wj Bj fj).2.2.2.2, pbR V' (fmR V' ((-1, -1, w, -1, false, l) : Ovr) S' P' L' a' (nN y1) Wj Bj fj).2.1 bp, G) else (w, l, lg, ll, Wj, Bj, fj, bp, G)) (S', P', L', a') (fun ad r i => m_best E ad r i V' w l lg ll Wj Bj fj bp G S' P' L' a' y1 y2 hO' (Sok.le hO' hSo') hPo' (by omega)) ad) (by
        rw [hnp]
        by_cases c : (ixB y1 (npV VB) && rgB y2 (nI 0) (nI 4)) = true
        · rw [if_pos c, if_pos c]
          have c1 := ix_lt hp5 (Bool.and_eq_true_iff.mp c).1
          have c2 := rg_lt (by decide) (by decide) (Bool.and_eq_true_iff.mp c).2
          have hf := fb_eq (T := (stT Tt VB P L S0)) hO hq.2.1 hq.2.2.1 hq.2.2.2.1 hq.2.2.2.2 c1 rfl rfl rfl rfl a' Wj Bj fj
          by_cases c3 : y2 = nI 4
          · rw [if_pos c3, if_pos c3]; exact hf.1.symm
          · rw [if_neg c3, if_neg c3, hf.2 bp (nN y2) (by have : ¬ nN y2 = 4 := fun z => c3 (by rw [← z]; exact (nN_e (rgB_f (Bool.and_eq_true_iff.mp c).2).1).1); omega)]
        · rw [if_neg c, if_neg c])
  · have hR : R0 B VA XA len T fk pl (S0, P, L, a, kp, Wn) b W F hb Q0 Q1 Q2 V' D' tp' T' k' f' fa' (S', P', L', a') K' kb' hb' F' := hR
    obtain ⟨⟨ta, tb, tc, td, te⟩, ⟨hO, hV, hso, hst, hcl⟩, hN, ⟨s0, s1, s2⟩, ⟨fa1, fa2⟩, ⟨g1, g2, g3, g4⟩, ⟨l1, l2⟩⟩ := id hR
    subst tp' T' hb'
    have hO' : Vok V' := hO.eq' hV
    have hnp : npV V' = npV VA := hV.2.1.symm
    have hnh : nhV V' = nhV VA := hV.1.symm
    have hp5 : npV VA ≤ 5 := hO.2.1
    have hh5 : nhV VA ≤ 5 := hO.1
    have hSo : Sok VA S0 := hN.2.2.2.2.2.1
    have hPo : Pok VA P := hN.2.2.2.2.2.2.1
    have hPl : Ple P := hN.2.2.2.2.2.2.2.1
    have hps : psS S0 ≤ B := hN.2.2.2.2.2.2.2.2.1
    have hgb : ∀ W9 p, p < npV VA → Ib (ltS (gon VA L W9 S0) p) (-128) 127 := fun W9 p hp => gon_gb hO hN.2.2.2.2.2.2.2.2.2.1 hN.2.2.2.2.2.2.2.2.2.2 hp
    have hSo' : Sok V' S' := hN.Sok' hV
    have hPo' : Pok V' P' := hN.Pok' hV
    have hps' : psS S' ≤ B := hN.ps'
    have hq : Rq VA (ovr V' ((-1, -1, w, -1, false, l) : Ovr)) P P' L L' S0 S' := hN.Rq hO hV w l
    have hv : Rv VA V' ((-1, -1, w, -1, false, l) : Ovr) L L' S0 S' := ⟨hO, hq.2.1, hq.2.2.2.1, hq.2.2.2.2⟩
    refine ⟨(if (ixB y1 (npV VA) && rgB y2 (nI 0) (nI 4)) then (if y2 = nI 4 then bsT (fbT (stT Tt VA P L S0) (nN y1)) else cl (bpl (fbT (stT Tt VA P L S0) (nN y1)) (nN y2))) else -1000000), (true, len, nx, kk, st, nu, nm, T, fk, pl, VA, XA, VB, XB, (S0, P, L, a, kp, Wn), (if (ixB y1 (npV VA) && rgB y2 (nI 0) (nI 4)) then (fbT (stT Tt VA P L S0) (nN y1)) else Tt), b, Sl, W, F, hb, Q0, Q1, Q2), (V', D', len, T, k', f', fa', VR', XR', (S', P', L', a'), (if (ixB y1 (npV V') && rgB y2 (nI 0) (nI 4)) then (w, l, lg, ll, (fmR V' ((-1, -1, w, -1, false, l) : Ovr) S' P' L' a' (nN y1) Wj Bj fj).2.2.1, (fmR V' ((-1, -1, w, -1, false, l) : Ovr) S' P' L' a' (nN y1) Wj Bj fj).2.2.2.1, (fmR V' ((-1, -1, w, -1, false, l) : Ovr) S' P' L' a' (nN y1) Wj Bj fj).2.2.2.2, pbR V' (fmR V' ((-1, -1, w, -1, false, l) : Ovr) S' P' L' a' (nN y1) Wj Bj fj).2.1 bp, G) else (w, l, lg, ll, Wj, Bj, fj, bp, G)), K', kb', fn', hb, F', b'), (show R0 _ _ _ _ _ _ _ _ _ _ _ _ _ _ _ _ _ _ _ _ _ _ _ _ _ _ _ from hR.mono (by omega)), fun ad => ?_, fun ad => ?_⟩
    · exact lx_t1 E len nx kk st nu nm T fk pl VA XA VB XB (S0, P, L, a, kp, Wn) Tt b Sl W F hb Q0 Q1 Q2 (if (ixB y1 (npV VA) && rgB y2 (nI 0) (nI 4)) then (fbT (stT Tt VA P L S0) (nN y1)) else Tt) (S0, P, L, a, kp, Wn) (fun ad r => x_best E ad r (bI hb) Tt VA XA S0 P L a kp Wn y1 y2 hO (Sok.le hO hSo) hPl (by omega)) ad
    · exact Md.ans (lm_t E V' D' len T k' f' fa' VR' XR' (S', P', L', a') (w, l, lg, ll, Wj, Bj, fj, bp, G) K' kb' fn' hb F' b' (if (ixB y1 (npV V') && rgB y2 (nI 0) (nI 4)) then (w, l, lg, ll, (fmR V' ((-1, -1, w, -1, false, l) : Ovr) S' P' L' a' (nN y1) Wj Bj fj).2.2.1, (fmR V' ((-1, -1, w, -1, false, l) : Ovr) S' P' L' a' (nN y1) Wj Bj fj).2.2.2.1, (fmR V' ((-1, -1, w, -1, false, l) : Ovr) S' P' L' a' (nN y1) Wj Bj fj).2.2.2.2, pbR V' (fmR V' ((-1, -1, w, -1, false, l) : Ovr) S' P' L' a' (nN y1) Wj Bj fj).2.1 bp, G) else (w, l, lg, ll, Wj, Bj, fj, bp, G)) (S', P', L', a') (fun ad r i => m_best E ad r i V' w l lg ll Wj Bj fj bp G S' P' L' a' y1 y2 hO' (Sok.le hO' hSo') hPo' (by omega)) ad) (by
        rw [hnp]
        by_cases c : (ixB y1 (npV VA) && rgB y2 (nI 0) (nI 4)) = true
        · rw [if_pos c, if_pos c]
          have c1 := ix_lt hp5 (Bool.and_eq_true_iff.mp c).1
          have c2 := rg_lt (by decide) (by decide) (Bool.and_eq_true_iff.mp c).2
          have hf := fb_eq (T := (stT Tt VA P L S0)) hO hq.2.1 hq.2.2.1 hq.2.2.2.1 hq.2.2.2.2 c1 rfl rfl rfl rfl a' Wj Bj fj
          by_cases c3 : y2 = nI 4
          · rw [if_pos c3, if_pos c3]; exact hf.1.symm
          · rw [if_neg c3, if_neg c3, hf.2 bp (nN y2) (by have : ¬ nN y2 = 4 := fun z => c3 (by rw [← z]; exact (nN_e (rgB_f (Bool.and_eq_true_iff.mp c).2).1).1); omega)]
        · rw [if_neg c, if_neg c])
set_option maxHeartbeats 4000000 in
set_option maxRecDepth 100000 in
theorem pr_rests (E : EnvT) (B : Nat) (x : Xst) (m : Mst)  (hR : RR B x m) (hB : B < 2 ^ 28) : Pr E B mX9_rests mX10_rests [] x m := by
  obtain ⟨sw, len, nx, kk, st, nu, nm, T, fk, pl, VA, XA, VB, XB, ⟨S0, P, L, a, kp, Wn⟩, Tt, b, Sl, W, F, hb, Q0, Q1, Q2⟩ := x
  obtain ⟨V', D', tp', T', k', f', fa', VR', XR', ⟨S', P', L', a'⟩, ⟨w, l, lg, ll, Wj, Bj, fj, bp, G⟩, K', kb', fn', hb', F', b'⟩ := m
  cases sw
  · have hR : R0 B VB XB len T fk pl (S0, P, L, a, kp, Wn) b W F hb Q0 Q1 Q2 V' D' tp' T' k' f' fa' (S', P', L', a') K' kb' hb' F' := hR
    obtain ⟨⟨ta, tb, tc, td, te⟩, ⟨hO, hV, hso, hst, hcl⟩, hN, ⟨s0, s1, s2⟩, ⟨fa1, fa2⟩, ⟨g1, g2, g3, g4⟩, ⟨l1, l2⟩⟩ := id hR
    subst tp' T' hb'
    have hO' : Vok V' := hO.eq' hV
    have hnp : npV V' = npV VB := hV.2.1.symm
    have hnh : nhV V' = nhV VB := hV.1.symm
    have hp5 : npV VB ≤ 5 := hO.2.1
    have hh5 : nhV VB ≤ 5 := hO.1
    have hSo : Sok VB S0 := hN.2.2.2.2.2.1
    have hPo : Pok VB P := hN.2.2.2.2.2.2.1
    have hPl : Ple P := hN.2.2.2.2.2.2.2.1
    have hps : psS S0 ≤ B := hN.2.2.2.2.2.2.2.2.1
    have hgb : ∀ W9 p, p < npV VB → Ib (ltS (gon VB L W9 S0) p) (-128) 127 := fun W9 p hp => gon_gb hO hN.2.2.2.2.2.2.2.2.2.1 hN.2.2.2.2.2.2.2.2.2.2 hp
    have hSo' : Sok V' S' := hN.Sok' hV
    have hPo' : Pok V' P' := hN.Pok' hV
    have hps' : psS S' ≤ B := hN.ps'
    have hq : Rq VB (ovr V' ((-1, -1, w, -1, false, l) : Ovr)) P P' L L' S0 S' := hN.Rq hO hV w l
    have hv : Rv VB V' ((-1, -1, w, -1, false, l) : Ovr) L L' S0 S' := ⟨hO, hq.2.1, hq.2.2.2.1, hq.2.2.2.2⟩
    obtain ⟨N9, hN9⟩ : ∃ n : Nat, n = 7776 := ⟨7776, rfl⟩
    refine ⟨(nI (rtF N9 (stT Tt VB P L S0) (-1)).1), (false, len, nx, kk, st, nu, nm, T, fk, pl, VA, XA, VB, XB, (S0, P, L, a, kp, Wn), (rtT N9 (stT Tt VB P L S0) (-1)), b, Sl, W, F, hb, Q0, Q1, Q2), (V', D', len, T, k', f', fa', VR', XR', (S', P', L', a'), (w, l, lg, ll, (ggF V' ((-1, -1, w, -1, false, l) : Ovr) S' P' L' a' (Wj, Bj, fj, G) (rwN V')).1, (ggF V' ((-1, -1, w, -1, false, l) : Ovr) S' P' L' a' (Wj, Bj, fj, G) (rwN V')).2.1, (ggF V' ((-1, -1, w, -1, false, l) : Ovr) S' P' L' a' (Wj, Bj, fj, G) (rwN V')).2.2.1, bp, (ggF V' ((-1, -1, w, -1, false, l) : Ovr) S' P' L' a' (Wj, Bj, fj, G) (rwN V')).2.2.2), K', kb', fn', hb, F', b'), (show R0 _ _ _ _ _ _ _ _ _ _ _ _ _ _ _ _ _ _ _ _ _ _ _ _ _ _ _ from hR.mono (by omega)), fun ad => ?_, fun ad => ?_⟩
    · exact lx_t0 E len nx kk st nu nm T fk pl VA XA VB XB (S0, P, L, a, kp, Wn) Tt b Sl W F hb Q0 Q1 Q2 (rtT N9 (stT Tt VB P L S0) (-1)) (S0, P, L, a, kp, Wn) (fun ad r => x_rests E ad r (bI hb) Tt VB XB S0 P L a kp Wn  N9 hN9 hO (Sok.le hO hSo) hPl (by omega)) ad
    · exact Md.ans (lm_t E V' D' len T k' f' fa' VR' XR' (S', P', L', a') (w, l, lg, ll, Wj, Bj, fj, bp, G) K' kb' fn' hb F' b' (w, l, lg, ll, (ggF V' ((-1, -1, w, -1, false, l) : Ovr) S' P' L' a' (Wj, Bj, fj, G) (rwN V')).1, (ggF V' ((-1, -1, w, -1, false, l) : Ovr) S' P' L' a' (Wj, Bj, fj, G) (rwN V')).2.1, (ggF V' ((-1, -1, w, -1, false, l) : Ovr) S' P' L' a' (Wj, Bj, fj, G) (rwN V')).2.2.1, bp, (ggF V' ((-1, -1, w, -1, false, l) : Ovr) S' P' L' a' (Wj, Bj, fj, G) (rwN V')).2.2.2) (S', P', L', a') (fun ad r i => m_rests E ad r i V' w l lg ll Wj Bj fj bp G S' P' L' a'  hO' (Sok.le hO' hSo') hPo' (by omega)) ad) (by
        rw [rests_eq (T := (stT Tt VB P L S0)) hv hgb N9 hN9 P' a' (Wj, Bj, fj, G)])
  · have hR : R0 B VA XA len T fk pl (S0, P, L, a, kp, Wn) b W F hb Q0 Q1 Q2 V' D' tp' T' k' f' fa' (S', P', L', a') K' kb' hb' F' := hR
    obtain ⟨⟨ta, tb, tc, td, te⟩, ⟨hO, hV, hso, hst, hcl⟩, hN, ⟨s0, s1, s2⟩, ⟨fa1, fa2⟩, ⟨g1, g2, g3, g4⟩, ⟨l1, l2⟩⟩ := id hR
    subst tp' T' hb'
    have hO' : Vok V' := hO.eq' hV
    have hnp : npV V' = npV VA := hV.2.1.symm
    have hnh : nhV V' = nhV VA := hV.1.symm
    have hp5 : npV VA ≤ 5 := hO.2.1
    have hh5 : nhV VA ≤ 5 := hO.1
    have hSo : Sok VA S0 := hN.2.2.2.2.2.1
    have hPo : Pok VA P := hN.2.2.2.2.2.2.1
    have hPl : Ple P := hN.2.2.2.2.2.2.2.1
    have hps : psS S0 ≤ B := hN.2.2.2.2.2.2.2.2.1
    have hgb : ∀ W9 p, p < npV VA → Ib (ltS (gon VA L W9 S0) p) (-128) 127 := fun W9 p hp => gon_gb hO hN.2.2.2.2.2.2.2.2.2.1 hN.2.2.2.2.2.2.2.2.2.2 hp
    have hSo' : Sok V' S' := hN.Sok' hV
    have hPo' : Pok V' P' := hN.Pok' hV
    have hps' : psS S' ≤ B := hN.ps'
    have hq : Rq VA (ovr V' ((-1, -1, w, -1, false, l) : Ovr)) P P' L L' S0 S' := hN.Rq hO hV w l
    have hv : Rv VA V' ((-1, -1, w, -1, false, l) : Ovr) L L' S0 S' := ⟨hO, hq.2.1, hq.2.2.2.1, hq.2.2.2.2⟩
    obtain ⟨N9, hN9⟩ : ∃ n : Nat, n = 7776 := ⟨7776, rfl⟩
    refine ⟨(nI (rtF N9 (stT Tt VA P L S0) (-1)).1), (true, len, nx, kk, st, nu, nm, T, fk, pl, VA, XA, VB, XB, (S0, P, L, a, kp, Wn), (rtT N9 (stT Tt VA P L S0) (-1)), b, Sl, W, F, hb, Q0, Q1, Q2), (V', D', len, T, k', f', fa', VR', XR', (S', P', L', a'), (w, l, lg, ll, (ggF V' ((-1, -1, w, -1, false, l) : Ovr) S' P' L' a' (Wj, Bj, fj, G) (rwN V')).1, (ggF V' ((-1, -1, w, -1, false, l) : Ovr) S' P' L' a' (Wj, Bj, fj, G) (rwN V')).2.1, (ggF V' ((-1, -1, w, -1, false, l) : Ovr) S' P' L' a' (Wj, Bj, fj, G) (rwN V')).2.2.1, bp, (ggF V' ((-1, -1, w, -1, false, l) : Ovr) S' P' L' a' (Wj, Bj, fj, G) (rwN V')).2.2.2), K', kb', fn', hb, F', b'), (show R0 _ _ _ _ _ _ _ _ _ _ _ _ _ _ _ _ _ _ _ _ _ _ _ _ _ _ _ from hR.mono (by omega)), fun ad => ?_, fun ad => ?_⟩
    · exact lx_t1 E len nx kk st nu nm T fk pl VA XA VB XB (S0, P, L, a, kp, Wn) Tt b Sl W F hb Q0 Q1 Q2 (rtT N9 (stT Tt VA P L S0) (-1)) (S0, P, L, a, kp, Wn) (fun ad r => x_rests E ad r (bI hb) Tt VA XA S0 P L a kp Wn  N9 hN9 hO (Sok.le hO hSo) hPl (by omega)) ad
    · exact Md.ans (lm_t E V' D' len T k' f' fa' VR' XR' (S', P', L', a') (w, l, lg, ll, Wj, Bj, fj, bp, G) K' kb' fn' hb F' b' (w, l, lg, ll, (ggF V' ((-1, -1, w, -1, false, l) : Ovr) S' P' L' a' (Wj, Bj, fj, G) (rwN V')).1, (ggF V' ((-1, -1, w, -1, false, l) : Ovr) S' P' L' a' (Wj, Bj, fj, G) (rwN V')).2.1, (ggF V' ((-1, -1, w, -1, false, l) : Ovr) S' P' L' a' (Wj, Bj, fj, G) (rwN V')).2.2.1, bp, (ggF V' ((-1, -1, w, -1, false, l) : Ovr) S' P' L' a' (Wj, Bj, fj, G) (rwN V')).2.2.2) (S', P', L', a') (fun ad r i => m_rests E ad r i V' w l lg ll Wj Bj fj bp G S' P' L' a'  hO' (Sok.le hO' hSo') hPo' (by omega)) ad) (by
        rw [rests_eq (T := (stT Tt VA P L S0)) hv hgb N9 hN9 P' a' (Wj, Bj, fj, G)])
set_option maxHeartbeats 4000000 in
set_option maxRecDepth 100000 in
theorem pr_rest (E : EnvT) (B : Nat) (x : Xst) (m : Mst) (y1 : Int32) (y2 : Int32) (hR : RR B x m) (hB : B < 2 ^ 28) : Pr E B mX9_rest mX10_rest [.int y1, .int y2] x m := by
  obtain ⟨sw, len, nx, kk, st, nu, nm, T, fk, pl, VA, XA, VB, XB, ⟨S0, P, L, a, kp, Wn⟩, Tt, b, Sl, W, F, hb, Q0, Q1, Q2⟩ := x
  obtain ⟨V', D', tp', T', k', f', fa', VR', XR', ⟨S', P', L', a'⟩, ⟨w, l, lg, ll, Wj, Bj, fj, bp, G⟩, K', kb', fn', hb', F', b'⟩ := m
  cases sw
  · have hR : R0 B VB XB len T fk pl (S0, P, L, a, kp, Wn) b W F hb Q0 Q1 Q2 V' D' tp' T' k' f' fa' (S', P', L', a') K' kb' hb' F' := hR
    obtain ⟨⟨ta, tb, tc, td, te⟩, ⟨hO, hV, hso, hst, hcl⟩, hN, ⟨s0, s1, s2⟩, ⟨fa1, fa2⟩, ⟨g1, g2, g3, g4⟩, ⟨l1, l2⟩⟩ := id hR
    subst tp' T' hb'
    have hO' : Vok V' := hO.eq' hV
    have hnp : npV V' = npV VB := hV.2.1.symm
    have hnh : nhV V' = nhV VB := hV.1.symm
    have hp5 : npV VB ≤ 5 := hO.2.1
    have hh5 : nhV VB ≤ 5 := hO.1
    have hSo : Sok VB S0 := hN.2.2.2.2.2.1
    have hPo : Pok VB P := hN.2.2.2.2.2.2.1
    have hPl : Ple P := hN.2.2.2.2.2.2.2.1
    have hps : psS S0 ≤ B := hN.2.2.2.2.2.2.2.2.1
    have hgb : ∀ W9 p, p < npV VB → Ib (ltS (gon VB L W9 S0) p) (-128) 127 := fun W9 p hp => gon_gb hO hN.2.2.2.2.2.2.2.2.2.1 hN.2.2.2.2.2.2.2.2.2.2 hp
    have hSo' : Sok V' S' := hN.Sok' hV
    have hPo' : Pok V' P' := hN.Pok' hV
    have hps' : psS S' ≤ B := hN.ps'
    have hq : Rq VB (ovr V' ((-1, -1, w, -1, false, l) : Ovr)) P P' L L' S0 S' := hN.Rq hO hV w l
    have hv : Rv VB V' ((-1, -1, w, -1, false, l) : Ovr) L L' S0 S' := ⟨hO, hq.2.1, hq.2.2.2.1, hq.2.2.2.2⟩
    obtain ⟨N9, hN9⟩ : ∃ n : Nat, n = 7776 := ⟨7776, rfl⟩
    refine ⟨(if (!decide (y1 < 0) && ixB y2 (npV VB)) then (if y1 < nI (rtF N9 (stT Tt VB P L S0) y1).1 then cl (wT (rtT N9 (stT Tt VB P L S0) y1) (nN y2)) else -2) else -2), (false, len, nx, kk, st, nu, nm, T, fk, pl, VA, XA, VB, XB, (S0, P, L, a, kp, Wn), (if (!decide (y1 < 0) && ixB y2 (npV VB)) then (rtT N9 (stT Tt VB P L S0) y1) else Tt), b, Sl, W, F, hb, Q0, Q1, Q2), (V', D', len, T, k', f', fa', VR', XR', (S', P', L', a'), (if (!decide (y1 < 0) && ixB y2 (npV V')) then (w, l, lg, ll, (ggF V' ((-1, -1, w, -1, false, l) : Ovr) S' P' L' a' (Wj, Bj, fj, G) (rwN V')).1, (ggF V' ((-1, -1, w, -1, false, l) : Ovr) S' P' L' a' (Wj, Bj, fj, G) (rwN V')).2.1, (ggF V' ((-1, -1, w, -1, false, l) : Ovr) S' P' L' a' (Wj, Bj, fj, G) (rwN V')).2.2.1, bp, (ggF V' ((-1, -1, w, -1, false, l) : Ovr) S' P' L' a' (Wj, Bj, fj, G) (rwN V')).2.2.2) else (w, l, lg, ll, Wj, Bj, fj, bp, G)), K', kb', fn', hb, F', b'), (show R0 _ _ _ _ _ _ _ _ _ _ _ _ _ _ _ _ _ _ _ _ _ _ _ _ _ _ _ from hR.mono (by omega)), fun ad => ?_, fun ad => ?_⟩
    · exact lx_t0 E len nx kk st nu nm T fk pl VA XA VB XB (S0, P, L, a, kp, Wn) Tt b Sl W F hb Q0 Q1 Q2 (if (!decide (y1 < 0) && ixB y2 (npV VB)) then (rtT N9 (stT Tt VB P L S0) y1) else Tt) (S0, P, L, a, kp, Wn) (fun ad r => x_rest E ad r (bI hb) Tt VB XB S0 P L a kp Wn y1 y2 N9 hN9 hO (Sok.le hO hSo) hPl (by omega)) ad
    · exact Md.ans (lm_t E V' D' len T k' f' fa' VR' XR' (S', P', L', a') (w, l, lg, ll, Wj, Bj, fj, bp, G) K' kb' fn' hb F' b' (if (!decide (y1 < 0) && ixB y2 (npV V')) then (w, l, lg, ll, (ggF V' ((-1, -1, w, -1, false, l) : Ovr) S' P' L' a' (Wj, Bj, fj, G) (rwN V')).1, (ggF V' ((-1, -1, w, -1, false, l) : Ovr) S' P' L' a' (Wj, Bj, fj, G) (rwN V')).2.1, (ggF V' ((-1, -1, w, -1, false, l) : Ovr) S' P' L' a' (Wj, Bj, fj, G) (rwN V')).2.2.1, bp, (ggF V' ((-1, -1, w, -1, false, l) : Ovr) S' P' L' a' (Wj, Bj, fj, G) (rwN V')).2.2.2) else (w, l, lg, ll, Wj, Bj, fj, bp, G)) (S', P', L', a') (fun ad r i => m_rest E ad r i V' w l lg ll Wj Bj fj bp G S' P' L' a' y1 y2 hO' (Sok.le hO' hSo') hPo' (by omega)) ad) (by
        rw [hnp]
        by_cases c : (!decide (y1 < 0) && ixB y2 (npV VB)) = true
        · rw [if_pos c, if_pos c]
          exact (rest_eq (T := (stT Tt VB P L S0)) hv hgb N9 hN9 P' a' (Wj, Bj, fj, G) (bnot_dec.mp (Bool.and_eq_true_iff.mp c).1) (ix_lt hp5 (Bool.and_eq_true_iff.mp c).2)).symm
        · rw [if_neg c, if_neg c])
  · have hR : R0 B VA XA len T fk pl (S0, P, L, a, kp, Wn) b W F hb Q0 Q1 Q2 V' D' tp' T' k' f' fa' (S', P', L', a') K' kb' hb' F' := hR
    obtain ⟨⟨ta, tb, tc, td, te⟩, ⟨hO, hV, hso, hst, hcl⟩, hN, ⟨s0, s1, s2⟩, ⟨fa1, fa2⟩, ⟨g1, g2, g3, g4⟩, ⟨l1, l2⟩⟩ := id hR
    subst tp' T' hb'
    have hO' : Vok V' := hO.eq' hV
    have hnp : npV V' = npV VA := hV.2.1.symm
    have hnh : nhV V' = nhV VA := hV.1.symm
    have hp5 : npV VA ≤ 5 := hO.2.1
    have hh5 : nhV VA ≤ 5 := hO.1
    have hSo : Sok VA S0 := hN.2.2.2.2.2.1
    have hPo : Pok VA P := hN.2.2.2.2.2.2.1
    have hPl : Ple P := hN.2.2.2.2.2.2.2.1
    have hps : psS S0 ≤ B := hN.2.2.2.2.2.2.2.2.1
    have hgb : ∀ W9 p, p < npV VA → Ib (ltS (gon VA L W9 S0) p) (-128) 127 := fun W9 p hp => gon_gb hO hN.2.2.2.2.2.2.2.2.2.1 hN.2.2.2.2.2.2.2.2.2.2 hp
    have hSo' : Sok V' S' := hN.Sok' hV
    have hPo' : Pok V' P' := hN.Pok' hV
    have hps' : psS S' ≤ B := hN.ps'
    have hq : Rq VA (ovr V' ((-1, -1, w, -1, false, l) : Ovr)) P P' L L' S0 S' := hN.Rq hO hV w l
    have hv : Rv VA V' ((-1, -1, w, -1, false, l) : Ovr) L L' S0 S' := ⟨hO, hq.2.1, hq.2.2.2.1, hq.2.2.2.2⟩
    obtain ⟨N9, hN9⟩ : ∃ n : Nat, n = 7776 := ⟨7776, rfl⟩
    refine ⟨(if (!decide (y1 < 0) && ixB y2 (npV VA)) then (if y1 < nI (rtF N9 (stT Tt VA P L S0) y1).1 then cl (wT (rtT N9 (stT Tt VA P L S0) y1) (nN y2)) else -2) else -2), (true, len, nx, kk, st, nu, nm, T, fk, pl, VA, XA, VB, XB, (S0, P, L, a, kp, Wn), (if (!decide (y1 < 0) && ixB y2 (npV VA)) then (rtT N9 (stT Tt VA P L S0) y1) else Tt), b, Sl, W, F, hb, Q0, Q1, Q2), (V', D', len, T, k', f', fa', VR', XR', (S', P', L', a'), (if (!decide (y1 < 0) && ixB y2 (npV V')) then (w, l, lg, ll, (ggF V' ((-1, -1, w, -1, false, l) : Ovr) S' P' L' a' (Wj, Bj, fj, G) (rwN V')).1, (ggF V' ((-1, -1, w, -1, false, l) : Ovr) S' P' L' a' (Wj, Bj, fj, G) (rwN V')).2.1, (ggF V' ((-1, -1, w, -1, false, l) : Ovr) S' P' L' a' (Wj, Bj, fj, G) (rwN V')).2.2.1, bp, (ggF V' ((-1, -1, w, -1, false, l) : Ovr) S' P' L' a' (Wj, Bj, fj, G) (rwN V')).2.2.2) else (w, l, lg, ll, Wj, Bj, fj, bp, G)), K', kb', fn', hb, F', b'), (show R0 _ _ _ _ _ _ _ _ _ _ _ _ _ _ _ _ _ _ _ _ _ _ _ _ _ _ _ from hR.mono (by omega)), fun ad => ?_, fun ad => ?_⟩
    · exact lx_t1 E len nx kk st nu nm T fk pl VA XA VB XB (S0, P, L, a, kp, Wn) Tt b Sl W F hb Q0 Q1 Q2 (if (!decide (y1 < 0) && ixB y2 (npV VA)) then (rtT N9 (stT Tt VA P L S0) y1) else Tt) (S0, P, L, a, kp, Wn) (fun ad r => x_rest E ad r (bI hb) Tt VA XA S0 P L a kp Wn y1 y2 N9 hN9 hO (Sok.le hO hSo) hPl (by omega)) ad
    · exact Md.ans (lm_t E V' D' len T k' f' fa' VR' XR' (S', P', L', a') (w, l, lg, ll, Wj, Bj, fj, bp, G) K' kb' fn' hb F' b' (if (!decide (y1 < 0) && ixB y2 (npV V')) then (w, l, lg, ll, (ggF V' ((-1, -1, w, -1, false, l) : Ovr) S' P' L' a' (Wj, Bj, fj, G) (rwN V')).1, (ggF V' ((-1, -1, w, -1, false, l) : Ovr) S' P' L' a' (Wj, Bj, fj, G) (rwN V')).2.1, (ggF V' ((-1, -1, w, -1, false, l) : Ovr) S' P' L' a' (Wj, Bj, fj, G) (rwN V')).2.2.1, bp, (ggF V' ((-1, -1, w, -1, false, l) : Ovr) S' P' L' a' (Wj, Bj, fj, G) (rwN V')).2.2.2) else (w, l, lg, ll, Wj, Bj, fj, bp, G)) (S', P', L', a') (fun ad r i => m_rest E ad r i V' w l lg ll Wj Bj fj bp G S' P' L' a' y1 y2 hO' (Sok.le hO' hSo') hPo' (by omega)) ad) (by
        rw [hnp]
        by_cases c : (!decide (y1 < 0) && ixB y2 (npV VA)) = true
        · rw [if_pos c, if_pos c]
          exact (rest_eq (T := (stT Tt VA P L S0)) hv hgb N9 hN9 P' a' (Wj, Bj, fj, G) (bnot_dec.mp (Bool.and_eq_true_iff.mp c).1) (ix_lt hp5 (Bool.and_eq_true_iff.mp c).2)).symm
        · rw [if_neg c, if_neg c])
set_option maxHeartbeats 4000000 in
set_option maxRecDepth 100000 in
theorem pr_longer (E : EnvT) (B : Nat) (x : Xst) (m : Mst) (y1 : Int32) (y2 : Int32) (y3 : Int32) (hR : RR B x m) (hB : B < 2 ^ 28) : Pr E B mX9_longer mX10_longer [.int y1, .int y2, .int y3] x m := by
  obtain ⟨sw, len, nx, kk, st, nu, nm, T, fk, pl, VA, XA, VB, XB, ⟨S0, P, L, a, kp, Wn⟩, Tt, b, Sl, W, F, hb, Q0, Q1, Q2⟩ := x
  obtain ⟨V', D', tp', T', k', f', fa', VR', XR', ⟨S', P', L', a'⟩, ⟨w, l, lg, ll, Wj, Bj, fj, bp, G⟩, K', kb', fn', hb', F', b'⟩ := m
  cases sw
  · have hR : R0 B VB XB len T fk pl (S0, P, L, a, kp, Wn) b W F hb Q0 Q1 Q2 V' D' tp' T' k' f' fa' (S', P', L', a') K' kb' hb' F' := hR
    obtain ⟨⟨ta, tb, tc, td, te⟩, ⟨hO, hV, hso, hst, hcl⟩, hN, ⟨s0, s1, s2⟩, ⟨fa1, fa2⟩, ⟨g1, g2, g3, g4⟩, ⟨l1, l2⟩⟩ := id hR
    subst tp' T' hb'
    have hO' : Vok V' := hO.eq' hV
    have hnp : npV V' = npV VB := hV.2.1.symm
    have hnh : nhV V' = nhV VB := hV.1.symm
    have hp5 : npV VB ≤ 5 := hO.2.1
    have hh5 : nhV VB ≤ 5 := hO.1
    have hSo : Sok VB S0 := hN.2.2.2.2.2.1
    have hPo : Pok VB P := hN.2.2.2.2.2.2.1
    have hPl : Ple P := hN.2.2.2.2.2.2.2.1
    have hps : psS S0 ≤ B := hN.2.2.2.2.2.2.2.2.1
    have hgb : ∀ W9 p, p < npV VB → Ib (ltS (gon VB L W9 S0) p) (-128) 127 := fun W9 p hp => gon_gb hO hN.2.2.2.2.2.2.2.2.2.1 hN.2.2.2.2.2.2.2.2.2.2 hp
    have hSo' : Sok V' S' := hN.Sok' hV
    have hPo' : Pok V' P' := hN.Pok' hV
    have hps' : psS S' ≤ B := hN.ps'
    have hq : Rq VB (ovr V' ((-1, -1, w, -1, false, l) : Ovr)) P P' L L' S0 S' := hN.Rq hO hV w l
    have hv : Rv VB V' ((-1, -1, w, -1, false, l) : Ovr) L L' S0 S' := ⟨hO, hq.2.1, hq.2.2.2.1, hq.2.2.2.2⟩
    refine ⟨(if (ixB y1 (nhV VB) && rgB y2 (nI 1) (nI 60) && rgB y3 (nI 0) (nI 1)) then (if y3 = nI 0 then soS (sT (rqT (stT Tt VB P L S0) (nN y2 * 4))) (nN y1) else stS (sT (rqT (stT Tt VB P L S0) (nN y2 * 4))) (nN y1)) else -2), (false, len, nx, kk, st, nu, nm, T, fk, pl, VA, XA, VB, XB, (S0, P, L, a, kp, Wn), (if (ixB y1 (nhV VB) && rgB y2 (nI 1) (nI 60) && rgB y3 (nI 0) (nI 1)) then (rqT (stT Tt VB P L S0) (nN y2 * 4)) else Tt), b, Sl, W, F, hb, Q0, Q1, Q2), (V', D', len, T, k', f', fa', VR', XR', (S', P', L', a'), (if (ixB y1 (nhV V') && rgB y2 (nI 1) (nI 60) && rgB y3 (nI 0) (nI 1)) then (w, l, lg, ll, (mgF V' ((-1, -1, w, -1, false, l) : Ovr) P' L' (S', Wj, Bj) (4 * nN y2)).2.1, (mgF V' ((-1, -1, w, -1, false, l) : Ovr) P' L' (S', Wj, Bj) (4 * nN y2)).2.2, (rwF (mgF V' ((-1, -1, w, -1, false, l) : Ovr) P' L' (S', Wj, Bj) (4 * nN y2)).1 P' L' a'), bp, G) else (w, l, lg, ll, Wj, Bj, fj, bp, G)), K', kb', fn', hb, F', b'), (show R0 _ _ _ _ _ _ _ _ _ _ _ _ _ _ _ _ _ _ _ _ _ _ _ _ _ _ _ from hR.mono (by omega)), fun ad => ?_, fun ad => ?_⟩
    · exact lx_t0 E len nx kk st nu nm T fk pl VA XA VB XB (S0, P, L, a, kp, Wn) Tt b Sl W F hb Q0 Q1 Q2 (if (ixB y1 (nhV VB) && rgB y2 (nI 1) (nI 60) && rgB y3 (nI 0) (nI 1)) then (rqT (stT Tt VB P L S0) (nN y2 * 4)) else Tt) (S0, P, L, a, kp, Wn) (fun ad r => x_longer E ad r (bI hb) Tt VB XB S0 P L a kp Wn y1 y2 y3 hO (Sok.le hO hSo) hPl (by omega)) ad
    · exact Md.ans (lm_t E V' D' len T k' f' fa' VR' XR' (S', P', L', a') (w, l, lg, ll, Wj, Bj, fj, bp, G) K' kb' fn' hb F' b' (if (ixB y1 (nhV V') && rgB y2 (nI 1) (nI 60) && rgB y3 (nI 0) (nI 1)) then (w, l, lg, ll, (mgF V' ((-1, -1, w, -1, false, l) : Ovr) P' L' (S', Wj, Bj) (4 * nN y2)).2.1, (mgF V' ((-1, -1, w, -1, false, l) : Ovr) P' L' (S', Wj, Bj) (4 * nN y2)).2.2, (rwF (mgF V' ((-1, -1, w, -1, false, l) : Ovr) P' L' (S', Wj, Bj) (4 * nN y2)).1 P' L' a'), bp, G) else (w, l, lg, ll, Wj, Bj, fj, bp, G)) (S', P', L', a') (fun ad r i => m_longer E ad r i V' w l lg ll Wj Bj fj bp G S' P' L' a' y1 y2 y3 hO' (Sok.le hO' hSo') hPo' (by omega)) ad) (by
        rw [hnh]
        by_cases c : (ixB y1 (nhV VB) && rgB y2 (nI 1) (nI 60) && rgB y3 (nI 0) (nI 1)) = true
        · rw [if_pos c, if_pos c]
          have c1 := ix_lt hh5 (Bool.and_eq_true_iff.mp (Bool.and_eq_true_iff.mp c).1).1
          have hr := hq.run (4 * nN y2)
          have e1 : sT (rqT (stT Tt VB P L S0) (nN y2 * 4)) = run VB P L S0 (4 * nN y2) := by rw [Nat.mul_comm 4]; exact rq_run (stT Tt VB P L S0) (nN y2 * 4)
          rw [e1, mg_run]
          by_cases c3 : y3 = nI 0
          · rw [if_pos c3, if_pos c3]; exact (hr.2.2.2.2.2.1 _ c1).symm
          · rw [if_neg c3, if_neg c3]; exact (hr.2.2.2.2.2.2 _ c1).symm
        · rw [if_neg c, if_neg c])
  · have hR : R0 B VA XA len T fk pl (S0, P, L, a, kp, Wn) b W F hb Q0 Q1 Q2 V' D' tp' T' k' f' fa' (S', P', L', a') K' kb' hb' F' := hR
    obtain ⟨⟨ta, tb, tc, td, te⟩, ⟨hO, hV, hso, hst, hcl⟩, hN, ⟨s0, s1, s2⟩, ⟨fa1, fa2⟩, ⟨g1, g2, g3, g4⟩, ⟨l1, l2⟩⟩ := id hR
    subst tp' T' hb'
    have hO' : Vok V' := hO.eq' hV
    have hnp : npV V' = npV VA := hV.2.1.symm
    have hnh : nhV V' = nhV VA := hV.1.symm
    have hp5 : npV VA ≤ 5 := hO.2.1
    have hh5 : nhV VA ≤ 5 := hO.1
    have hSo : Sok VA S0 := hN.2.2.2.2.2.1
    have hPo : Pok VA P := hN.2.2.2.2.2.2.1
    have hPl : Ple P := hN.2.2.2.2.2.2.2.1
    have hps : psS S0 ≤ B := hN.2.2.2.2.2.2.2.2.1
    have hgb : ∀ W9 p, p < npV VA → Ib (ltS (gon VA L W9 S0) p) (-128) 127 := fun W9 p hp => gon_gb hO hN.2.2.2.2.2.2.2.2.2.1 hN.2.2.2.2.2.2.2.2.2.2 hp
    have hSo' : Sok V' S' := hN.Sok' hV
    have hPo' : Pok V' P' := hN.Pok' hV
    have hps' : psS S' ≤ B := hN.ps'
    have hq : Rq VA (ovr V' ((-1, -1, w, -1, false, l) : Ovr)) P P' L L' S0 S' := hN.Rq hO hV w l
    have hv : Rv VA V' ((-1, -1, w, -1, false, l) : Ovr) L L' S0 S' := ⟨hO, hq.2.1, hq.2.2.2.1, hq.2.2.2.2⟩
    refine ⟨(if (ixB y1 (nhV VA) && rgB y2 (nI 1) (nI 60) && rgB y3 (nI 0) (nI 1)) then (if y3 = nI 0 then soS (sT (rqT (stT Tt VA P L S0) (nN y2 * 4))) (nN y1) else stS (sT (rqT (stT Tt VA P L S0) (nN y2 * 4))) (nN y1)) else -2), (true, len, nx, kk, st, nu, nm, T, fk, pl, VA, XA, VB, XB, (S0, P, L, a, kp, Wn), (if (ixB y1 (nhV VA) && rgB y2 (nI 1) (nI 60) && rgB y3 (nI 0) (nI 1)) then (rqT (stT Tt VA P L S0) (nN y2 * 4)) else Tt), b, Sl, W, F, hb, Q0, Q1, Q2), (V', D', len, T, k', f', fa', VR', XR', (S', P', L', a'), (if (ixB y1 (nhV V') && rgB y2 (nI 1) (nI 60) && rgB y3 (nI 0) (nI 1)) then (w, l, lg, ll, (mgF V' ((-1, -1, w, -1, false, l) : Ovr) P' L' (S', Wj, Bj) (4 * nN y2)).2.1, (mgF V' ((-1, -1, w, -1, false, l) : Ovr) P' L' (S', Wj, Bj) (4 * nN y2)).2.2, (rwF (mgF V' ((-1, -1, w, -1, false, l) : Ovr) P' L' (S', Wj, Bj) (4 * nN y2)).1 P' L' a'), bp, G) else (w, l, lg, ll, Wj, Bj, fj, bp, G)), K', kb', fn', hb, F', b'), (show R0 _ _ _ _ _ _ _ _ _ _ _ _ _ _ _ _ _ _ _ _ _ _ _ _ _ _ _ from hR.mono (by omega)), fun ad => ?_, fun ad => ?_⟩
    · exact lx_t1 E len nx kk st nu nm T fk pl VA XA VB XB (S0, P, L, a, kp, Wn) Tt b Sl W F hb Q0 Q1 Q2 (if (ixB y1 (nhV VA) && rgB y2 (nI 1) (nI 60) && rgB y3 (nI 0) (nI 1)) then (rqT (stT Tt VA P L S0) (nN y2 * 4)) else Tt) (S0, P, L, a, kp, Wn) (fun ad r => x_longer E ad r (bI hb) Tt VA XA S0 P L a kp Wn y1 y2 y3 hO (Sok.le hO hSo) hPl (by omega)) ad
    · exact Md.ans (lm_t E V' D' len T k' f' fa' VR' XR' (S', P', L', a') (w, l, lg, ll, Wj, Bj, fj, bp, G) K' kb' fn' hb F' b' (if (ixB y1 (nhV V') && rgB y2 (nI 1) (nI 60) && rgB y3 (nI 0) (nI 1)) then (w, l, lg, ll, (mgF V' ((-1, -1, w, -1, false, l) : Ovr) P' L' (S', Wj, Bj) (4 * nN y2)).2.1, (mgF V' ((-1, -1, w, -1, false, l) : Ovr) P' L' (S', Wj, Bj) (4 * nN y2)).2.2, (rwF (mgF V' ((-1, -1, w, -1, false, l) : Ovr) P' L' (S', Wj, Bj) (4 * nN y2)).1 P' L' a'), bp, G) else (w, l, lg, ll, Wj, Bj, fj, bp, G)) (S', P', L', a') (fun ad r i => m_longer E ad r i V' w l lg ll Wj Bj fj bp G S' P' L' a' y1 y2 y3 hO' (Sok.le hO' hSo') hPo' (by omega)) ad) (by
        rw [hnh]
        by_cases c : (ixB y1 (nhV VA) && rgB y2 (nI 1) (nI 60) && rgB y3 (nI 0) (nI 1)) = true
        · rw [if_pos c, if_pos c]
          have c1 := ix_lt hh5 (Bool.and_eq_true_iff.mp (Bool.and_eq_true_iff.mp c).1).1
          have hr := hq.run (4 * nN y2)
          have e1 : sT (rqT (stT Tt VA P L S0) (nN y2 * 4)) = run VA P L S0 (4 * nN y2) := by rw [Nat.mul_comm 4]; exact rq_run (stT Tt VA P L S0) (nN y2 * 4)
          rw [e1, mg_run]
          by_cases c3 : y3 = nI 0
          · rw [if_pos c3, if_pos c3]; exact (hr.2.2.2.2.2.1 _ c1).symm
          · rw [if_neg c3, if_neg c3]; exact (hr.2.2.2.2.2.2 _ c1).symm
        · rw [if_neg c, if_neg c])
set_option maxHeartbeats 4000000 in
set_option maxRecDepth 100000 in
theorem pr_guard (E : EnvT) (B : Nat) (x : Xst) (m : Mst) (y1 : Int32) (y2 : Int32) (hR : RR B x m) (hB : B < 2 ^ 28) : Pr E B mX9_guard mX10_guard [.int y1, .int y2] x m := by
  obtain ⟨sw, len, nx, kk, st, nu, nm, T, fk, pl, VA, XA, VB, XB, ⟨S0, P, L, a, kp, Wn⟩, Tt, b, Sl, W, F, hb, Q0, Q1, Q2⟩ := x
  obtain ⟨V', D', tp', T', k', f', fa', VR', XR', ⟨S', P', L', a'⟩, ⟨w, l, lg, ll, Wj, Bj, fj, bp, G⟩, K', kb', fn', hb', F', b'⟩ := m
  cases sw
  · have hR : R0 B VB XB len T fk pl (S0, P, L, a, kp, Wn) b W F hb Q0 Q1 Q2 V' D' tp' T' k' f' fa' (S', P', L', a') K' kb' hb' F' := hR
    obtain ⟨⟨ta, tb, tc, td, te⟩, ⟨hO, hV, hso, hst, hcl⟩, hN, ⟨s0, s1, s2⟩, ⟨fa1, fa2⟩, ⟨g1, g2, g3, g4⟩, ⟨l1, l2⟩⟩ := id hR
    subst tp' T' hb'
    have hO' : Vok V' := hO.eq' hV
    have hnp : npV V' = npV VB := hV.2.1.symm
    have hnh : nhV V' = nhV VB := hV.1.symm
    have hp5 : npV VB ≤ 5 := hO.2.1
    have hh5 : nhV VB ≤ 5 := hO.1
    have hSo : Sok VB S0 := hN.2.2.2.2.2.1
    have hPo : Pok VB P := hN.2.2.2.2.2.2.1
    have hPl : Ple P := hN.2.2.2.2.2.2.2.1
    have hps : psS S0 ≤ B := hN.2.2.2.2.2.2.2.2.1
    have hgb : ∀ W9 p, p < npV VB → Ib (ltS (gon VB L W9 S0) p) (-128) 127 := fun W9 p hp => gon_gb hO hN.2.2.2.2.2.2.2.2.2.1 hN.2.2.2.2.2.2.2.2.2.2 hp
    have hSo' : Sok V' S' := hN.Sok' hV
    have hPo' : Pok V' P' := hN.Pok' hV
    have hps' : psS S' ≤ B := hN.ps'
    have hq : Rq VB (ovr V' ((-1, -1, w, -1, false, l) : Ovr)) P P' L L' S0 S' := hN.Rq hO hV w l
    have hv : Rv VB V' ((-1, -1, w, -1, false, l) : Ovr) L L' S0 S' := ⟨hO, hq.2.1, hq.2.2.2.1, hq.2.2.2.2⟩
    refine ⟨(if (ixB y1 (npV VB) && ixB y2 (npV VB) && !decide (y1 = y2)) then (if hoV VB (nN y1) < 5 then bI (!decide (smF (hoT2 (stT Tt VB P L S0) (hoV VB (nN y1)) (nN y2)) (nN y2) < smF (stT Tt VB P L S0) (nN y2))) else -1) else -2), (false, len, nx, kk, st, nu, nm, T, fk, pl, VA, XA, VB, XB, (S0, P, L, a, kp, Wn), (if (ixB y1 (npV VB) && ixB y2 (npV VB) && !decide (y1 = y2)) then (if hoV VB (nN y1) < 5 then (rqT (hoT2 (stT Tt VB P L S0) (hoV VB (nN y1)) (nN y2)) 4) else Tt) else Tt), b, Sl, W, F, hb, Q0, Q1, Q2), (V', D', len, T, k', f', fa', VR', XR', (S', P', L', a'), (if (ixB y1 (npV V') && ixB y2 (npV V') && !decide (y1 = y2)) then (if hoV V' (nN y1) < 5 then (w, l, lg, ll, (mgF V' ((-1, -1, w, -1, false, l) : Ovr) (peF P' (nN y2) (hoV V' (nN y1))) L' (S', (mgF V' ((-1, -1, w, -1, false, l) : Ovr) P' L' (S', Wj, Bj) 4).2.1, (mgF V' ((-1, -1, w, -1, false, l) : Ovr) P' L' (S', Wj, Bj) 4).2.2) 4).2.1, (mgF V' ((-1, -1, w, -1, false, l) : Ovr) (peF P' (nN y2) (hoV V' (nN y1))) L' (S', (mgF V' ((-1, -1, w, -1, false, l) : Ovr) P' L' (S', Wj, Bj) 4).2.1, (mgF V' ((-1, -1, w, -1, false, l) : Ovr) P' L' (S', Wj, Bj) 4).2.2) 4).2.2, (rwF (mgF V' ((-1, -1, w, -1, false, l) : Ovr) (peF P' (nN y2) (hoV V' (nN y1))) L' (S', (mgF V' ((-1, -1, w, -1, false, l) : Ovr) P' L' (S', Wj, Bj) 4).2.1, (mgF V' ((-1, -1, w, -1, false, l) : Ovr) P' L' (S', Wj, Bj) 4).2.2) 4).1 (peF P' (nN y2) (hoV V' (nN y1))) L' a'), bp, G) else (w, l, lg, ll, Wj, Bj, fj, bp, G)) else (w, l, lg, ll, Wj, Bj, fj, bp, G)), K', kb', fn', hb, F', b'), (show R0 _ _ _ _ _ _ _ _ _ _ _ _ _ _ _ _ _ _ _ _ _ _ _ _ _ _ _ from hR.mono (by omega)), fun ad => ?_, fun ad => ?_⟩
    · exact lx_t0 E len nx kk st nu nm T fk pl VA XA VB XB (S0, P, L, a, kp, Wn) Tt b Sl W F hb Q0 Q1 Q2 (if (ixB y1 (npV VB) && ixB y2 (npV VB) && !decide (y1 = y2)) then (if hoV VB (nN y1) < 5 then (rqT (hoT2 (stT Tt VB P L S0) (hoV VB (nN y1)) (nN y2)) 4) else Tt) else Tt) (S0, P, L, a, kp, Wn) (fun ad r => x_guard E ad r (bI hb) Tt VB XB S0 P L a kp Wn y1 y2 hO (Sok.le hO hSo) hPl (by omega)) ad
    · exact Md.ans (lm_t E V' D' len T k' f' fa' VR' XR' (S', P', L', a') (w, l, lg, ll, Wj, Bj, fj, bp, G) K' kb' fn' hb F' b' (if (ixB y1 (npV V') && ixB y2 (npV V') && !decide (y1 = y2)) then (if hoV V' (nN y1) < 5 then (w, l, lg, ll, (mgF V' ((-1, -1, w, -1, false, l) : Ovr) (peF P' (nN y2) (hoV V' (nN y1))) L' (S', (mgF V' ((-1, -1, w, -1, false, l) : Ovr) P' L' (S', Wj, Bj) 4).2.1, (mgF V' ((-1, -1, w, -1, false, l) : Ovr) P' L' (S', Wj, Bj) 4).2.2) 4).2.1, (mgF V' ((-1, -1, w, -1, false, l) : Ovr) (peF P' (nN y2) (hoV V' (nN y1))) L' (S', (mgF V' ((-1, -1, w, -1, false, l) : Ovr) P' L' (S', Wj, Bj) 4).2.1, (mgF V' ((-1, -1, w, -1, false, l) : Ovr) P' L' (S', Wj, Bj) 4).2.2) 4).2.2, (rwF (mgF V' ((-1, -1, w, -1, false, l) : Ovr) (peF P' (nN y2) (hoV V' (nN y1))) L' (S', (mgF V' ((-1, -1, w, -1, false, l) : Ovr) P' L' (S', Wj, Bj) 4).2.1, (mgF V' ((-1, -1, w, -1, false, l) : Ovr) P' L' (S', Wj, Bj) 4).2.2) 4).1 (peF P' (nN y2) (hoV V' (nN y1))) L' a'), bp, G) else (w, l, lg, ll, Wj, Bj, fj, bp, G)) else (w, l, lg, ll, Wj, Bj, fj, bp, G)) (S', P', L', a') (fun ad r i => m_guard E ad r i V' w l lg ll Wj Bj fj bp G S' P' L' a' y1 y2 hO' (Sok.le hO' hSo') hPo' (by omega)) ad) (by
        rw [hnp]
        by_cases c : (ixB y1 (npV VB) && ixB y2 (npV VB) && !decide (y1 = y2)) = true
        · rw [if_pos c, if_pos c]
          have c1 := ix_lt hp5 (Bool.and_eq_true_iff.mp (Bool.and_eq_true_iff.mp c).1).1
          have c2 := ix_lt hp5 (Bool.and_eq_true_iff.mp (Bool.and_eq_true_iff.mp c).1).2
          rw [← hV.2.2.2.2.2.2.1 _ c1]
          by_cases c3 : hoV VB (nN y1) < 5
          · rw [if_pos c3, if_pos c3]
            have hq2 : Rq VB (ovr V' ((-1, -1, w, -1, false, l) : Ovr)) (plE P (nN y2) (hoV VB (nN y1)) 4) (peF P' (nN y2) (hoV VB (nN y1))) L L' S0 S' := (((hq.plan (nN y2) 0 (hoV VB (nN y1))).plan (nN y2) 1 (hoV VB (nN y1))).plan (nN y2) 2 (hoV VB (nN y1))).plan (nN y2) 3 (hoV VB (nN y1))
            have e1 := sm_eq (T := (stT Tt VB P L S0)) hq c2 Wj Bj
            have e2 := sm_eq (T := hoT2 (stT Tt VB P L S0) (hoV VB (nN y1)) (nN y2)) hq2 c2 (mgF V' ((-1, -1, w, -1, false, l) : Ovr) P' L' (S', Wj, Bj) 4).2.1 (mgF V' ((-1, -1, w, -1, false, l) : Ovr) P' L' (S', Wj, Bj) 4).2.2
            rw [e1, e2]
          · rw [if_neg c3, if_neg c3]
        · rw [if_neg c, if_neg c])
  · have hR : R0 B VA XA len T fk pl (S0, P, L, a, kp, Wn) b W F hb Q0 Q1 Q2 V' D' tp' T' k' f' fa' (S', P', L', a') K' kb' hb' F' := hR
    obtain ⟨⟨ta, tb, tc, td, te⟩, ⟨hO, hV, hso, hst, hcl⟩, hN, ⟨s0, s1, s2⟩, ⟨fa1, fa2⟩, ⟨g1, g2, g3, g4⟩, ⟨l1, l2⟩⟩ := id hR
    subst tp' T' hb'
    have hO' : Vok V' := hO.eq' hV
    have hnp : npV V' = npV VA := hV.2.1.symm
    have hnh : nhV V' = nhV VA := hV.1.symm
    have hp5 : npV VA ≤ 5 := hO.2.1
    have hh5 : nhV VA ≤ 5 := hO.1
    have hSo : Sok VA S0 := hN.2.2.2.2.2.1
    have hPo : Pok VA P := hN.2.2.2.2.2.2.1
    have hPl : Ple P := hN.2.2.2.2.2.2.2.1
    have hps : psS S0 ≤ B := hN.2.2.2.2.2.2.2.2.1
    have hgb : ∀ W9 p, p < npV VA → Ib (ltS (gon VA L W9 S0) p) (-128) 127 := fun W9 p hp => gon_gb hO hN.2.2.2.2.2.2.2.2.2.1 hN.2.2.2.2.2.2.2.2.2.2 hp
    have hSo' : Sok V' S' := hN.Sok' hV
    have hPo' : Pok V' P' := hN.Pok' hV
    have hps' : psS S' ≤ B := hN.ps'
    have hq : Rq VA (ovr V' ((-1, -1, w, -1, false, l) : Ovr)) P P' L L' S0 S' := hN.Rq hO hV w l
    have hv : Rv VA V' ((-1, -1, w, -1, false, l) : Ovr) L L' S0 S' := ⟨hO, hq.2.1, hq.2.2.2.1, hq.2.2.2.2⟩
    refine ⟨(if (ixB y1 (npV VA) && ixB y2 (npV VA) && !decide (y1 = y2)) then (if hoV VA (nN y1) < 5 then bI (!decide (smF (hoT2 (stT Tt VA P L S0) (hoV VA (nN y1)) (nN y2)) (nN y2) < smF (stT Tt VA P L S0) (nN y2))) else -1) else -2), (true, len, nx, kk, st, nu, nm, T, fk, pl, VA, XA, VB, XB, (S0, P, L, a, kp, Wn), (if (ixB y1 (npV VA) && ixB y2 (npV VA) && !decide (y1 = y2)) then (if hoV VA (nN y1) < 5 then (rqT (hoT2 (stT Tt VA P L S0) (hoV VA (nN y1)) (nN y2)) 4) else Tt) else Tt), b, Sl, W, F, hb, Q0, Q1, Q2), (V', D', len, T, k', f', fa', VR', XR', (S', P', L', a'), (if (ixB y1 (npV V') && ixB y2 (npV V') && !decide (y1 = y2)) then (if hoV V' (nN y1) < 5 then (w, l, lg, ll, (mgF V' ((-1, -1, w, -1, false, l) : Ovr) (peF P' (nN y2) (hoV V' (nN y1))) L' (S', (mgF V' ((-1, -1, w, -1, false, l) : Ovr) P' L' (S', Wj, Bj) 4).2.1, (mgF V' ((-1, -1, w, -1, false, l) : Ovr) P' L' (S', Wj, Bj) 4).2.2) 4).2.1, (mgF V' ((-1, -1, w, -1, false, l) : Ovr) (peF P' (nN y2) (hoV V' (nN y1))) L' (S', (mgF V' ((-1, -1, w, -1, false, l) : Ovr) P' L' (S', Wj, Bj) 4).2.1, (mgF V' ((-1, -1, w, -1, false, l) : Ovr) P' L' (S', Wj, Bj) 4).2.2) 4).2.2, (rwF (mgF V' ((-1, -1, w, -1, false, l) : Ovr) (peF P' (nN y2) (hoV V' (nN y1))) L' (S', (mgF V' ((-1, -1, w, -1, false, l) : Ovr) P' L' (S', Wj, Bj) 4).2.1, (mgF V' ((-1, -1, w, -1, false, l) : Ovr) P' L' (S', Wj, Bj) 4).2.2) 4).1 (peF P' (nN y2) (hoV V' (nN y1))) L' a'), bp, G) else (w, l, lg, ll, Wj, Bj, fj, bp, G)) else (w, l, lg, ll, Wj, Bj, fj, bp, G)), K', kb', fn', hb, F', b'), (show R0 _ _ _ _ _ _ _ _ _ _ _ _ _ _ _ _ _ _ _ _ _ _ _ _ _ _ _ from hR.mono (by omega)), fun ad => ?_, fun ad => ?_⟩
    · exact lx_t1 E len nx kk st nu nm T fk pl VA XA VB XB (S0, P, L, a, kp, Wn) Tt b Sl W F hb Q0 Q1 Q2 (if (ixB y1 (npV VA) && ixB y2 (npV VA) && !decide (y1 = y2)) then (if hoV VA (nN y1) < 5 then (rqT (hoT2 (stT Tt VA P L S0) (hoV VA (nN y1)) (nN y2)) 4) else Tt) else Tt) (S0, P, L, a, kp, Wn) (fun ad r => x_guard E ad r (bI hb) Tt VA XA S0 P L a kp Wn y1 y2 hO (Sok.le hO hSo) hPl (by omega)) ad
    · exact Md.ans (lm_t E V' D' len T k' f' fa' VR' XR' (S', P', L', a') (w, l, lg, ll, Wj, Bj, fj, bp, G) K' kb' fn' hb F' b' (if (ixB y1 (npV V') && ixB y2 (npV V') && !decide (y1 = y2)) then (if hoV V' (nN y1) < 5 then (w, l, lg, ll, (mgF V' ((-1, -1, w, -1, false, l) : Ovr) (peF P' (nN y2) (hoV V' (nN y1))) L' (S', (mgF V' ((-1, -1, w, -1, false, l) : Ovr) P' L' (S', Wj, Bj) 4).2.1, (mgF V' ((-1, -1, w, -1, false, l) : Ovr) P' L' (S', Wj, Bj) 4).2.2) 4).2.1, (mgF V' ((-1, -1, w, -1, false, l) : Ovr) (peF P' (nN y2) (hoV V' (nN y1))) L' (S', (mgF V' ((-1, -1, w, -1, false, l) : Ovr) P' L' (S', Wj, Bj) 4).2.1, (mgF V' ((-1, -1, w, -1, false, l) : Ovr) P' L' (S', Wj, Bj) 4).2.2) 4).2.2, (rwF (mgF V' ((-1, -1, w, -1, false, l) : Ovr) (peF P' (nN y2) (hoV V' (nN y1))) L' (S', (mgF V' ((-1, -1, w, -1, false, l) : Ovr) P' L' (S', Wj, Bj) 4).2.1, (mgF V' ((-1, -1, w, -1, false, l) : Ovr) P' L' (S', Wj, Bj) 4).2.2) 4).1 (peF P' (nN y2) (hoV V' (nN y1))) L' a'), bp, G) else (w, l, lg, ll, Wj, Bj, fj, bp, G)) else (w, l, lg, ll, Wj, Bj, fj, bp, G)) (S', P', L', a') (fun ad r i => m_guard E ad r i V' w l lg ll Wj Bj fj bp G S' P' L' a' y1 y2 hO' (Sok.le hO' hSo') hPo' (by omega)) ad) (by
        rw [hnp]
        by_cases c : (ixB y1 (npV VA) && ixB y2 (npV VA) && !decide (y1 = y2)) = true
        · rw [if_pos c, if_pos c]
          have c1 := ix_lt hp5 (Bool.and_eq_true_iff.mp (Bool.and_eq_true_iff.mp c).1).1
          have c2 := ix_lt hp5 (Bool.and_eq_true_iff.mp (Bool.and_eq_true_iff.mp c).1).2
          rw [← hV.2.2.2.2.2.2.1 _ c1]
          by_cases c3 : hoV VA (nN y1) < 5
          · rw [if_pos c3, if_pos c3]
            have hq2 : Rq VA (ovr V' ((-1, -1, w, -1, false, l) : Ovr)) (plE P (nN y2) (hoV VA (nN y1)) 4) (peF P' (nN y2) (hoV VA (nN y1))) L L' S0 S' := (((hq.plan (nN y2) 0 (hoV VA (nN y1))).plan (nN y2) 1 (hoV VA (nN y1))).plan (nN y2) 2 (hoV VA (nN y1))).plan (nN y2) 3 (hoV VA (nN y1))
            have e1 := sm_eq (T := (stT Tt VA P L S0)) hq c2 Wj Bj
            have e2 := sm_eq (T := hoT2 (stT Tt VA P L S0) (hoV VA (nN y1)) (nN y2)) hq2 c2 (mgF V' ((-1, -1, w, -1, false, l) : Ovr) P' L' (S', Wj, Bj) 4).2.1 (mgF V' ((-1, -1, w, -1, false, l) : Ovr) P' L' (S', Wj, Bj) 4).2.2
            rw [e1, e2]
          · rw [if_neg c3, if_neg c3]
        · rw [if_neg c, if_neg c])
set_option maxHeartbeats 4000000 in
set_option maxRecDepth 100000 in
theorem pr_rings (E : EnvT) (B : Nat) (x : Xst) (m : Mst) (y1 : Int32) (hR : RR B x m) (hB : B < 2 ^ 28) : Pr E B mX9_rings mX10_rings [.int y1] x m := by
  obtain ⟨sw, len, nx, kk, st, nu, nm, T, fk, pl, VA, XA, VB, XB, ⟨S0, P, L, a, kp, Wn⟩, Tt, b, Sl, W, F, hb, Q0, Q1, Q2⟩ := x
  obtain ⟨V', D', tp', T', k', f', fa', VR', XR', ⟨S', P', L', a'⟩, ⟨w, l, lg, ll, Wj, Bj, fj, bp, G⟩, K', kb', fn', hb', F', b'⟩ := m
  cases sw
  · have hR : R0 B VB XB len T fk pl (S0, P, L, a, kp, Wn) b W F hb Q0 Q1 Q2 V' D' tp' T' k' f' fa' (S', P', L', a') K' kb' hb' F' := hR
    obtain ⟨⟨ta, tb, tc, td, te⟩, ⟨hO, hV, hso, hst, hcl⟩, hN, ⟨s0, s1, s2⟩, ⟨fa1, fa2⟩, ⟨g1, g2, g3, g4⟩, ⟨l1, l2⟩⟩ := id hR
    subst tp' T' hb'
    have hO' : Vok V' := hO.eq' hV
    have hnp : npV V' = npV VB := hV.2.1.symm
    have hnh : nhV V' = nhV VB := hV.1.symm
    have hp5 : npV VB ≤ 5 := hO.2.1
    have hh5 : nhV VB ≤ 5 := hO.1
    have hSo : Sok VB S0 := hN.2.2.2.2.2.1
    have hPo : Pok VB P := hN.2.2.2.2.2.2.1
    have hPl : Ple P := hN.2.2.2.2.2.2.2.1
    have hps : psS S0 ≤ B := hN.2.2.2.2.2.2.2.2.1
    have hgb : ∀ W9 p, p < npV VB → Ib (ltS (gon VB L W9 S0) p) (-128) 127 := fun W9 p hp => gon_gb hO hN.2.2.2.2.2.2.2.2.2.1 hN.2.2.2.2.2.2.2.2.2.2 hp
    have hSo' : Sok V' S' := hN.Sok' hV
    have hPo' : Pok V' P' := hN.Pok' hV
    have hps' : psS S' ≤ B := hN.ps'
    have hq : Rq VB (ovr V' ((-1, -1, w, -1, false, l) : Ovr)) P P' L L' S0 S' := hN.Rq hO hV w l
    have hv : Rv VB V' ((-1, -1, w, -1, false, l) : Ovr) L L' S0 S' := ⟨hO, hq.2.1, hq.2.2.2.1, hq.2.2.2.2⟩
    obtain ⟨N9, hN9⟩ : ∃ n : Nat, n = 7776 := ⟨7776, rfl⟩
    refine ⟨(if rgB y1 (nI 0) (nI 1) then (if y1 = nI 0 then rgT (frT N9 (stT Tt VB P L S0)) else lrT (frT N9 (stT Tt VB P L S0))) else -2), (false, len, nx, kk, st, nu, nm, T, fk, pl, VA, XA, VB, XB, (S0, P, L, a, kp, Wn), (if rgB y1 (nI 0) (nI 1) then (frT N9 (stT Tt VB P L S0)) else Tt), b, Sl, W, F, hb, Q0, Q1, Q2), (V', D', len, T, k', f', fa', VR', XR', (S', P', L', a'), (if rgB y1 (nI 0) (nI 1) then (w, l, lg, ll, (ggF V' ((-1, -1, w, -1, false, l) : Ovr) S' P' L' a' (Wj, Bj, fj, G) (rwN V')).1, (ggF V' ((-1, -1, w, -1, false, l) : Ovr) S' P' L' a' (Wj, Bj, fj, G) (rwN V')).2.1, (ggF V' ((-1, -1, w, -1, false, l) : Ovr) S' P' L' a' (Wj, Bj, fj, G) (rwN V')).2.2.1, bp, (ggF V' ((-1, -1, w, -1, false, l) : Ovr) S' P' L' a' (Wj, Bj, fj, G) (rwN V')).2.2.2) else (w, l, lg, ll, Wj, Bj, fj, bp, G)), K', kb', fn', hb, F', b'), (show R0 _ _ _ _ _ _ _ _ _ _ _ _ _ _ _ _ _ _ _ _ _ _ _ _ _ _ _ from hR.mono (by omega)), fun ad => ?_, fun ad => ?_⟩
    · exact lx_t0 E len nx kk st nu nm T fk pl VA XA VB XB (S0, P, L, a, kp, Wn) Tt b Sl W F hb Q0 Q1 Q2 (if rgB y1 (nI 0) (nI 1) then (frT N9 (stT Tt VB P L S0)) else Tt) (S0, P, L, a, kp, Wn) (fun ad r => x_rings E ad r (bI hb) Tt VB XB S0 P L a kp Wn y1 N9 hN9 hO (Sok.le hO hSo) hPl (by omega)) ad
    · exact Md.ans (lm_t E V' D' len T k' f' fa' VR' XR' (S', P', L', a') (w, l, lg, ll, Wj, Bj, fj, bp, G) K' kb' fn' hb F' b' (if rgB y1 (nI 0) (nI 1) then (w, l, lg, ll, (ggF V' ((-1, -1, w, -1, false, l) : Ovr) S' P' L' a' (Wj, Bj, fj, G) (rwN V')).1, (ggF V' ((-1, -1, w, -1, false, l) : Ovr) S' P' L' a' (Wj, Bj, fj, G) (rwN V')).2.1, (ggF V' ((-1, -1, w, -1, false, l) : Ovr) S' P' L' a' (Wj, Bj, fj, G) (rwN V')).2.2.1, bp, (ggF V' ((-1, -1, w, -1, false, l) : Ovr) S' P' L' a' (Wj, Bj, fj, G) (rwN V')).2.2.2) else (w, l, lg, ll, Wj, Bj, fj, bp, G)) (S', P', L', a') (fun ad r i => m_rings E ad r i V' w l lg ll Wj Bj fj bp G S' P' L' a' y1 hO' (Sok.le hO' hSo') hPo' (by omega)) ad) (by
        have hr := rings_eq (T := (stT Tt VB P L S0)) ⟨hv, hq.2.2.1, hPo⟩ N9 hN9 a' (Wj, Bj, fj, G)
        by_cases c : rgB y1 (nI 0) (nI 1) = true
        · rw [if_pos c, if_pos c]
          by_cases c3 : y1 = nI 0
          · rw [if_pos c3, if_pos c3]; exact hr.1.symm
          · rw [if_neg c3, if_neg c3]; exact hr.2.symm
        · rw [if_neg c, if_neg c])
  · have hR : R0 B VA XA len T fk pl (S0, P, L, a, kp, Wn) b W F hb Q0 Q1 Q2 V' D' tp' T' k' f' fa' (S', P', L', a') K' kb' hb' F' := hR
    obtain ⟨⟨ta, tb, tc, td, te⟩, ⟨hO, hV, hso, hst, hcl⟩, hN, ⟨s0, s1, s2⟩, ⟨fa1, fa2⟩, ⟨g1, g2, g3, g4⟩, ⟨l1, l2⟩⟩ := id hR
    subst tp' T' hb'
    have hO' : Vok V' := hO.eq' hV
    have hnp : npV V' = npV VA := hV.2.1.symm
    have hnh : nhV V' = nhV VA := hV.1.symm
    have hp5 : npV VA ≤ 5 := hO.2.1
    have hh5 : nhV VA ≤ 5 := hO.1
    have hSo : Sok VA S0 := hN.2.2.2.2.2.1
    have hPo : Pok VA P := hN.2.2.2.2.2.2.1
    have hPl : Ple P := hN.2.2.2.2.2.2.2.1
    have hps : psS S0 ≤ B := hN.2.2.2.2.2.2.2.2.1
    have hgb : ∀ W9 p, p < npV VA → Ib (ltS (gon VA L W9 S0) p) (-128) 127 := fun W9 p hp => gon_gb hO hN.2.2.2.2.2.2.2.2.2.1 hN.2.2.2.2.2.2.2.2.2.2 hp
    have hSo' : Sok V' S' := hN.Sok' hV
    have hPo' : Pok V' P' := hN.Pok' hV
    have hps' : psS S' ≤ B := hN.ps'
    have hq : Rq VA (ovr V' ((-1, -1, w, -1, false, l) : Ovr)) P P' L L' S0 S' := hN.Rq hO hV w l
    have hv : Rv VA V' ((-1, -1, w, -1, false, l) : Ovr) L L' S0 S' := ⟨hO, hq.2.1, hq.2.2.2.1, hq.2.2.2.2⟩
    obtain ⟨N9, hN9⟩ : ∃ n : Nat, n = 7776 := ⟨7776, rfl⟩
    refine ⟨(if rgB y1 (nI 0) (nI 1) then (if y1 = nI 0 then rgT (frT N9 (stT Tt VA P L S0)) else lrT (frT N9 (stT Tt VA P L S0))) else -2), (true, len, nx, kk, st, nu, nm, T, fk, pl, VA, XA, VB, XB, (S0, P, L, a, kp, Wn), (if rgB y1 (nI 0) (nI 1) then (frT N9 (stT Tt VA P L S0)) else Tt), b, Sl, W, F, hb, Q0, Q1, Q2), (V', D', len, T, k', f', fa', VR', XR', (S', P', L', a'), (if rgB y1 (nI 0) (nI 1) then (w, l, lg, ll, (ggF V' ((-1, -1, w, -1, false, l) : Ovr) S' P' L' a' (Wj, Bj, fj, G) (rwN V')).1, (ggF V' ((-1, -1, w, -1, false, l) : Ovr) S' P' L' a' (Wj, Bj, fj, G) (rwN V')).2.1, (ggF V' ((-1, -1, w, -1, false, l) : Ovr) S' P' L' a' (Wj, Bj, fj, G) (rwN V')).2.2.1, bp, (ggF V' ((-1, -1, w, -1, false, l) : Ovr) S' P' L' a' (Wj, Bj, fj, G) (rwN V')).2.2.2) else (w, l, lg, ll, Wj, Bj, fj, bp, G)), K', kb', fn', hb, F', b'), (show R0 _ _ _ _ _ _ _ _ _ _ _ _ _ _ _ _ _ _ _ _ _ _ _ _ _ _ _ from hR.mono (by omega)), fun ad => ?_, fun ad => ?_⟩
    · exact lx_t1 E len nx kk st nu nm T fk pl VA XA VB XB (S0, P, L, a, kp, Wn) Tt b Sl W F hb Q0 Q1 Q2 (if rgB y1 (nI 0) (nI 1) then (frT N9 (stT Tt VA P L S0)) else Tt) (S0, P, L, a, kp, Wn) (fun ad r => x_rings E ad r (bI hb) Tt VA XA S0 P L a kp Wn y1 N9 hN9 hO (Sok.le hO hSo) hPl (by omega)) ad
    · exact Md.ans (lm_t E V' D' len T k' f' fa' VR' XR' (S', P', L', a') (w, l, lg, ll, Wj, Bj, fj, bp, G) K' kb' fn' hb F' b' (if rgB y1 (nI 0) (nI 1) then (w, l, lg, ll, (ggF V' ((-1, -1, w, -1, false, l) : Ovr) S' P' L' a' (Wj, Bj, fj, G) (rwN V')).1, (ggF V' ((-1, -1, w, -1, false, l) : Ovr) S' P' L' a' (Wj, Bj, fj, G) (rwN V')).2.1, (ggF V' ((-1, -1, w, -1, false, l) : Ovr) S' P' L' a' (Wj, Bj, fj, G) (rwN V')).2.2.1, bp, (ggF V' ((-1, -1, w, -1, false, l) : Ovr) S' P' L' a' (Wj, Bj, fj, G) (rwN V')).2.2.2) else (w, l, lg, ll, Wj, Bj, fj, bp, G)) (S', P', L', a') (fun ad r i => m_rings E ad r i V' w l lg ll Wj Bj fj bp G S' P' L' a' y1 hO' (Sok.le hO' hSo') hPo' (by omega)) ad) (by
        have hr := rings_eq (T := (stT Tt VA P L S0)) ⟨hv, hq.2.2.1, hPo⟩ N9 hN9 a' (Wj, Bj, fj, G)
        by_cases c : rgB y1 (nI 0) (nI 1) = true
        · rw [if_pos c, if_pos c]
          by_cases c3 : y1 = nI 0
          · rw [if_pos c3, if_pos c3]; exact hr.1.symm
          · rw [if_neg c3, if_neg c3]; exact hr.2.symm
        · rw [if_neg c, if_neg c])
set_option maxHeartbeats 4000000 in
set_option maxRecDepth 100000 in
theorem pr_when (E : EnvT) (B : Nat) (x : Xst) (m : Mst) (y1 : Int32) (hR : RR B x m) (hB : B < 2 ^ 28) : Pr E B mX9_when mX10_when [.int y1] x m := by
  obtain ⟨sw, len, nx, kk, st, nu, nm, T, fk, pl, VA, XA, VB, XB, ⟨S0, P, L, a, kp, Wn⟩, Tt, b, Sl, W, F, hb, Q0, Q1, Q2⟩ := x
  obtain ⟨V', D', tp', T', k', f', fa', VR', XR', ⟨S', P', L', a'⟩, ⟨w, l, lg, ll, Wj, Bj, fj, bp, G⟩, K', kb', fn', hb', F', b'⟩ := m
  cases sw
  · have hR : R0 B VB XB len T fk pl (S0, P, L, a, kp, Wn) b W F hb Q0 Q1 Q2 V' D' tp' T' k' f' fa' (S', P', L', a') K' kb' hb' F' := hR
    obtain ⟨⟨ta, tb, tc, td, te⟩, ⟨hO, hV, hso, hst, hcl⟩, hN, ⟨s0, s1, s2⟩, ⟨fa1, fa2⟩, ⟨g1, g2, g3, g4⟩, ⟨l1, l2⟩⟩ := id hR
    subst tp' T' hb'
    have hO' : Vok V' := hO.eq' hV
    have hnp : npV V' = npV VB := hV.2.1.symm
    have hnh : nhV V' = nhV VB := hV.1.symm
    have hp5 : npV VB ≤ 5 := hO.2.1
    have hh5 : nhV VB ≤ 5 := hO.1
    have hSo : Sok VB S0 := hN.2.2.2.2.2.1
    have hPo : Pok VB P := hN.2.2.2.2.2.2.1
    have hPl : Ple P := hN.2.2.2.2.2.2.2.1
    have hps : psS S0 ≤ B := hN.2.2.2.2.2.2.2.2.1
    have hgb : ∀ W9 p, p < npV VB → Ib (ltS (gon VB L W9 S0) p) (-128) 127 := fun W9 p hp => gon_gb hO hN.2.2.2.2.2.2.2.2.2.1 hN.2.2.2.2.2.2.2.2.2.2 hp
    have hSo' : Sok V' S' := hN.Sok' hV
    have hPo' : Pok V' P' := hN.Pok' hV
    have hps' : psS S' ≤ B := hN.ps'
    have hq : Rq VB (ovr V' ((-1, -1, w, -1, false, l) : Ovr)) P P' L L' S0 S' := hN.Rq hO hV w l
    have hv : Rv VB V' ((-1, -1, w, -1, false, l) : Ovr) L L' S0 S' := ⟨hO, hq.2.1, hq.2.2.2.1, hq.2.2.2.2⟩
    refine ⟨(if ixB y1 (npV VB) then nI (bqF (stT Tt VB P L S0) (nN y1) 4).2.2 else -2), (false, len, nx, kk, st, nu, nm, T, fk, pl, VA, XA, VB, XB, (S0, P, L, a, kp, Wn), (if ixB y1 (npV VB) then (bqF (stT Tt VB P L S0) (nN y1) 4).1 else Tt), b, Sl, W, F, hb, Q0, Q1, Q2), (V', D', len, T, k', f', fa', VR', XR', (S', P', L', a'), (if ixB y1 (npV V') then (w, l, lg, ll, (whF V' ((-1, -1, w, -1, false, l) : Ovr) P' L' S' a' (nN y1) (-1000000, 0, Wj, Bj, fj) 4).2.2.1, (whF V' ((-1, -1, w, -1, false, l) : Ovr) P' L' S' a' (nN y1) (-1000000, 0, Wj, Bj, fj) 4).2.2.2.1, (whF V' ((-1, -1, w, -1, false, l) : Ovr) P' L' S' a' (nN y1) (-1000000, 0, Wj, Bj, fj) 4).2.2.2.2, bp, G) else (w, l, lg, ll, Wj, Bj, fj, bp, G)), K', kb', fn', hb, F', b'), (show R0 _ _ _ _ _ _ _ _ _ _ _ _ _ _ _ _ _ _ _ _ _ _ _ _ _ _ _ from hR.mono (by omega)), fun ad => ?_, fun ad => ?_⟩
    · exact lx_t0 E len nx kk st nu nm T fk pl VA XA VB XB (S0, P, L, a, kp, Wn) Tt b Sl W F hb Q0 Q1 Q2 (if ixB y1 (npV VB) then (bqF (stT Tt VB P L S0) (nN y1) 4).1 else Tt) (S0, P, L, a, kp, Wn) (fun ad r => x_when E ad r (bI hb) Tt VB XB S0 P L a kp Wn y1 hO (Sok.le hO hSo) hPl (by omega)) ad
    · exact Md.ans (lm_t E V' D' len T k' f' fa' VR' XR' (S', P', L', a') (w, l, lg, ll, Wj, Bj, fj, bp, G) K' kb' fn' hb F' b' (if ixB y1 (npV V') then (w, l, lg, ll, (whF V' ((-1, -1, w, -1, false, l) : Ovr) P' L' S' a' (nN y1) (-1000000, 0, Wj, Bj, fj) 4).2.2.1, (whF V' ((-1, -1, w, -1, false, l) : Ovr) P' L' S' a' (nN y1) (-1000000, 0, Wj, Bj, fj) 4).2.2.2.1, (whF V' ((-1, -1, w, -1, false, l) : Ovr) P' L' S' a' (nN y1) (-1000000, 0, Wj, Bj, fj) 4).2.2.2.2, bp, G) else (w, l, lg, ll, Wj, Bj, fj, bp, G)) (S', P', L', a') (fun ad r i => m_when E ad r i V' w l lg ll Wj Bj fj bp G S' P' L' a' y1 hO' (Sok.le hO' hSo') hPo' (by omega)) ad) (by
        rw [hnp]
        by_cases c : ixB y1 (npV VB) = true
        · rw [if_pos c, if_pos c, (when_eq (T := (stT Tt VB P L S0)) hq (ix_lt hp5 c) a' Wj Bj fj 4).2]
        · rw [if_neg c, if_neg c])
  · have hR : R0 B VA XA len T fk pl (S0, P, L, a, kp, Wn) b W F hb Q0 Q1 Q2 V' D' tp' T' k' f' fa' (S', P', L', a') K' kb' hb' F' := hR
    obtain ⟨⟨ta, tb, tc, td, te⟩, ⟨hO, hV, hso, hst, hcl⟩, hN, ⟨s0, s1, s2⟩, ⟨fa1, fa2⟩, ⟨g1, g2, g3, g4⟩, ⟨l1, l2⟩⟩ := id hR
    subst tp' T' hb'
    have hO' : Vok V' := hO.eq' hV
    have hnp : npV V' = npV VA := hV.2.1.symm
    have hnh : nhV V' = nhV VA := hV.1.symm
    have hp5 : npV VA ≤ 5 := hO.2.1
    have hh5 : nhV VA ≤ 5 := hO.1
    have hSo : Sok VA S0 := hN.2.2.2.2.2.1
    have hPo : Pok VA P := hN.2.2.2.2.2.2.1
    have hPl : Ple P := hN.2.2.2.2.2.2.2.1
    have hps : psS S0 ≤ B := hN.2.2.2.2.2.2.2.2.1
    have hgb : ∀ W9 p, p < npV VA → Ib (ltS (gon VA L W9 S0) p) (-128) 127 := fun W9 p hp => gon_gb hO hN.2.2.2.2.2.2.2.2.2.1 hN.2.2.2.2.2.2.2.2.2.2 hp
    have hSo' : Sok V' S' := hN.Sok' hV
    have hPo' : Pok V' P' := hN.Pok' hV
    have hps' : psS S' ≤ B := hN.ps'
    have hq : Rq VA (ovr V' ((-1, -1, w, -1, false, l) : Ovr)) P P' L L' S0 S' := hN.Rq hO hV w l
    have hv : Rv VA V' ((-1, -1, w, -1, false, l) : Ovr) L L' S0 S' := ⟨hO, hq.2.1, hq.2.2.2.1, hq.2.2.2.2⟩
    refine ⟨(if ixB y1 (npV VA) then nI (bqF (stT Tt VA P L S0) (nN y1) 4).2.2 else -2), (true, len, nx, kk, st, nu, nm, T, fk, pl, VA, XA, VB, XB, (S0, P, L, a, kp, Wn), (if ixB y1 (npV VA) then (bqF (stT Tt VA P L S0) (nN y1) 4).1 else Tt), b, Sl, W, F, hb, Q0, Q1, Q2), (V', D', len, T, k', f', fa', VR', XR', (S', P', L', a'), (if ixB y1 (npV V') then (w, l, lg, ll, (whF V' ((-1, -1, w, -1, false, l) : Ovr) P' L' S' a' (nN y1) (-1000000, 0, Wj, Bj, fj) 4).2.2.1, (whF V' ((-1, -1, w, -1, false, l) : Ovr) P' L' S' a' (nN y1) (-1000000, 0, Wj, Bj, fj) 4).2.2.2.1, (whF V' ((-1, -1, w, -1, false, l) : Ovr) P' L' S' a' (nN y1) (-1000000, 0, Wj, Bj, fj) 4).2.2.2.2, bp, G) else (w, l, lg, ll, Wj, Bj, fj, bp, G)), K', kb', fn', hb, F', b'), (show R0 _ _ _ _ _ _ _ _ _ _ _ _ _ _ _ _ _ _ _ _ _ _ _ _ _ _ _ from hR.mono (by omega)), fun ad => ?_, fun ad => ?_⟩
    · exact lx_t1 E len nx kk st nu nm T fk pl VA XA VB XB (S0, P, L, a, kp, Wn) Tt b Sl W F hb Q0 Q1 Q2 (if ixB y1 (npV VA) then (bqF (stT Tt VA P L S0) (nN y1) 4).1 else Tt) (S0, P, L, a, kp, Wn) (fun ad r => x_when E ad r (bI hb) Tt VA XA S0 P L a kp Wn y1 hO (Sok.le hO hSo) hPl (by omega)) ad
    · exact Md.ans (lm_t E V' D' len T k' f' fa' VR' XR' (S', P', L', a') (w, l, lg, ll, Wj, Bj, fj, bp, G) K' kb' fn' hb F' b' (if ixB y1 (npV V') then (w, l, lg, ll, (whF V' ((-1, -1, w, -1, false, l) : Ovr) P' L' S' a' (nN y1) (-1000000, 0, Wj, Bj, fj) 4).2.2.1, (whF V' ((-1, -1, w, -1, false, l) : Ovr) P' L' S' a' (nN y1) (-1000000, 0, Wj, Bj, fj) 4).2.2.2.1, (whF V' ((-1, -1, w, -1, false, l) : Ovr) P' L' S' a' (nN y1) (-1000000, 0, Wj, Bj, fj) 4).2.2.2.2, bp, G) else (w, l, lg, ll, Wj, Bj, fj, bp, G)) (S', P', L', a') (fun ad r i => m_when E ad r i V' w l lg ll Wj Bj fj bp G S' P' L' a' y1 hO' (Sok.le hO' hSo') hPo' (by omega)) ad) (by
        rw [hnp]
        by_cases c : ixB y1 (npV VA) = true
        · rw [if_pos c, if_pos c, (when_eq (T := (stT Tt VA P L S0)) hq (ix_lt hp5 c) a' Wj Bj fj 4).2]
        · rw [if_neg c, if_neg c])
set_option maxHeartbeats 4000000 in
set_option maxRecDepth 100000 in
theorem pr_bound (E : EnvT) (B : Nat) (x : Xst) (m : Mst) (y1 : Int32) (y2 : Int32) (hR : RR B x m) (hB : B < 2 ^ 28) : Pr E B mX9_bound mX10_bound [.int y1, .int y2] x m := by
  obtain ⟨sw, len, nx, kk, st, nu, nm, T, fk, pl, VA, XA, VB, XB, ⟨S0, P, L, a, kp, Wn⟩, Tt, b, Sl, W, F, hb, Q0, Q1, Q2⟩ := x
  obtain ⟨V', D', tp', T', k', f', fa', VR', XR', ⟨S', P', L', a'⟩, ⟨w, l, lg, ll, Wj, Bj, fj, bp, G⟩, K', kb', fn', hb', F', b'⟩ := m
  cases sw
  · have hR : R0 B VB XB len T fk pl (S0, P, L, a, kp, Wn) b W F hb Q0 Q1 Q2 V' D' tp' T' k' f' fa' (S', P', L', a') K' kb' hb' F' := hR
    obtain ⟨⟨ta, tb, tc, td, te⟩, ⟨hO, hV, hso, hst, hcl⟩, hN, ⟨s0, s1, s2⟩, ⟨fa1, fa2⟩, ⟨g1, g2, g3, g4⟩, ⟨l1, l2⟩⟩ := id hR
    subst tp' T' hb'
    have hO' : Vok V' := hO.eq' hV
    have hnp : npV V' = npV VB := hV.2.1.symm
    have hnh : nhV V' = nhV VB := hV.1.symm
    have hp5 : npV VB ≤ 5 := hO.2.1
    have hh5 : nhV VB ≤ 5 := hO.1
    have hSo : Sok VB S0 := hN.2.2.2.2.2.1
    have hPo : Pok VB P := hN.2.2.2.2.2.2.1
    have hPl : Ple P := hN.2.2.2.2.2.2.2.1
    have hps : psS S0 ≤ B := hN.2.2.2.2.2.2.2.2.1
    have hgb : ∀ W9 p, p < npV VB → Ib (ltS (gon VB L W9 S0) p) (-128) 127 := fun W9 p hp => gon_gb hO hN.2.2.2.2.2.2.2.2.2.1 hN.2.2.2.2.2.2.2.2.2.2 hp
    have hSo' : Sok V' S' := hN.Sok' hV
    have hPo' : Pok V' P' := hN.Pok' hV
    have hps' : psS S' ≤ B := hN.ps'
    have hq : Rq VB (ovr V' ((-1, -1, w, -1, false, l) : Ovr)) P P' L L' S0 S' := hN.Rq hO hV w l
    have hv : Rv VB V' ((-1, -1, w, -1, false, l) : Ovr) L L' S0 S' := ⟨hO, hq.2.1, hq.2.2.2.1, hq.2.2.2.2⟩
    refine ⟨(if (ixB y1 (npV VB) && rgB y2 (-1000) (nI 9999)) then (leF (nN y1) y2 29 0 (stT Tt VB P L S0)).2 else -2), (false, len, nx, kk, st, nu, nm, T, fk, pl, VA, XA, VB, XB, (S0, P, L, a, kp, Wn), (if (ixB y1 (npV VB) && rgB y2 (-1000) (nI 9999)) then (leF (nN y1) y2 29 0 (stT Tt VB P L S0)).1 else Tt), b, Sl, W, F, hb, Q0, Q1, Q2), (V', D', len, T, k', f', fa', VR', XR', (S', P', L', a'), (if (ixB y1 (npV V') && rgB y2 (-1000) (nI 9999)) then (w, l, lg, ll, (itB (boS V' w l S' P' L' a' (nN y1) y2) (-1, Wj, Bj, fj, bp) 29).2.2.1, (itB (boS V' w l S' P' L' a' (nN y1) y2) (-1, Wj, Bj, fj, bp) 29).2.2.2.1, (itB (boS V' w l S' P' L' a' (nN y1) y2) (-1, Wj, Bj, fj, bp) 29).2.2.2.2.1, (itB (boS V' w l S' P' L' a' (nN y1) y2) (-1, Wj, Bj, fj, bp) 29).2.2.2.2.2, G) else (w, l, lg, ll, Wj, Bj, fj, bp, G)), K', kb', fn', hb, F', b'), (show R0 _ _ _ _ _ _ _ _ _ _ _ _ _ _ _ _ _ _ _ _ _ _ _ _ _ _ _ from hR.mono (by omega)), fun ad => ?_, fun ad => ?_⟩
    · exact lx_t0 E len nx kk st nu nm T fk pl VA XA VB XB (S0, P, L, a, kp, Wn) Tt b Sl W F hb Q0 Q1 Q2 (if (ixB y1 (npV VB) && rgB y2 (-1000) (nI 9999)) then (leF (nN y1) y2 29 0 (stT Tt VB P L S0)).1 else Tt) (S0, P, L, a, kp, Wn) (fun ad r => x_bound E ad r (bI hb) Tt VB XB S0 P L a kp Wn y1 y2 hO (Sok.le hO hSo) hPl (by omega)) ad
    · exact Md.ans (lm_t E V' D' len T k' f' fa' VR' XR' (S', P', L', a') (w, l, lg, ll, Wj, Bj, fj, bp, G) K' kb' fn' hb F' b' (if (ixB y1 (npV V') && rgB y2 (-1000) (nI 9999)) then (w, l, lg, ll, (itB (boS V' w l S' P' L' a' (nN y1) y2) (-1, Wj, Bj, fj, bp) 29).2.2.1, (itB (boS V' w l S' P' L' a' (nN y1) y2) (-1, Wj, Bj, fj, bp) 29).2.2.2.1, (itB (boS V' w l S' P' L' a' (nN y1) y2) (-1, Wj, Bj, fj, bp) 29).2.2.2.2.1, (itB (boS V' w l S' P' L' a' (nN y1) y2) (-1, Wj, Bj, fj, bp) 29).2.2.2.2.2, G) else (w, l, lg, ll, Wj, Bj, fj, bp, G)) (S', P', L', a') (fun ad r i => m_bound E ad r i V' w l lg ll Wj Bj fj bp G S' P' L' a' y1 y2 hO' (Sok.le hO' hSo') hPo' (by omega)) ad) (by
        rw [hnp]
        by_cases c : (ixB y1 (npV VB) && rgB y2 (-1000) (nI 9999)) = true
        · rw [if_pos c, if_pos c]
          exact (bound_eq (T := (stT Tt VB P L S0)) hq (ix_lt hp5 (Bool.and_eq_true_iff.mp c).1) y2 a' Wj Bj fj bp 29 0 (stT Tt VB P L S0) rfl ⟨ruV VB, rfl, fun _ _ => rfl⟩ rfl rfl rfl rfl rfl).symm
        · rw [if_neg c, if_neg c])
  · have hR : R0 B VA XA len T fk pl (S0, P, L, a, kp, Wn) b W F hb Q0 Q1 Q2 V' D' tp' T' k' f' fa' (S', P', L', a') K' kb' hb' F' := hR
    obtain ⟨⟨ta, tb, tc, td, te⟩, ⟨hO, hV, hso, hst, hcl⟩, hN, ⟨s0, s1, s2⟩, ⟨fa1, fa2⟩, ⟨g1, g2, g3, g4⟩, ⟨l1, l2⟩⟩ := id hR
    subst tp' T' hb'
    have hO' : Vok V' := hO.eq' hV
    have hnp : npV V' = npV VA := hV.2.1.symm
    have hnh : nhV V' = nhV VA := hV.1.symm
    have hp5 : npV VA ≤ 5 := hO.2.1
    have hh5 : nhV VA ≤ 5 := hO.1
    have hSo : Sok VA S0 := hN.2.2.2.2.2.1
    have hPo : Pok VA P := hN.2.2.2.2.2.2.1
    have hPl : Ple P := hN.2.2.2.2.2.2.2.1
    have hps : psS S0 ≤ B := hN.2.2.2.2.2.2.2.2.1
    have hgb : ∀ W9 p, p < npV VA → Ib (ltS (gon VA L W9 S0) p) (-128) 127 := fun W9 p hp => gon_gb hO hN.2.2.2.2.2.2.2.2.2.1 hN.2.2.2.2.2.2.2.2.2.2 hp
    have hSo' : Sok V' S' := hN.Sok' hV
    have hPo' : Pok V' P' := hN.Pok' hV
    have hps' : psS S' ≤ B := hN.ps'
    have hq : Rq VA (ovr V' ((-1, -1, w, -1, false, l) : Ovr)) P P' L L' S0 S' := hN.Rq hO hV w l
    have hv : Rv VA V' ((-1, -1, w, -1, false, l) : Ovr) L L' S0 S' := ⟨hO, hq.2.1, hq.2.2.2.1, hq.2.2.2.2⟩
    refine ⟨(if (ixB y1 (npV VA) && rgB y2 (-1000) (nI 9999)) then (leF (nN y1) y2 29 0 (stT Tt VA P L S0)).2 else -2), (true, len, nx, kk, st, nu, nm, T, fk, pl, VA, XA, VB, XB, (S0, P, L, a, kp, Wn), (if (ixB y1 (npV VA) && rgB y2 (-1000) (nI 9999)) then (leF (nN y1) y2 29 0 (stT Tt VA P L S0)).1 else Tt), b, Sl, W, F, hb, Q0, Q1, Q2), (V', D', len, T, k', f', fa', VR', XR', (S', P', L', a'), (if (ixB y1 (npV V') && rgB y2 (-1000) (nI 9999)) then (w, l, lg, ll, (itB (boS V' w l S' P' L' a' (nN y1) y2) (-1, Wj, Bj, fj, bp) 29).2.2.1, (itB (boS V' w l S' P' L' a' (nN y1) y2) (-1, Wj, Bj, fj, bp) 29).2.2.2.1, (itB (boS V' w l S' P' L' a' (nN y1) y2) (-1, Wj, Bj, fj, bp) 29).2.2.2.2.1, (itB (boS V' w l S' P' L' a' (nN y1) y2) (-1, Wj, Bj, fj, bp) 29).2.2.2.2.2, G) else (w, l, lg, ll, Wj, Bj, fj, bp, G)), K', kb', fn', hb, F', b'), (show R0 _ _ _ _ _ _ _ _ _ _ _ _ _ _ _ _ _ _ _ _ _ _ _ _ _ _ _ from hR.mono (by omega)), fun ad => ?_, fun ad => ?_⟩
    · exact lx_t1 E len nx kk st nu nm T fk pl VA XA VB XB (S0, P, L, a, kp, Wn) Tt b Sl W F hb Q0 Q1 Q2 (if (ixB y1 (npV VA) && rgB y2 (-1000) (nI 9999)) then (leF (nN y1) y2 29 0 (stT Tt VA P L S0)).1 else Tt) (S0, P, L, a, kp, Wn) (fun ad r => x_bound E ad r (bI hb) Tt VA XA S0 P L a kp Wn y1 y2 hO (Sok.le hO hSo) hPl (by omega)) ad
    · exact Md.ans (lm_t E V' D' len T k' f' fa' VR' XR' (S', P', L', a') (w, l, lg, ll, Wj, Bj, fj, bp, G) K' kb' fn' hb F' b' (if (ixB y1 (npV V') && rgB y2 (-1000) (nI 9999)) then (w, l, lg, ll, (itB (boS V' w l S' P' L' a' (nN y1) y2) (-1, Wj, Bj, fj, bp) 29).2.2.1, (itB (boS V' w l S' P' L' a' (nN y1) y2) (-1, Wj, Bj, fj, bp) 29).2.2.2.1, (itB (boS V' w l S' P' L' a' (nN y1) y2) (-1, Wj, Bj, fj, bp) 29).2.2.2.2.1, (itB (boS V' w l S' P' L' a' (nN y1) y2) (-1, Wj, Bj, fj, bp) 29).2.2.2.2.2, G) else (w, l, lg, ll, Wj, Bj, fj, bp, G)) (S', P', L', a') (fun ad r i => m_bound E ad r i V' w l lg ll Wj Bj fj bp G S' P' L' a' y1 y2 hO' (Sok.le hO' hSo') hPo' (by omega)) ad) (by
        rw [hnp]
        by_cases c : (ixB y1 (npV VA) && rgB y2 (-1000) (nI 9999)) = true
        · rw [if_pos c, if_pos c]
          exact (bound_eq (T := (stT Tt VA P L S0)) hq (ix_lt hp5 (Bool.and_eq_true_iff.mp c).1) y2 a' Wj Bj fj bp 29 0 (stT Tt VA P L S0) rfl ⟨ruV VA, rfl, fun _ _ => rfl⟩ rfl rfl rfl rfl rfl).symm
        · rw [if_neg c, if_neg c])
set_option maxHeartbeats 4000000 in
set_option maxRecDepth 100000 in
theorem pr_law (E : EnvT) (B : Nat) (x : Xst) (m : Mst) (bb : Bool) (y1 : Int32) (y2 : Int32) (y3 : Int32) (hR : RR B x m) (hB : B < 2 ^ 28) : Pr E B mX9_law mX10_law [.int (bI bb), .int y1, .int y2, .int y3] x m := by
  obtain ⟨sw, len, nx, kk, st, nu, nm, T, fk, pl, VA, XA, VB, XB, ⟨S0, P, L, a, kp, Wn⟩, Tt, b, Sl, W, F, hb, Q0, Q1, Q2⟩ := x
  obtain ⟨V', D', tp', T', k', f', fa', VR', XR', ⟨S', P', L', a'⟩, ⟨w, l, lg, ll, Wj, Bj, fj, bp, G⟩, K', kb', fn', hb', F', b'⟩ := m
  cases sw
  · have hR : R0 B VB XB len T fk pl (S0, P, L, a, kp, Wn) b W F hb Q0 Q1 Q2 V' D' tp' T' k' f' fa' (S', P', L', a') K' kb' hb' F' := hR
    obtain ⟨⟨ta, tb, tc, td, te⟩, ⟨hO, hV, hso, hst, hcl⟩, hN, ⟨s0, s1, s2⟩, ⟨fa1, fa2⟩, ⟨g1, g2, g3, g4⟩, ⟨l1, l2⟩⟩ := id hR
    subst tp' T' hb'
    have hO' : Vok V' := hO.eq' hV
    have hnp : npV V' = npV VB := hV.2.1.symm
    have hnh : nhV V' = nhV VB := hV.1.symm
    have hp5 : npV VB ≤ 5 := hO.2.1
    have hh5 : nhV VB ≤ 5 := hO.1
    have hSo : Sok VB S0 := hN.2.2.2.2.2.1
    have hPo : Pok VB P := hN.2.2.2.2.2.2.1
    have hPl : Ple P := hN.2.2.2.2.2.2.2.1
    have hps : psS S0 ≤ B := hN.2.2.2.2.2.2.2.2.1
    have hgb : ∀ W9 p, p < npV VB → Ib (ltS (gon VB L W9 S0) p) (-128) 127 := fun W9 p hp => gon_gb hO hN.2.2.2.2.2.2.2.2.2.1 hN.2.2.2.2.2.2.2.2.2.2 hp
    have hSo' : Sok V' S' := hN.Sok' hV
    have hPo' : Pok V' P' := hN.Pok' hV
    have hps' : psS S' ≤ B := hN.ps'
    have hq : Rq VB (ovr V' ((-1, -1, w, -1, false, l) : Ovr)) P P' L L' S0 S' := hN.Rq hO hV w l
    have hv : Rv VB V' ((-1, -1, w, -1, false, l) : Ovr) L L' S0 S' := ⟨hO, hq.2.1, hq.2.2.2.1, hq.2.2.2.2⟩
    refine ⟨(if (rgB y1 (nI 0) (nI 28) && rgB y2 (nI 1) (nI 20) && rgB y3 (nI 0) (nI 1)) then (if y3 = nI 0 then gaF (rqT (lwT (stT Tt VB P L S0) bb (nN y1)) ((nN y2) * 4)) (npV VB) else slF (rqT (lwT (stT Tt VB P L S0) bb (nN y1)) ((nN y2) * 4)) (nhV VB)) else -1000000), (false, len, nx, kk, st, nu, nm, T, fk, pl, VA, XA, VB, XB, (S0, P, L, a, kp, Wn), (if (rgB y1 (nI 0) (nI 28) && rgB y2 (nI 1) (nI 20) && rgB y3 (nI 0) (nI 1)) then (rqT (lwT (stT Tt VB P L S0) bb (nN y1)) ((nN y2) * 4)) else Tt), b, Sl, W, F, hb, Q0, Q1, Q2), (V', D', len, T, k', f', fa', VR', XR', (S', P', L', a'), (if (rgB y1 (nI 0) (nI 28) && rgB y2 (nI 1) (nI 20) && rgB y3 (nI 0) (nI 1)) then (w, bb, lgF S' (mgF V' (nI (nN y1), -1, w, -1, true, bb) P' L' (S', Wj, Bj) (4 * nN y2)).1 (npV V'), loF S' (mgF V' (nI (nN y1), -1, w, -1, true, bb) P' L' (S', Wj, Bj) (4 * nN y2)).1 (nhV V'), (mgF V' (nI (nN y1), -1, w, -1, true, bb) P' L' (S', Wj, Bj) (4 * nN y2)).2.1, (mgF V' (nI (nN y1), -1, w, -1, true, bb) P' L' (S', Wj, Bj) (4 * nN y2)).2.2, (rwF (mgF V' (nI (nN y1), -1, w, -1, true, bb) P' L' (S', Wj, Bj) (4 * nN y2)).1 P' L' a'), bp, G) else (w, l, lg, ll, Wj, Bj, fj, bp, G)), K', kb', fn', hb, F', b'), (show R0 _ _ _ _ _ _ _ _ _ _ _ _ _ _ _ _ _ _ _ _ _ _ _ _ _ _ _ from hR.mono (by omega)), fun ad => ?_, fun ad => ?_⟩
    · exact lx_t0 E len nx kk st nu nm T fk pl VA XA VB XB (S0, P, L, a, kp, Wn) Tt b Sl W F hb Q0 Q1 Q2 (if (rgB y1 (nI 0) (nI 28) && rgB y2 (nI 1) (nI 20) && rgB y3 (nI 0) (nI 1)) then (rqT (lwT (stT Tt VB P L S0) bb (nN y1)) ((nN y2) * 4)) else Tt) (S0, P, L, a, kp, Wn) (fun ad r => x_law E ad r (bI hb) Tt VB XB S0 P L a kp Wn bb y1 y2 y3 hO (Sok.le hO hSo) hPl (by omega)) ad
    · exact Md.ans (lm_t E V' D' len T k' f' fa' VR' XR' (S', P', L', a') (w, l, lg, ll, Wj, Bj, fj, bp, G) K' kb' fn' hb F' b' (if (rgB y1 (nI 0) (nI 28) && rgB y2 (nI 1) (nI 20) && rgB y3 (nI 0) (nI 1)) then (w, bb, lgF S' (mgF V' (nI (nN y1), -1, w, -1, true, bb) P' L' (S', Wj, Bj) (4 * nN y2)).1 (npV V'), loF S' (mgF V' (nI (nN y1), -1, w, -1, true, bb) P' L' (S', Wj, Bj) (4 * nN y2)).1 (nhV V'), (mgF V' (nI (nN y1), -1, w, -1, true, bb) P' L' (S', Wj, Bj) (4 * nN y2)).2.1, (mgF V' (nI (nN y1), -1, w, -1, true, bb) P' L' (S', Wj, Bj) (4 * nN y2)).2.2, (rwF (mgF V' (nI (nN y1), -1, w, -1, true, bb) P' L' (S', Wj, Bj) (4 * nN y2)).1 P' L' a'), bp, G) else (w, l, lg, ll, Wj, Bj, fj, bp, G)) (S', P', L', a') (fun ad r i => m_law E ad r i V' w l lg ll Wj Bj fj bp G S' P' L' a' bb y1 y2 y3 hO' (Sok.le hO' hSo') hPo' (by omega)) ad) (by
        by_cases c : (rgB y1 (nI 0) (nI 28) && rgB y2 (nI 1) (nI 20) && rgB y3 (nI 0) (nI 1)) = true
        · rw [if_pos c, if_pos c]
          have c1 := rg_lt (by decide) (by decide) (Bool.and_eq_true_iff.mp (Bool.and_eq_true_iff.mp c).1).1
          have hr := lw_Rq (T := (stT Tt VB P L S0)) (X := (stT Tt VB P L S0)) (b := bb) (c := nN y1) (g := ruV VB) (b0 := laV VB) hq (by omega) rfl (fun _ _ => rfl) rfl rfl rfl
          have hl := law_g hr.1 Wj Bj (nN y2 * 4)
          have n1 : npV (vT (lwT (stT Tt VB P L S0) bb (nN y1))) = npV VB := rfl
          have n2 : nhV (vT (lwT (stT Tt VB P L S0) bb (nN y1))) = nhV VB := rfl
          rw [n1, n2] at hl
          rw [hnp, hnh, Nat.mul_comm 4 (nN y2)]
          by_cases c3 : y3 = nI 0
          · rw [if_pos c3, if_pos c3]; exact hl.1.symm
          · rw [if_neg c3, if_neg c3]; exact hl.2.symm
        · rw [if_neg c, if_neg c])
  · have hR : R0 B VA XA len T fk pl (S0, P, L, a, kp, Wn) b W F hb Q0 Q1 Q2 V' D' tp' T' k' f' fa' (S', P', L', a') K' kb' hb' F' := hR
    obtain ⟨⟨ta, tb, tc, td, te⟩, ⟨hO, hV, hso, hst, hcl⟩, hN, ⟨s0, s1, s2⟩, ⟨fa1, fa2⟩, ⟨g1, g2, g3, g4⟩, ⟨l1, l2⟩⟩ := id hR
    subst tp' T' hb'
    have hO' : Vok V' := hO.eq' hV
    have hnp : npV V' = npV VA := hV.2.1.symm
    have hnh : nhV V' = nhV VA := hV.1.symm
    have hp5 : npV VA ≤ 5 := hO.2.1
    have hh5 : nhV VA ≤ 5 := hO.1
    have hSo : Sok VA S0 := hN.2.2.2.2.2.1
    have hPo : Pok VA P := hN.2.2.2.2.2.2.1
    have hPl : Ple P := hN.2.2.2.2.2.2.2.1
    have hps : psS S0 ≤ B := hN.2.2.2.2.2.2.2.2.1
    have hgb : ∀ W9 p, p < npV VA → Ib (ltS (gon VA L W9 S0) p) (-128) 127 := fun W9 p hp => gon_gb hO hN.2.2.2.2.2.2.2.2.2.1 hN.2.2.2.2.2.2.2.2.2.2 hp
    have hSo' : Sok V' S' := hN.Sok' hV
    have hPo' : Pok V' P' := hN.Pok' hV
    have hps' : psS S' ≤ B := hN.ps'
    have hq : Rq VA (ovr V' ((-1, -1, w, -1, false, l) : Ovr)) P P' L L' S0 S' := hN.Rq hO hV w l
    have hv : Rv VA V' ((-1, -1, w, -1, false, l) : Ovr) L L' S0 S' := ⟨hO, hq.2.1, hq.2.2.2.1, hq.2.2.2.2⟩
    refine ⟨(if (rgB y1 (nI 0) (nI 28) && rgB y2 (nI 1) (nI 20) && rgB y3 (nI 0) (nI 1)) then (if y3 = nI 0 then gaF (rqT (lwT (stT Tt VA P L S0) bb (nN y1)) ((nN y2) * 4)) (npV VA) else slF (rqT (lwT (stT Tt VA P L S0) bb (nN y1)) ((nN y2) * 4)) (nhV VA)) else -1000000), (true, len, nx, kk, st, nu, nm, T, fk, pl, VA, XA, VB, XB, (S0, P, L, a, kp, Wn), (if (rgB y1 (nI 0) (nI 28) && rgB y2 (nI 1) (nI 20) && rgB y3 (nI 0) (nI 1)) then (rqT (lwT (stT Tt VA P L S0) bb (nN y1)) ((nN y2) * 4)) else Tt), b, Sl, W, F, hb, Q0, Q1, Q2), (V', D', len, T, k', f', fa', VR', XR', (S', P', L', a'), (if (rgB y1 (nI 0) (nI 28) && rgB y2 (nI 1) (nI 20) && rgB y3 (nI 0) (nI 1)) then (w, bb, lgF S' (mgF V' (nI (nN y1), -1, w, -1, true, bb) P' L' (S', Wj, Bj) (4 * nN y2)).1 (npV V'), loF S' (mgF V' (nI (nN y1), -1, w, -1, true, bb) P' L' (S', Wj, Bj) (4 * nN y2)).1 (nhV V'), (mgF V' (nI (nN y1), -1, w, -1, true, bb) P' L' (S', Wj, Bj) (4 * nN y2)).2.1, (mgF V' (nI (nN y1), -1, w, -1, true, bb) P' L' (S', Wj, Bj) (4 * nN y2)).2.2, (rwF (mgF V' (nI (nN y1), -1, w, -1, true, bb) P' L' (S', Wj, Bj) (4 * nN y2)).1 P' L' a'), bp, G) else (w, l, lg, ll, Wj, Bj, fj, bp, G)), K', kb', fn', hb, F', b'), (show R0 _ _ _ _ _ _ _ _ _ _ _ _ _ _ _ _ _ _ _ _ _ _ _ _ _ _ _ from hR.mono (by omega)), fun ad => ?_, fun ad => ?_⟩
    · exact lx_t1 E len nx kk st nu nm T fk pl VA XA VB XB (S0, P, L, a, kp, Wn) Tt b Sl W F hb Q0 Q1 Q2 (if (rgB y1 (nI 0) (nI 28) && rgB y2 (nI 1) (nI 20) && rgB y3 (nI 0) (nI 1)) then (rqT (lwT (stT Tt VA P L S0) bb (nN y1)) ((nN y2) * 4)) else Tt) (S0, P, L, a, kp, Wn) (fun ad r => x_law E ad r (bI hb) Tt VA XA S0 P L a kp Wn bb y1 y2 y3 hO (Sok.le hO hSo) hPl (by omega)) ad
    · exact Md.ans (lm_t E V' D' len T k' f' fa' VR' XR' (S', P', L', a') (w, l, lg, ll, Wj, Bj, fj, bp, G) K' kb' fn' hb F' b' (if (rgB y1 (nI 0) (nI 28) && rgB y2 (nI 1) (nI 20) && rgB y3 (nI 0) (nI 1)) then (w, bb, lgF S' (mgF V' (nI (nN y1), -1, w, -1, true, bb) P' L' (S', Wj, Bj) (4 * nN y2)).1 (npV V'), loF S' (mgF V' (nI (nN y1), -1, w, -1, true, bb) P' L' (S', Wj, Bj) (4 * nN y2)).1 (nhV V'), (mgF V' (nI (nN y1), -1, w, -1, true, bb) P' L' (S', Wj, Bj) (4 * nN y2)).2.1, (mgF V' (nI (nN y1), -1, w, -1, true, bb) P' L' (S', Wj, Bj) (4 * nN y2)).2.2, (rwF (mgF V' (nI (nN y1), -1, w, -1, true, bb) P' L' (S', Wj, Bj) (4 * nN y2)).1 P' L' a'), bp, G) else (w, l, lg, ll, Wj, Bj, fj, bp, G)) (S', P', L', a') (fun ad r i => m_law E ad r i V' w l lg ll Wj Bj fj bp G S' P' L' a' bb y1 y2 y3 hO' (Sok.le hO' hSo') hPo' (by omega)) ad) (by
        by_cases c : (rgB y1 (nI 0) (nI 28) && rgB y2 (nI 1) (nI 20) && rgB y3 (nI 0) (nI 1)) = true
        · rw [if_pos c, if_pos c]
          have c1 := rg_lt (by decide) (by decide) (Bool.and_eq_true_iff.mp (Bool.and_eq_true_iff.mp c).1).1
          have hr := lw_Rq (T := (stT Tt VA P L S0)) (X := (stT Tt VA P L S0)) (b := bb) (c := nN y1) (g := ruV VA) (b0 := laV VA) hq (by omega) rfl (fun _ _ => rfl) rfl rfl rfl
          have hl := law_g hr.1 Wj Bj (nN y2 * 4)
          have n1 : npV (vT (lwT (stT Tt VA P L S0) bb (nN y1))) = npV VA := rfl
          have n2 : nhV (vT (lwT (stT Tt VA P L S0) bb (nN y1))) = nhV VA := rfl
          rw [n1, n2] at hl
          rw [hnp, hnh, Nat.mul_comm 4 (nN y2)]
          by_cases c3 : y3 = nI 0
          · rw [if_pos c3, if_pos c3]; exact hl.1.symm
          · rw [if_neg c3, if_neg c3]; exact hl.2.symm
        · rw [if_neg c, if_neg c])
set_option maxHeartbeats 4000000 in
set_option maxRecDepth 100000 in
theorem pr_bestLaw (E : EnvT) (B : Nat) (x : Xst) (m : Mst) (y1 : Int32) (hR : RR B x m) (hB : B < 2 ^ 28) : Pr E B mX9_bestLaw mX10_bestLaw [.int y1] x m := by
  obtain ⟨sw, len, nx, kk, st, nu, nm, T, fk, pl, VA, XA, VB, XB, ⟨S0, P, L, a, kp, Wn⟩, Tt, b, Sl, W, F, hb, Q0, Q1, Q2⟩ := x
  obtain ⟨V', D', tp', T', k', f', fa', VR', XR', ⟨S', P', L', a'⟩, ⟨w, l, lg, ll, Wj, Bj, fj, bp, G⟩, K', kb', fn', hb', F', b'⟩ := m
  cases sw
  · have hR : R0 B VB XB len T fk pl (S0, P, L, a, kp, Wn) b W F hb Q0 Q1 Q2 V' D' tp' T' k' f' fa' (S', P', L', a') K' kb' hb' F' := hR
    obtain ⟨⟨ta, tb, tc, td, te⟩, ⟨hO, hV, hso, hst, hcl⟩, hN, ⟨s0, s1, s2⟩, ⟨fa1, fa2⟩, ⟨g1, g2, g3, g4⟩, ⟨l1, l2⟩⟩ := id hR
    subst tp' T' hb'
    have hO' : Vok V' := hO.eq' hV
    have hnp : npV V' = npV VB := hV.2.1.symm
    have hnh : nhV V' = nhV VB := hV.1.symm
    have hp5 : npV VB ≤ 5 := hO.2.1
    have hh5 : nhV VB ≤ 5 := hO.1
    have hSo : Sok VB S0 := hN.2.2.2.2.2.1
    have hPo : Pok VB P := hN.2.2.2.2.2.2.1
    have hPl : Ple P := hN.2.2.2.2.2.2.2.1
    have hps : psS S0 ≤ B := hN.2.2.2.2.2.2.2.2.1
    have hgb : ∀ W9 p, p < npV VB → Ib (ltS (gon VB L W9 S0) p) (-128) 127 := fun W9 p hp => gon_gb hO hN.2.2.2.2.2.2.2.2.2.1 hN.2.2.2.2.2.2.2.2.2.2 hp
    have hSo' : Sok V' S' := hN.Sok' hV
    have hPo' : Pok V' P' := hN.Pok' hV
    have hps' : psS S' ≤ B := hN.ps'
    have hq : Rq VB (ovr V' ((-1, -1, w, -1, false, l) : Ovr)) P P' L L' S0 S' := hN.Rq hO hV w l
    have hv : Rv VB V' ((-1, -1, w, -1, false, l) : Ovr) L L' S0 S' := ⟨hO, hq.2.1, hq.2.2.2.1, hq.2.2.2.2⟩
    refine ⟨(if rgB y1 (nI 1) (nI 20) then nI (glA (nN y1) (stT Tt VB P L S0) 2).2.2 else -2), (false, len, nx, kk, st, nu, nm, T, fk, pl, VA, XA, VB, XB, (S0, P, L, a, kp, Wn), (if rgB y1 (nI 1) (nI 20) then (glA (nN y1) (stT Tt VB P L S0) 2).1 else Tt), b, Sl, W, F, hb, Q0, Q1, Q2), (V', D', len, T, k', f', fa', VR', XR', (S', P', L', a'), (if rgB y1 (nI 1) (nI 20) then (w, (bkF V' w S' P' L' a' (nN y1) (-1000000, 0, l, lg, ll, Wj, Bj, fj) 2).2.2.1, (bkF V' w S' P' L' a' (nN y1) (-1000000, 0, l, lg, ll, Wj, Bj, fj) 2).2.2.2.1, (bkF V' w S' P' L' a' (nN y1) (-1000000, 0, l, lg, ll, Wj, Bj, fj) 2).2.2.2.2.1, (bkF V' w S' P' L' a' (nN y1) (-1000000, 0, l, lg, ll, Wj, Bj, fj) 2).2.2.2.2.2.1, (bkF V' w S' P' L' a' (nN y1) (-1000000, 0, l, lg, ll, Wj, Bj, fj) 2).2.2.2.2.2.2.1, (bkF V' w S' P' L' a' (nN y1) (-1000000, 0, l, lg, ll, Wj, Bj, fj) 2).2.2.2.2.2.2.2, bp, G) else (w, l, lg, ll, Wj, Bj, fj, bp, G)), K', kb', fn', hb, F', b'), (show R0 _ _ _ _ _ _ _ _ _ _ _ _ _ _ _ _ _ _ _ _ _ _ _ _ _ _ _ from hR.mono (by omega)), fun ad => ?_, fun ad => ?_⟩
    · exact lx_t0 E len nx kk st nu nm T fk pl VA XA VB XB (S0, P, L, a, kp, Wn) Tt b Sl W F hb Q0 Q1 Q2 (if rgB y1 (nI 1) (nI 20) then (glA (nN y1) (stT Tt VB P L S0) 2).1 else Tt) (S0, P, L, a, kp, Wn) (fun ad r => x_bestLaw E ad r (bI hb) Tt VB XB S0 P L a kp Wn y1 hO (Sok.le hO hSo) hPl (by omega)) ad
    · exact Md.ans (lm_t E V' D' len T k' f' fa' VR' XR' (S', P', L', a') (w, l, lg, ll, Wj, Bj, fj, bp, G) K' kb' fn' hb F' b' (if rgB y1 (nI 1) (nI 20) then (w, (bkF V' w S' P' L' a' (nN y1) (-1000000, 0, l, lg, ll, Wj, Bj, fj) 2).2.2.1, (bkF V' w S' P' L' a' (nN y1) (-1000000, 0, l, lg, ll, Wj, Bj, fj) 2).2.2.2.1, (bkF V' w S' P' L' a' (nN y1) (-1000000, 0, l, lg, ll, Wj, Bj, fj) 2).2.2.2.2.1, (bkF V' w S' P' L' a' (nN y1) (-1000000, 0, l, lg, ll, Wj, Bj, fj) 2).2.2.2.2.2.1, (bkF V' w S' P' L' a' (nN y1) (-1000000, 0, l, lg, ll, Wj, Bj, fj) 2).2.2.2.2.2.2.1, (bkF V' w S' P' L' a' (nN y1) (-1000000, 0, l, lg, ll, Wj, Bj, fj) 2).2.2.2.2.2.2.2, bp, G) else (w, l, lg, ll, Wj, Bj, fj, bp, G)) (S', P', L', a') (fun ad r i => m_bestLaw E ad r i V' w l lg ll Wj Bj fj bp G S' P' L' a' y1 hO' (Sok.le hO' hSo') hPo' (by omega)) ad) (by
        by_cases c : rgB y1 (nI 1) (nI 20) = true
        · rw [if_pos c, if_pos c, (bestLaw_eq (T := (stT Tt VB P L S0)) hq a' (nN y1) (-1000000, 0, l, lg, ll, Wj, Bj, fj) rfl rfl 2).2.2.2.2.2]
        · rw [if_neg c, if_neg c])
  · have hR : R0 B VA XA len T fk pl (S0, P, L, a, kp, Wn) b W F hb Q0 Q1 Q2 V' D' tp' T' k' f' fa' (S', P', L', a') K' kb' hb' F' := hR
    obtain ⟨⟨ta, tb, tc, td, te⟩, ⟨hO, hV, hso, hst, hcl⟩, hN, ⟨s0, s1, s2⟩, ⟨fa1, fa2⟩, ⟨g1, g2, g3, g4⟩, ⟨l1, l2⟩⟩ := id hR
    subst tp' T' hb'
    have hO' : Vok V' := hO.eq' hV
    have hnp : npV V' = npV VA := hV.2.1.symm
    have hnh : nhV V' = nhV VA := hV.1.symm
    have hp5 : npV VA ≤ 5 := hO.2.1
    have hh5 : nhV VA ≤ 5 := hO.1
    have hSo : Sok VA S0 := hN.2.2.2.2.2.1
    have hPo : Pok VA P := hN.2.2.2.2.2.2.1
    have hPl : Ple P := hN.2.2.2.2.2.2.2.1
    have hps : psS S0 ≤ B := hN.2.2.2.2.2.2.2.2.1
    have hgb : ∀ W9 p, p < npV VA → Ib (ltS (gon VA L W9 S0) p) (-128) 127 := fun W9 p hp => gon_gb hO hN.2.2.2.2.2.2.2.2.2.1 hN.2.2.2.2.2.2.2.2.2.2 hp
    have hSo' : Sok V' S' := hN.Sok' hV
    have hPo' : Pok V' P' := hN.Pok' hV
    have hps' : psS S' ≤ B := hN.ps'
    have hq : Rq VA (ovr V' ((-1, -1, w, -1, false, l) : Ovr)) P P' L L' S0 S' := hN.Rq hO hV w l
    have hv : Rv VA V' ((-1, -1, w, -1, false, l) : Ovr) L L' S0 S' := ⟨hO, hq.2.1, hq.2.2.2.1, hq.2.2.2.2⟩
    refine ⟨(if rgB y1 (nI 1) (nI 20) then nI (glA (nN y1) (stT Tt VA P L S0) 2).2.2 else -2), (true, len, nx, kk, st, nu, nm, T, fk, pl, VA, XA, VB, XB, (S0, P, L, a, kp, Wn), (if rgB y1 (nI 1) (nI 20) then (glA (nN y1) (stT Tt VA P L S0) 2).1 else Tt), b, Sl, W, F, hb, Q0, Q1, Q2), (V', D', len, T, k', f', fa', VR', XR', (S', P', L', a'), (if rgB y1 (nI 1) (nI 20) then (w, (bkF V' w S' P' L' a' (nN y1) (-1000000, 0, l, lg, ll, Wj, Bj, fj) 2).2.2.1, (bkF V' w S' P' L' a' (nN y1) (-1000000, 0, l, lg, ll, Wj, Bj, fj) 2).2.2.2.1, (bkF V' w S' P' L' a' (nN y1) (-1000000, 0, l, lg, ll, Wj, Bj, fj) 2).2.2.2.2.1, (bkF V' w S' P' L' a' (nN y1) (-1000000, 0, l, lg, ll, Wj, Bj, fj) 2).2.2.2.2.2.1, (bkF V' w S' P' L' a' (nN y1) (-1000000, 0, l, lg, ll, Wj, Bj, fj) 2).2.2.2.2.2.2.1, (bkF V' w S' P' L' a' (nN y1) (-1000000, 0, l, lg, ll, Wj, Bj, fj) 2).2.2.2.2.2.2.2, bp, G) else (w, l, lg, ll, Wj, Bj, fj, bp, G)), K', kb', fn', hb, F', b'), (show R0 _ _ _ _ _ _ _ _ _ _ _ _ _ _ _ _ _ _ _ _ _ _ _ _ _ _ _ from hR.mono (by omega)), fun ad => ?_, fun ad => ?_⟩
    · exact lx_t1 E len nx kk st nu nm T fk pl VA XA VB XB (S0, P, L, a, kp, Wn) Tt b Sl W F hb Q0 Q1 Q2 (if rgB y1 (nI 1) (nI 20) then (glA (nN y1) (stT Tt VA P L S0) 2).1 else Tt) (S0, P, L, a, kp, Wn) (fun ad r => x_bestLaw E ad r (bI hb) Tt VA XA S0 P L a kp Wn y1 hO (Sok.le hO hSo) hPl (by omega)) ad
    · exact Md.ans (lm_t E V' D' len T k' f' fa' VR' XR' (S', P', L', a') (w, l, lg, ll, Wj, Bj, fj, bp, G) K' kb' fn' hb F' b' (if rgB y1 (nI 1) (nI 20) then (w, (bkF V' w S' P' L' a' (nN y1) (-1000000, 0, l, lg, ll, Wj, Bj, fj) 2).2.2.1, (bkF V' w S' P' L' a' (nN y1) (-1000000, 0, l, lg, ll, Wj, Bj, fj) 2).2.2.2.1, (bkF V' w S' P' L' a' (nN y1) (-1000000, 0, l, lg, ll, Wj, Bj, fj) 2).2.2.2.2.1, (bkF V' w S' P' L' a' (nN y1) (-1000000, 0, l, lg, ll, Wj, Bj, fj) 2).2.2.2.2.2.1, (bkF V' w S' P' L' a' (nN y1) (-1000000, 0, l, lg, ll, Wj, Bj, fj) 2).2.2.2.2.2.2.1, (bkF V' w S' P' L' a' (nN y1) (-1000000, 0, l, lg, ll, Wj, Bj, fj) 2).2.2.2.2.2.2.2, bp, G) else (w, l, lg, ll, Wj, Bj, fj, bp, G)) (S', P', L', a') (fun ad r i => m_bestLaw E ad r i V' w l lg ll Wj Bj fj bp G S' P' L' a' y1 hO' (Sok.le hO' hSo') hPo' (by omega)) ad) (by
        by_cases c : rgB y1 (nI 1) (nI 20) = true
        · rw [if_pos c, if_pos c, (bestLaw_eq (T := (stT Tt VA P L S0)) hq a' (nN y1) (-1000000, 0, l, lg, ll, Wj, Bj, fj) rfl rfl 2).2.2.2.2.2]
        · rw [if_neg c, if_neg c])
set_option maxHeartbeats 4000000 in
set_option maxRecDepth 100000 in
theorem pr_whom (E : EnvT) (B : Nat) (x : Xst) (m : Mst) (y1 : Int32) (hR : RR B x m) (hB : B < 2 ^ 28) : Pr E B mX9_whom mX10_whom [.int y1] x m := by
  obtain ⟨sw, len, nx, kk, st, nu, nm, T, fk, pl, VA, XA, VB, XB, ⟨S0, P, L, a, kp, Wn⟩, Tt, b, Sl, W, F, hb, Q0, Q1, Q2⟩ := x
  obtain ⟨V', D', tp', T', k', f', fa', VR', XR', ⟨S', P', L', a'⟩, ⟨w, l, lg, ll, Wj, Bj, fj, bp, G⟩, K', kb', fn', hb', F', b'⟩ := m
  cases sw
  · have hR : R0 B VB XB len T fk pl (S0, P, L, a, kp, Wn) b W F hb Q0 Q1 Q2 V' D' tp' T' k' f' fa' (S', P', L', a') K' kb' hb' F' := hR
    obtain ⟨⟨ta, tb, tc, td, te⟩, ⟨hO, hV, hso, hst, hcl⟩, hN, ⟨s0, s1, s2⟩, ⟨fa1, fa2⟩, ⟨g1, g2, g3, g4⟩, ⟨l1, l2⟩⟩ := id hR
    subst tp' T' hb'
    have hO' : Vok V' := hO.eq' hV
    have hnp : npV V' = npV VB := hV.2.1.symm
    have hnh : nhV V' = nhV VB := hV.1.symm
    have hp5 : npV VB ≤ 5 := hO.2.1
    have hh5 : nhV VB ≤ 5 := hO.1
    have hSo : Sok VB S0 := hN.2.2.2.2.2.1
    have hPo : Pok VB P := hN.2.2.2.2.2.2.1
    have hPl : Ple P := hN.2.2.2.2.2.2.2.1
    have hps : psS S0 ≤ B := hN.2.2.2.2.2.2.2.2.1
    have hgb : ∀ W9 p, p < npV VB → Ib (ltS (gon VB L W9 S0) p) (-128) 127 := fun W9 p hp => gon_gb hO hN.2.2.2.2.2.2.2.2.2.1 hN.2.2.2.2.2.2.2.2.2.2 hp
    have hSo' : Sok V' S' := hN.Sok' hV
    have hPo' : Pok V' P' := hN.Pok' hV
    have hps' : psS S' ≤ B := hN.ps'
    have hq : Rq VB (ovr V' ((-1, -1, w, -1, false, l) : Ovr)) P P' L L' S0 S' := hN.Rq hO hV w l
    have hv : Rv VB V' ((-1, -1, w, -1, false, l) : Ovr) L L' S0 S' := ⟨hO, hq.2.1, hq.2.2.2.1, hq.2.2.2.2⟩
    refine ⟨(if ixB y1 (npV VB) then nI (blF (stT Tt VB P L S0) (nN y1) (2 ^ npV VB)).2.2 else -2), (false, len, nx, kk, st, nu, nm, T, fk, pl, VA, XA, VB, XB, (S0, P, L, a, kp, Wn), (if ixB y1 (npV VB) then (blF (stT Tt VB P L S0) (nN y1) (2 ^ npV VB)).1 else Tt), b, Sl, W, F, hb, Q0, Q1, Q2), (V', D', len, T, k', f', fa', VR', XR', (S', P', L', a'), (if ixB y1 (npV V') then (w, l, lg, ll, (wmF V' ((-1, -1, w, -1, false, l) : Ovr) P' L' S' a' (nN y1) (-1000000, 0, Wj, Bj, fj) (2 ^ npV V')).2.2.1, (wmF V' ((-1, -1, w, -1, false, l) : Ovr) P' L' S' a' (nN y1) (-1000000, 0, Wj, Bj, fj) (2 ^ npV V')).2.2.2.1, (wmF V' ((-1, -1, w, -1, false, l) : Ovr) P' L' S' a' (nN y1) (-1000000, 0, Wj, Bj, fj) (2 ^ npV V')).2.2.2.2, bp, G) else (w, l, lg, ll, Wj, Bj, fj, bp, G)), K', kb', fn', hb, F', b'), (show R0 _ _ _ _ _ _ _ _ _ _ _ _ _ _ _ _ _ _ _ _ _ _ _ _ _ _ _ from hR.mono (by omega)), fun ad => ?_, fun ad => ?_⟩
    · exact lx_t0 E len nx kk st nu nm T fk pl VA XA VB XB (S0, P, L, a, kp, Wn) Tt b Sl W F hb Q0 Q1 Q2 (if ixB y1 (npV VB) then (blF (stT Tt VB P L S0) (nN y1) (2 ^ npV VB)).1 else Tt) (S0, P, L, a, kp, Wn) (fun ad r => x_whom E ad r (bI hb) Tt VB XB S0 P L a kp Wn y1 hO (Sok.le hO hSo) hPl (by omega)) ad
    · exact Md.ans (lm_t E V' D' len T k' f' fa' VR' XR' (S', P', L', a') (w, l, lg, ll, Wj, Bj, fj, bp, G) K' kb' fn' hb F' b' (if ixB y1 (npV V') then (w, l, lg, ll, (wmF V' ((-1, -1, w, -1, false, l) : Ovr) P' L' S' a' (nN y1) (-1000000, 0, Wj, Bj, fj) (2 ^ npV V')).2.2.1, (wmF V' ((-1, -1, w, -1, false, l) : Ovr) P' L' S' a' (nN y1) (-1000000, 0, Wj, Bj, fj) (2 ^ npV V')).2.2.2.1, (wmF V' ((-1, -1, w, -1, false, l) : Ovr) P' L' S' a' (nN y1) (-1000000, 0, Wj, Bj, fj) (2 ^ npV V')).2.2.2.2, bp, G) else (w, l, lg, ll, Wj, Bj, fj, bp, G)) (S', P', L', a') (fun ad r i => m_whom E ad r i V' w l lg ll Wj Bj fj bp G S' P' L' a' y1 hO' (Sok.le hO' hSo') hPo' (by omega)) ad) (by
        rw [hnp]
        by_cases c : ixB y1 (npV VB) = true
        · rw [if_pos c, if_pos c, (whom_eq (T := (stT Tt VB P L S0)) hq (ix_lt hp5 c) a' Wj Bj fj (2 ^ npV VB) (Nat.le_trans (Nat.pow_le_pow_right (by decide) hp5) (by decide))).2]
        · rw [if_neg c, if_neg c])
  · have hR : R0 B VA XA len T fk pl (S0, P, L, a, kp, Wn) b W F hb Q0 Q1 Q2 V' D' tp' T' k' f' fa' (S', P', L', a') K' kb' hb' F' := hR
    obtain ⟨⟨ta, tb, tc, td, te⟩, ⟨hO, hV, hso, hst, hcl⟩, hN, ⟨s0, s1, s2⟩, ⟨fa1, fa2⟩, ⟨g1, g2, g3, g4⟩, ⟨l1, l2⟩⟩ := id hR
    subst tp' T' hb'
    have hO' : Vok V' := hO.eq' hV
    have hnp : npV V' = npV VA := hV.2.1.symm
    have hnh : nhV V' = nhV VA := hV.1.symm
    have hp5 : npV VA ≤ 5 := hO.2.1
    have hh5 : nhV VA ≤ 5 := hO.1
    have hSo : Sok VA S0 := hN.2.2.2.2.2.1
    have hPo : Pok VA P := hN.2.2.2.2.2.2.1
    have hPl : Ple P := hN.2.2.2.2.2.2.2.1
    have hps : psS S0 ≤ B := hN.2.2.2.2.2.2.2.2.1
    have hgb : ∀ W9 p, p < npV VA → Ib (ltS (gon VA L W9 S0) p) (-128) 127 := fun W9 p hp => gon_gb hO hN.2.2.2.2.2.2.2.2.2.1 hN.2.2.2.2.2.2.2.2.2.2 hp
    have hSo' : Sok V' S' := hN.Sok' hV
    have hPo' : Pok V' P' := hN.Pok' hV
    have hps' : psS S' ≤ B := hN.ps'
    have hq : Rq VA (ovr V' ((-1, -1, w, -1, false, l) : Ovr)) P P' L L' S0 S' := hN.Rq hO hV w l
    have hv : Rv VA V' ((-1, -1, w, -1, false, l) : Ovr) L L' S0 S' := ⟨hO, hq.2.1, hq.2.2.2.1, hq.2.2.2.2⟩
    refine ⟨(if ixB y1 (npV VA) then nI (blF (stT Tt VA P L S0) (nN y1) (2 ^ npV VA)).2.2 else -2), (true, len, nx, kk, st, nu, nm, T, fk, pl, VA, XA, VB, XB, (S0, P, L, a, kp, Wn), (if ixB y1 (npV VA) then (blF (stT Tt VA P L S0) (nN y1) (2 ^ npV VA)).1 else Tt), b, Sl, W, F, hb, Q0, Q1, Q2), (V', D', len, T, k', f', fa', VR', XR', (S', P', L', a'), (if ixB y1 (npV V') then (w, l, lg, ll, (wmF V' ((-1, -1, w, -1, false, l) : Ovr) P' L' S' a' (nN y1) (-1000000, 0, Wj, Bj, fj) (2 ^ npV V')).2.2.1, (wmF V' ((-1, -1, w, -1, false, l) : Ovr) P' L' S' a' (nN y1) (-1000000, 0, Wj, Bj, fj) (2 ^ npV V')).2.2.2.1, (wmF V' ((-1, -1, w, -1, false, l) : Ovr) P' L' S' a' (nN y1) (-1000000, 0, Wj, Bj, fj) (2 ^ npV V')).2.2.2.2, bp, G) else (w, l, lg, ll, Wj, Bj, fj, bp, G)), K', kb', fn', hb, F', b'), (show R0 _ _ _ _ _ _ _ _ _ _ _ _ _ _ _ _ _ _ _ _ _ _ _ _ _ _ _ from hR.mono (by omega)), fun ad => ?_, fun ad => ?_⟩
    · exact lx_t1 E len nx kk st nu nm T fk pl VA XA VB XB (S0, P, L, a, kp, Wn) Tt b Sl W F hb Q0 Q1 Q2 (if ixB y1 (npV VA) then (blF (stT Tt VA P L S0) (nN y1) (2 ^ npV VA)).1 else Tt) (S0, P, L, a, kp, Wn) (fun ad r => x_whom E ad r (bI hb) Tt VA XA S0 P L a kp Wn y1 hO (Sok.le hO hSo) hPl (by omega)) ad
    · exact Md.ans (lm_t E V' D' len T k' f' fa' VR' XR' (S', P', L', a') (w, l, lg, ll, Wj, Bj, fj, bp, G) K' kb' fn' hb F' b' (if ixB y1 (npV V') then (w, l, lg, ll, (wmF V' ((-1, -1, w, -1, false, l) : Ovr) P' L' S' a' (nN y1) (-1000000, 0, Wj, Bj, fj) (2 ^ npV V')).2.2.1, (wmF V' ((-1, -1, w, -1, false, l) : Ovr) P' L' S' a' (nN y1) (-1000000, 0, Wj, Bj, fj) (2 ^ npV V')).2.2.2.1, (wmF V' ((-1, -1, w, -1, false, l) : Ovr) P' L' S' a' (nN y1) (-1000000, 0, Wj, Bj, fj) (2 ^ npV V')).2.2.2.2, bp, G) else (w, l, lg, ll, Wj, Bj, fj, bp, G)) (S', P', L', a') (fun ad r i => m_whom E ad r i V' w l lg ll Wj Bj fj bp G S' P' L' a' y1 hO' (Sok.le hO' hSo') hPo' (by omega)) ad) (by
        rw [hnp]
        by_cases c : ixB y1 (npV VA) = true
        · rw [if_pos c, if_pos c, (whom_eq (T := (stT Tt VA P L S0)) hq (ix_lt hp5 c) a' Wj Bj fj (2 ^ npV VA) (Nat.le_trans (Nat.pow_le_pow_right (by decide) hp5) (by decide))).2]
        · rw [if_neg c, if_neg c])
set_option maxHeartbeats 4000000 in
set_option maxRecDepth 100000 in
theorem pr_edge (E : EnvT) (B : Nat) (x : Xst) (m : Mst) (y1 : Int32) (y2 : Int32) (hR : RR B x m) (hB : B < 2 ^ 28) : Pr E B mX9_edge mX10_edge [.int y1, .int y2] x m := by
  obtain ⟨sw, len, nx, kk, st, nu, nm, T, fk, pl, VA, XA, VB, XB, ⟨S0, P, L, a, kp, Wn⟩, Tt, b, Sl, W, F, hb, Q0, Q1, Q2⟩ := x
  obtain ⟨V', D', tp', T', k', f', fa', VR', XR', ⟨S', P', L', a'⟩, ⟨w, l, lg, ll, Wj, Bj, fj, bp, G⟩, K', kb', fn', hb', F', b'⟩ := m
  cases sw
  · have hR : R0 B VB XB len T fk pl (S0, P, L, a, kp, Wn) b W F hb Q0 Q1 Q2 V' D' tp' T' k' f' fa' (S', P', L', a') K' kb' hb' F' := hR
    obtain ⟨⟨ta, tb, tc, td, te⟩, ⟨hO, hV, hso, hst, hcl⟩, hN, ⟨s0, s1, s2⟩, ⟨fa1, fa2⟩, ⟨g1, g2, g3, g4⟩, ⟨l1, l2⟩⟩ := id hR
    subst tp' T' hb'
    have hO' : Vok V' := hO.eq' hV
    have hnp : npV V' = npV VB := hV.2.1.symm
    have hnh : nhV V' = nhV VB := hV.1.symm
    have hp5 : npV VB ≤ 5 := hO.2.1
    have hh5 : nhV VB ≤ 5 := hO.1
    have hSo : Sok VB S0 := hN.2.2.2.2.2.1
    have hPo : Pok VB P := hN.2.2.2.2.2.2.1
    have hPl : Ple P := hN.2.2.2.2.2.2.2.1
    have hps : psS S0 ≤ B := hN.2.2.2.2.2.2.2.2.1
    have hgb : ∀ W9 p, p < npV VB → Ib (ltS (gon VB L W9 S0) p) (-128) 127 := fun W9 p hp => gon_gb hO hN.2.2.2.2.2.2.2.2.2.1 hN.2.2.2.2.2.2.2.2.2.2 hp
    have hSo' : Sok V' S' := hN.Sok' hV
    have hPo' : Pok V' P' := hN.Pok' hV
    have hps' : psS S' ≤ B := hN.ps'
    have hq : Rq VB (ovr V' ((-1, -1, w, -1, false, l) : Ovr)) P P' L L' S0 S' := hN.Rq hO hV w l
    have hv : Rv VB V' ((-1, -1, w, -1, false, l) : Ovr) L L' S0 S' := ⟨hO, hq.2.1, hq.2.2.2.1, hq.2.2.2.2⟩
    refine ⟨(if (ixB y1 (npV VB) && ixB y2 (npV VB) && !decide (y1 = y2)) then (if hoV VB (nN y1) < 5 then (wrT (stT Tt VB P L S0) (nN y1) (nN y2)).2 else -4) else -2), (false, len, nx, kk, st, nu, nm, T, fk, pl, VA, XA, VB, XB, (S0, P, L, a, kp, Wn), (if (ixB y1 (npV VB) && ixB y2 (npV VB) && !decide (y1 = y2)) then (if hoV VB (nN y1) < 5 then (wrT (stT Tt VB P L S0) (nN y1) (nN y2)).1 else Tt) else Tt), b, Sl, W, F, hb, Q0, Q1, Q2), (V', D', len, T, k', f', fa', VR', XR', (S', P', L', a'), (if (ixB y1 (npV V') && ixB y2 (npV V') && !decide (y1 = y2)) then (if hoV V' (nN y1) < 5 then ((itB (edS V' l S' P' L' a' (nN y1) (nN y2)) (-1, nI 0, Wj, Bj, fj) 21).2.2.1, l, lg, ll, (itB (edS V' l S' P' L' a' (nN y1) (nN y2)) (-1, nI 0, Wj, Bj, fj) 21).2.2.2.1, (itB (edS V' l S' P' L' a' (nN y1) (nN y2)) (-1, nI 0, Wj, Bj, fj) 21).2.2.2.2.1, (itB (edS V' l S' P' L' a' (nN y1) (nN y2)) (-1, nI 0, Wj, Bj, fj) 21).2.2.2.2.2, bp, G) else (w, l, lg, ll, Wj, Bj, fj, bp, G)) else (w, l, lg, ll, Wj, Bj, fj, bp, G)), K', kb', fn', hb, F', b'), (show R0 _ _ _ _ _ _ _ _ _ _ _ _ _ _ _ _ _ _ _ _ _ _ _ _ _ _ _ from hR.mono (by omega)), fun ad => ?_, fun ad => ?_⟩
    · exact lx_t0 E len nx kk st nu nm T fk pl VA XA VB XB (S0, P, L, a, kp, Wn) Tt b Sl W F hb Q0 Q1 Q2 (if (ixB y1 (npV VB) && ixB y2 (npV VB) && !decide (y1 = y2)) then (if hoV VB (nN y1) < 5 then (wrT (stT Tt VB P L S0) (nN y1) (nN y2)).1 else Tt) else Tt) (S0, P, L, a, kp, Wn) (fun ad r => x_edge E ad r (bI hb) Tt VB XB S0 P L a kp Wn y1 y2 hO (Sok.le hO hSo) hPl (by omega)) ad
    · exact Md.ans (lm_t E V' D' len T k' f' fa' VR' XR' (S', P', L', a') (w, l, lg, ll, Wj, Bj, fj, bp, G) K' kb' fn' hb F' b' (if (ixB y1 (npV V') && ixB y2 (npV V') && !decide (y1 = y2)) then (if hoV V' (nN y1) < 5 then ((itB (edS V' l S' P' L' a' (nN y1) (nN y2)) (-1, nI 0, Wj, Bj, fj) 21).2.2.1, l, lg, ll, (itB (edS V' l S' P' L' a' (nN y1) (nN y2)) (-1, nI 0, Wj, Bj, fj) 21).2.2.2.1, (itB (edS V' l S' P' L' a' (nN y1) (nN y2)) (-1, nI 0, Wj, Bj, fj) 21).2.2.2.2.1, (itB (edS V' l S' P' L' a' (nN y1) (nN y2)) (-1, nI 0, Wj, Bj, fj) 21).2.2.2.2.2, bp, G) else (w, l, lg, ll, Wj, Bj, fj, bp, G)) else (w, l, lg, ll, Wj, Bj, fj, bp, G)) (S', P', L', a') (fun ad r i => m_edge E ad r i V' w l lg ll Wj Bj fj bp G S' P' L' a' y1 y2 hO' (Sok.le hO' hSo') hPo' (by omega)) ad) (by
        rw [hnp]
        by_cases c : (ixB y1 (npV VB) && ixB y2 (npV VB) && !decide (y1 = y2)) = true
        · rw [if_pos c, if_pos c]
          have c1 := ix_lt hp5 (Bool.and_eq_true_iff.mp (Bool.and_eq_true_iff.mp c).1).1
          have hh := hV.2.2.2.2.2.2.1 _ c1
          rw [← hh]
          by_cases c3 : hoV VB (nN y1) < 5
          · rw [if_pos c3, if_pos c3]
            have e0 : wrT (stT Tt VB P L S0) (nN y1) (nN y2) = woF (nN y1) (hoV VB (nN y1)) (L (nN y1) ||| (nI 1 <<< (nI (nN y2) &&& 31))) ((L (nN y1) ||| (nI 1 <<< (nI (nN y2) &&& 31))) &&& ((nI 1 <<< (nI (nN y2) &&& 31)) ^^^ (-1))) 21 0 (stT Tt VB P L S0) := if_pos c3
            rw [e0, or_and_not, hq.2.2.2.1 _ c1, hh]
            exact (edge_eq (T := (stT Tt VB P L S0)) hq c1 (by rw [← hh]; exact c3) a' (-1, nI 0, Wj, Bj, fj) 21 0 (stT Tt VB P L S0) rfl ⟨woV VB, rfl, fun _ _ _ => rfl⟩ rfl (fun _ _ => rfl) rfl rfl rfl).symm
          · rw [if_neg c3, if_neg c3]
        · rw [if_neg c, if_neg c])
  · have hR : R0 B VA XA len T fk pl (S0, P, L, a, kp, Wn) b W F hb Q0 Q1 Q2 V' D' tp' T' k' f' fa' (S', P', L', a') K' kb' hb' F' := hR
    obtain ⟨⟨ta, tb, tc, td, te⟩, ⟨hO, hV, hso, hst, hcl⟩, hN, ⟨s0, s1, s2⟩, ⟨fa1, fa2⟩, ⟨g1, g2, g3, g4⟩, ⟨l1, l2⟩⟩ := id hR
    subst tp' T' hb'
    have hO' : Vok V' := hO.eq' hV
    have hnp : npV V' = npV VA := hV.2.1.symm
    have hnh : nhV V' = nhV VA := hV.1.symm
    have hp5 : npV VA ≤ 5 := hO.2.1
    have hh5 : nhV VA ≤ 5 := hO.1
    have hSo : Sok VA S0 := hN.2.2.2.2.2.1
    have hPo : Pok VA P := hN.2.2.2.2.2.2.1
    have hPl : Ple P := hN.2.2.2.2.2.2.2.1
    have hps : psS S0 ≤ B := hN.2.2.2.2.2.2.2.2.1
    have hgb : ∀ W9 p, p < npV VA → Ib (ltS (gon VA L W9 S0) p) (-128) 127 := fun W9 p hp => gon_gb hO hN.2.2.2.2.2.2.2.2.2.1 hN.2.2.2.2.2.2.2.2.2.2 hp
    have hSo' : Sok V' S' := hN.Sok' hV
    have hPo' : Pok V' P' := hN.Pok' hV
    have hps' : psS S' ≤ B := hN.ps'
    have hq : Rq VA (ovr V' ((-1, -1, w, -1, false, l) : Ovr)) P P' L L' S0 S' := hN.Rq hO hV w l
    have hv : Rv VA V' ((-1, -1, w, -1, false, l) : Ovr) L L' S0 S' := ⟨hO, hq.2.1, hq.2.2.2.1, hq.2.2.2.2⟩
    refine ⟨(if (ixB y1 (npV VA) && ixB y2 (npV VA) && !decide (y1 = y2)) then (if hoV VA (nN y1) < 5 then (wrT (stT Tt VA P L S0) (nN y1) (nN y2)).2 else -4) else -2), (true, len, nx, kk, st, nu, nm, T, fk, pl, VA, XA, VB, XB, (S0, P, L, a, kp, Wn), (if (ixB y1 (npV VA) && ixB y2 (npV VA) && !decide (y1 = y2)) then (if hoV VA (nN y1) < 5 then (wrT (stT Tt VA P L S0) (nN y1) (nN y2)).1 else Tt) else Tt), b, Sl, W, F, hb, Q0, Q1, Q2), (V', D', len, T, k', f', fa', VR', XR', (S', P', L', a'), (if (ixB y1 (npV V') && ixB y2 (npV V') && !decide (y1 = y2)) then (if hoV V' (nN y1) < 5 then ((itB (edS V' l S' P' L' a' (nN y1) (nN y2)) (-1, nI 0, Wj, Bj, fj) 21).2.2.1, l, lg, ll, (itB (edS V' l S' P' L' a' (nN y1) (nN y2)) (-1, nI 0, Wj, Bj, fj) 21).2.2.2.1, (itB (edS V' l S' P' L' a' (nN y1) (nN y2)) (-1, nI 0, Wj, Bj, fj) 21).2.2.2.2.1, (itB (edS V' l S' P' L' a' (nN y1) (nN y2)) (-1, nI 0, Wj, Bj, fj) 21).2.2.2.2.2, bp, G) else (w, l, lg, ll, Wj, Bj, fj, bp, G)) else (w, l, lg, ll, Wj, Bj, fj, bp, G)), K', kb', fn', hb, F', b'), (show R0 _ _ _ _ _ _ _ _ _ _ _ _ _ _ _ _ _ _ _ _ _ _ _ _ _ _ _ from hR.mono (by omega)), fun ad => ?_, fun ad => ?_⟩
    · exact lx_t1 E len nx kk st nu nm T fk pl VA XA VB XB (S0, P, L, a, kp, Wn) Tt b Sl W F hb Q0 Q1 Q2 (if (ixB y1 (npV VA) && ixB y2 (npV VA) && !decide (y1 = y2)) then (if hoV VA (nN y1) < 5 then (wrT (stT Tt VA P L S0) (nN y1) (nN y2)).1 else Tt) else Tt) (S0, P, L, a, kp, Wn) (fun ad r => x_edge E ad r (bI hb) Tt VA XA S0 P L a kp Wn y1 y2 hO (Sok.le hO hSo) hPl (by omega)) ad
    · exact Md.ans (lm_t E V' D' len T k' f' fa' VR' XR' (S', P', L', a') (w, l, lg, ll, Wj, Bj, fj, bp, G) K' kb' fn' hb F' b' (if (ixB y1 (npV V') && ixB y2 (npV V') && !decide (y1 = y2)) then (if hoV V' (nN y1) < 5 then ((itB (edS V' l S' P' L' a' (nN y1) (nN y2)) (-1, nI 0, Wj, Bj, fj) 21).2.2.1, l, lg, ll, (itB (edS V' l S' P' L' a' (nN y1) (nN y2)) (-1, nI 0, Wj, Bj, fj) 21).2.2.2.1, (itB (edS V' l S' P' L' a' (nN y1) (nN y2)) (-1, nI 0, Wj, Bj, fj) 21).2.2.2.2.1, (itB (edS V' l S' P' L' a' (nN y1) (nN y2)) (-1, nI 0, Wj, Bj, fj) 21).2.2.2.2.2, bp, G) else (w, l, lg, ll, Wj, Bj, fj, bp, G)) else (w, l, lg, ll, Wj, Bj, fj, bp, G)) (S', P', L', a') (fun ad r i => m_edge E ad r i V' w l lg ll Wj Bj fj bp G S' P' L' a' y1 y2 hO' (Sok.le hO' hSo') hPo' (by omega)) ad) (by
        rw [hnp]
        by_cases c : (ixB y1 (npV VA) && ixB y2 (npV VA) && !decide (y1 = y2)) = true
        · rw [if_pos c, if_pos c]
          have c1 := ix_lt hp5 (Bool.and_eq_true_iff.mp (Bool.and_eq_true_iff.mp c).1).1
          have hh := hV.2.2.2.2.2.2.1 _ c1
          rw [← hh]
          by_cases c3 : hoV VA (nN y1) < 5
          · rw [if_pos c3, if_pos c3]
            have e0 : wrT (stT Tt VA P L S0) (nN y1) (nN y2) = woF (nN y1) (hoV VA (nN y1)) (L (nN y1) ||| (nI 1 <<< (nI (nN y2) &&& 31))) ((L (nN y1) ||| (nI 1 <<< (nI (nN y2) &&& 31))) &&& ((nI 1 <<< (nI (nN y2) &&& 31)) ^^^ (-1))) 21 0 (stT Tt VA P L S0) := if_pos c3
            rw [e0, or_and_not, hq.2.2.2.1 _ c1, hh]
            exact (edge_eq (T := (stT Tt VA P L S0)) hq c1 (by rw [← hh]; exact c3) a' (-1, nI 0, Wj, Bj, fj) 21 0 (stT Tt VA P L S0) rfl ⟨woV VA, rfl, fun _ _ _ => rfl⟩ rfl (fun _ _ => rfl) rfl rfl rfl).symm
          · rw [if_neg c3, if_neg c3]
        · rw [if_neg c, if_neg c])
set_option maxHeartbeats 4000000 in
set_option maxRecDepth 100000 in
theorem pr_show (E : EnvT) (B : Nat) (x : Xst) (m : Mst) (y1 : Int32) (hR : RR B x m) (hB : B < 2 ^ 28) : Pr E B mX9_show mX10_show [.int y1] x m := by
  obtain ⟨sw, len, nx, kk, st, nu, nm, T, fk, pl, VA, XA, VB, XB, ⟨S0, P, L, a, kp, Wn⟩, Tt, b, Sl, W, F, hb, Q0, Q1, Q2⟩ := x
  obtain ⟨V', D', tp', T', k', f', fa', VR', XR', ⟨S', P', L', a'⟩, ⟨w, l, lg, ll, Wj, Bj, fj, bp, G⟩, K', kb', fn', hb', F', b'⟩ := m
  cases sw
  · have hR : R0 B VB XB len T fk pl (S0, P, L, a, kp, Wn) b W F hb Q0 Q1 Q2 V' D' tp' T' k' f' fa' (S', P', L', a') K' kb' hb' F' := hR
    obtain ⟨⟨ta, tb, tc, td, te⟩, ⟨hO, hV, hso, hst, hcl⟩, hN, ⟨s0, s1, s2⟩, ⟨fa1, fa2⟩, ⟨g1, g2, g3, g4⟩, ⟨l1, l2⟩⟩ := id hR
    subst tp' T' hb'
    have hO' : Vok V' := hO.eq' hV
    have hnp : npV V' = npV VB := hV.2.1.symm
    have hnh : nhV V' = nhV VB := hV.1.symm
    have hp5 : npV VB ≤ 5 := hO.2.1
    have hh5 : nhV VB ≤ 5 := hO.1
    have hSo : Sok VB S0 := hN.2.2.2.2.2.1
    have hPo : Pok VB P := hN.2.2.2.2.2.2.1
    have hPl : Ple P := hN.2.2.2.2.2.2.2.1
    have hps : psS S0 ≤ B := hN.2.2.2.2.2.2.2.2.1
    have hgb : ∀ W9 p, p < npV VB → Ib (ltS (gon VB L W9 S0) p) (-128) 127 := fun W9 p hp => gon_gb hO hN.2.2.2.2.2.2.2.2.2.1 hN.2.2.2.2.2.2.2.2.2.2 hp
    have hSo' : Sok V' S' := hN.Sok' hV
    have hPo' : Pok V' P' := hN.Pok' hV
    have hps' : psS S' ≤ B := hN.ps'
    have hq : Rq VB (ovr V' ((-1, -1, w, -1, false, l) : Ovr)) P P' L L' S0 S' := hN.Rq hO hV w l
    have hv : Rv VB V' ((-1, -1, w, -1, false, l) : Ovr) L L' S0 S' := ⟨hO, hq.2.1, hq.2.2.2.1, hq.2.2.2.2⟩
    refine ⟨(if ixB y1 (npV VB) then nI (bcF (stT Tt VB P L S0) (nN y1) 4).2.2 else -2), (false, len, nx, kk, st, nu, nm, T, fk, pl, VA, XA, VB, XB, (S0, P, L, a, kp, Wn), (if ixB y1 (npV VB) then (bcF (stT Tt VB P L S0) (nN y1) 4).1 else Tt), b, Sl, W, F, hb, Q0, Q1, Q2), (V', D', len, T, k', f', fa', VR', XR', (S', P', L', a'), (if ixB y1 (npV V') then (w, l, lg, ll, (shF V' w l P' L' S' a' (nN y1) (-1000000, 1, Wj, Bj, fj) 4).2.2.1, (shF V' w l P' L' S' a' (nN y1) (-1000000, 1, Wj, Bj, fj) 4).2.2.2.1, (shF V' w l P' L' S' a' (nN y1) (-1000000, 1, Wj, Bj, fj) 4).2.2.2.2, bp, G) else (w, l, lg, ll, Wj, Bj, fj, bp, G)), K', kb', fn', hb, F', b'), (show R0 _ _ _ _ _ _ _ _ _ _ _ _ _ _ _ _ _ _ _ _ _ _ _ _ _ _ _ from hR.mono (by omega)), fun ad => ?_, fun ad => ?_⟩
    · exact lx_t0 E len nx kk st nu nm T fk pl VA XA VB XB (S0, P, L, a, kp, Wn) Tt b Sl W F hb Q0 Q1 Q2 (if ixB y1 (npV VB) then (bcF (stT Tt VB P L S0) (nN y1) 4).1 else Tt) (S0, P, L, a, kp, Wn) (fun ad r => x_show E ad r (bI hb) Tt VB XB S0 P L a kp Wn y1 hO (Sok.le hO hSo) hPl (by omega)) ad
    · exact Md.ans (lm_t E V' D' len T k' f' fa' VR' XR' (S', P', L', a') (w, l, lg, ll, Wj, Bj, fj, bp, G) K' kb' fn' hb F' b' (if ixB y1 (npV V') then (w, l, lg, ll, (shF V' w l P' L' S' a' (nN y1) (-1000000, 1, Wj, Bj, fj) 4).2.2.1, (shF V' w l P' L' S' a' (nN y1) (-1000000, 1, Wj, Bj, fj) 4).2.2.2.1, (shF V' w l P' L' S' a' (nN y1) (-1000000, 1, Wj, Bj, fj) 4).2.2.2.2, bp, G) else (w, l, lg, ll, Wj, Bj, fj, bp, G)) (S', P', L', a') (fun ad r i => m_show E ad r i V' w l lg ll Wj Bj fj bp G S' P' L' a' y1 hO' (Sok.le hO' hSo') hPo' (by omega)) ad) (by
        rw [hnp]
        by_cases c : ixB y1 (npV VB) = true
        · rw [if_pos c, if_pos c, (show_eq (T := (stT Tt VB P L S0)) hq (ix_lt hp5 c) a' Wj Bj fj 4 (Nat.le_refl _)).2]
        · rw [if_neg c, if_neg c])
  · have hR : R0 B VA XA len T fk pl (S0, P, L, a, kp, Wn) b W F hb Q0 Q1 Q2 V' D' tp' T' k' f' fa' (S', P', L', a') K' kb' hb' F' := hR
    obtain ⟨⟨ta, tb, tc, td, te⟩, ⟨hO, hV, hso, hst, hcl⟩, hN, ⟨s0, s1, s2⟩, ⟨fa1, fa2⟩, ⟨g1, g2, g3, g4⟩, ⟨l1, l2⟩⟩ := id hR
    subst tp' T' hb'
    have hO' : Vok V' := hO.eq' hV
    have hnp : npV V' = npV VA := hV.2.1.symm
    have hnh : nhV V' = nhV VA := hV.1.symm
    have hp5 : npV VA ≤ 5 := hO.2.1
    have hh5 : nhV VA ≤ 5 := hO.1
    have hSo : Sok VA S0 := hN.2.2.2.2.2.1
    have hPo : Pok VA P := hN.2.2.2.2.2.2.1
    have hPl : Ple P := hN.2.2.2.2.2.2.2.1
    have hps : psS S0 ≤ B := hN.2.2.2.2.2.2.2.2.1
    have hgb : ∀ W9 p, p < npV VA → Ib (ltS (gon VA L W9 S0) p) (-128) 127 := fun W9 p hp => gon_gb hO hN.2.2.2.2.2.2.2.2.2.1 hN.2.2.2.2.2.2.2.2.2.2 hp
    have hSo' : Sok V' S' := hN.Sok' hV
    have hPo' : Pok V' P' := hN.Pok' hV
    have hps' : psS S' ≤ B := hN.ps'
    have hq : Rq VA (ovr V' ((-1, -1, w, -1, false, l) : Ovr)) P P' L L' S0 S' := hN.Rq hO hV w l
    have hv : Rv VA V' ((-1, -1, w, -1, false, l) : Ovr) L L' S0 S' := ⟨hO, hq.2.1, hq.2.2.2.1, hq.2.2.2.2⟩
    refine ⟨(if ixB y1 (npV VA) then nI (bcF (stT Tt VA P L S0) (nN y1) 4).2.2 else -2), (true, len, nx, kk, st, nu, nm, T, fk, pl, VA, XA, VB, XB, (S0, P, L, a, kp, Wn), (if ixB y1 (npV VA) then (bcF (stT Tt VA P L S0) (nN y1) 4).1 else Tt), b, Sl, W, F, hb, Q0, Q1, Q2), (V', D', len, T, k', f', fa', VR', XR', (S', P', L', a'), (if ixB y1 (npV V') then (w, l, lg, ll, (shF V' w l P' L' S' a' (nN y1) (-1000000, 1, Wj, Bj, fj) 4).2.2.1, (shF V' w l P' L' S' a' (nN y1) (-1000000, 1, Wj, Bj, fj) 4).2.2.2.1, (shF V' w l P' L' S' a' (nN y1) (-1000000, 1, Wj, Bj, fj) 4).2.2.2.2, bp, G) else (w, l, lg, ll, Wj, Bj, fj, bp, G)), K', kb', fn', hb, F', b'), (show R0 _ _ _ _ _ _ _ _ _ _ _ _ _ _ _ _ _ _ _ _ _ _ _ _ _ _ _ from hR.mono (by omega)), fun ad => ?_, fun ad => ?_⟩
    · exact lx_t1 E len nx kk st nu nm T fk pl VA XA VB XB (S0, P, L, a, kp, Wn) Tt b Sl W F hb Q0 Q1 Q2 (if ixB y1 (npV VA) then (bcF (stT Tt VA P L S0) (nN y1) 4).1 else Tt) (S0, P, L, a, kp, Wn) (fun ad r => x_show E ad r (bI hb) Tt VA XA S0 P L a kp Wn y1 hO (Sok.le hO hSo) hPl (by omega)) ad
    · exact Md.ans (lm_t E V' D' len T k' f' fa' VR' XR' (S', P', L', a') (w, l, lg, ll, Wj, Bj, fj, bp, G) K' kb' fn' hb F' b' (if ixB y1 (npV V') then (w, l, lg, ll, (shF V' w l P' L' S' a' (nN y1) (-1000000, 1, Wj, Bj, fj) 4).2.2.1, (shF V' w l P' L' S' a' (nN y1) (-1000000, 1, Wj, Bj, fj) 4).2.2.2.1, (shF V' w l P' L' S' a' (nN y1) (-1000000, 1, Wj, Bj, fj) 4).2.2.2.2, bp, G) else (w, l, lg, ll, Wj, Bj, fj, bp, G)) (S', P', L', a') (fun ad r i => m_show E ad r i V' w l lg ll Wj Bj fj bp G S' P' L' a' y1 hO' (Sok.le hO' hSo') hPo' (by omega)) ad) (by
        rw [hnp]
        by_cases c : ixB y1 (npV VA) = true
        · rw [if_pos c, if_pos c, (show_eq (T := (stT Tt VA P L S0)) hq (ix_lt hp5 c) a' Wj Bj fj 4 (Nat.le_refl _)).2]
        · rw [if_neg c, if_neg c])
