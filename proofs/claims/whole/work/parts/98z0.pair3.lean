/-! PAIRS: settling, villages, books -/
theorem plc_ok (V : Vil) (c : Nat) : plc V c < nhV V ∨ plc V c = 5 := by unfold plc; split <;> omega
theorem up_P {V : Vil} {P : Nat → Nat} (hh : nhV V ≤ 5) (h : Pok V P ∧ Ple P) (k : Nat) {x : Nat} (hx : x < nhV V ∨ x = 5) : Pok V (upN P k x) ∧ Ple (upN P k x) := by
  refine ⟨fun p hp q hq => ?_, fun j hj => ?_⟩
  · unfold upN; split
    · exact hx
    · exact h.1 p hp q hq
  · unfold upN; split
    · omega
    · exact h.2 j hj
theorem st_P {X : Tst} {p : Nat} (hh : nhV (vT X) ≤ 5) (h : Pok (vT X) (pT X) ∧ Ple (pT X)) : vT (stP X p).1 = vT X ∧ Pok (vT X) (pT (stP X p).1) ∧ Ple (pT (stP X p).1) := by
  obtain ⟨f1, -, f3, -, -, -⟩ := fbT_same (rqT X 4) p
  have f1 : vT (fbT (rqT X 4) p) = vT X := f1
  have f3 : pT (fbT (rqT X 4) p) = pT X := f3
  unfold stP
  generalize fbT (rqT X 4) p = R at *
  split
  · refine ⟨f1, ?_⟩
    show Pok (vT X) (pbF R p 4) ∧ Ple (pbF R p 4)
    have hu : pbF R p 4 = upN (upN (upN (upN (pT R) (p * 4 + 0) (bpl R 0)) (p * 4 + 1) (bpl R 1)) (p * 4 + 2) (bpl R 2)) (p * 4 + 3) (bpl R 3) := rfl
    have hb : ∀ i, bpl R i < nhV (vT X) ∨ bpl R i = 5 := fun i => by rw [← f1]; exact plc_ok _ _
    rw [hu, f3]
    exact up_P hh (up_P hh (up_P hh (up_P hh h _ (hb 0)) _ (hb 1)) _ (hb 2)) _ (hb 3)
  · refine ⟨f1, ?_⟩
    show Pok (vT X) (pT R) ∧ Ple (pT R)
    rw [f3]; exact h
theorem rd_P {X : Tst} (hh : nhV (vT X) ≤ 5) (h : Pok (vT X) (pT X) ∧ Ple (pT X)) : ∀ n, vT (rdF X n).1 = vT X ∧ Pok (vT X) (pT (rdF X n).1) ∧ Ple (pT (rdF X n).1) := by
  intro n
  induction n with
  | zero => exact ⟨rfl, h⟩
  | succ n ih =>
    obtain ⟨i1, i2⟩ := ih
    have := st_P (X := (rdF X n).1) (p := n) (by rw [i1]; exact hh) (by rw [i1]; exact i2)
    rw [i1] at this
    exact this
theorem se_P : ∀ (n r : Nat) (X : Tst), nhV (vT X) ≤ 5 → Pok (vT X) (pT X) ∧ Ple (pT X) → Pok (vT X) (pT (seF n r X).1) ∧ Ple (pT (seF n r X).1) := by
  intro n
  induction n with
  | zero => intro r X _ h; exact h
  | succ n ih =>
    intro r X hh h
    obtain ⟨i1, i2⟩ := rd_P hh h (npV (vT X))
    have hu : seF (n + 1) r X = if (rdF X (npV (vT X))).2 then seF n (r + 1) (rdF X (npV (vT X))).1 else ((rdF X (npV (vT X))).1, nI r) := rfl
    rw [hu]
    split
    · have := ih (r + 1) (rdF X (npV (vT X))).1 (by rw [i1]; exact hh) (by rw [i1]; exact i2)
      rw [i1] at this
      exact this
    · exact i2
theorem fcF_le {V : Vil} {L : Nat → Int32} {b : Bki} {g : Nat} (hb : ∀ k, b.2.2.2 k ≤ 5) : ∀ n d (S : Scn) (W : Nat → Nat), d ≤ g → Sle V S → (∀ k, W k ≤ 5) → ∀ k, (fcF V L b g n d S W).2.2 k ≤ 5 := by
  intro n
  induction n with
  | zero => intro d S W _ _ h; exact h
  | succ n ih =>
    intro d S W hd hS hW
    have hl := pqR_le (V := V) (b := b) (S := S) (W := W) (d := d) (g := g) hb hS hW hd
    unfold fcF
    split
    · split
      · exact hl.1
      · exact ih _ _ _ hl.2.2 (gon_le hS (fun p _ => hl.1 p)) hl.1
    · exact hW
set_option maxHeartbeats 4000000 in
set_option maxRecDepth 100000 in
theorem pr_settle (E : EnvT) (B : Nat) (x : Xst) (m : Mst)  (hR : RR B x m) (hB : B < 2 ^ 28) : Pr E B mX9_settle mX10_settle [] x m := by
  obtain ⟨sw, len, nx, kk, st, nu, nm, T, fk, pl, VA, XA, VB, XB, ⟨S0, P, L, a, kp, Wn⟩, Tt, b, Sl, W, F, hb, Q0, Q1, Q2⟩ := x
  obtain ⟨V', D', tp', T', k', f', fa', VR', XR', ⟨S', P', L', a'⟩, ⟨w, l, lg, ll, Wj, Bj, fj, bp, G⟩, K', kb', fn', hb', F', b'⟩ := m
  cases sw
  · have hR : R0 B VB XB len T fk pl (S0, P, L, a, kp, Wn) b W F hb Q0 Q1 Q2 V' D' tp' T' k' f' fa' (S', P', L', a') K' kb' hb' F' := hR
    obtain ⟨⟨ta, tb, tc, td, te⟩, ⟨hO, hV, hso, hst, hcl⟩, hN, ⟨s0, s1, s2⟩, ⟨fa1, fa2⟩, ⟨g1, g2, g3, g4⟩, ⟨l1, l2⟩⟩ := id hR
    subst tp' T' hb'
    have hO' : Vok V' := hO.eq' hV
    have hnp : npV V' = npV VB := hV.2.1.symm
    have hnh : nhV V' = nhV VB := hV.1.symm
    have hp5 : npV VB ≤ 5 := hO.2.1
    have hh5 : nhV VB ≤ 5 := hO.1
    have hSo : Sok VB S0 := hN.2.2.2.2.2.1
    have hPo : Pok VB P := hN.2.2.2.2.2.2.1
    have hPl : Ple P := hN.2.2.2.2.2.2.2.1
    have hps : psS S0 ≤ B := hN.2.2.2.2.2.2.2.2.1
    have hgb : ∀ W9 p, p < npV VB → Ib (ltS (gon VB L W9 S0) p) (-128) 127 := fun W9 p hp => gon_gb hO hN.2.2.2.2.2.2.2.2.2.1 hN.2.2.2.2.2.2.2.2.2.2 hp
    have hSo' : Sok V' S' := hN.Sok' hV
    have hPo' : Pok V' P' := hN.Pok' hV
    have hps' : psS S' ≤ B := hN.ps'
    have hq : Rq VB (ovr V' ((-1, -1, w, -1, false, l) : Ovr)) P P' L L' S0 S' := hN.Rq hO hV w l
    have hv : Rv VB V' ((-1, -1, w, -1, false, l) : Ovr) L L' S0 S' := ⟨hO, hq.2.1, hq.2.2.2.1, hq.2.2.2.2⟩
    have hse := se_eq (V0 := V') (w := w) (l := l) (L' := L') (S' := S') a' (0, P', false, Wj, Bj, fj, bp) L (npV VB) hnp 9 0 (stT Tt VB P L S0) rfl rfl hq rfl rfl
    have hsp := se_P 9 1 (stT Tt VB P L S0) hh5 ⟨hPo, hPl⟩
    refine ⟨(seF 9 1 (stT Tt VB P L S0)).2, (false, len, nx, kk, st, nu, nm, T, fk, pl, VA, XA, VB, XB, (S0, pT (seF 9 1 (stT Tt VB P L S0)).1, lT (seF 9 1 (stT Tt VB P L S0)).1, a, kp, Wn), (seF 9 1 (stT Tt VB P L S0)).1, b, Sl, W, F, hb, Q0, Q1, Q2), (V', D', len, T, k', f', fa', VR', XR', (S', (itB (slI V' w l S' L' a') (0, P', false, Wj, Bj, fj, bp) 9).2.2.1, L', a'), (w, l, lg, ll, (itB (slI V' w l S' L' a') (0, P', false, Wj, Bj, fj, bp) 9).2.2.2.2.1, (itB (slI V' w l S' L' a') (0, P', false, Wj, Bj, fj, bp) 9).2.2.2.2.2.1, (itB (slI V' w l S' L' a') (0, P', false, Wj, Bj, fj, bp) 9).2.2.2.2.2.2.1, (itB (slI V' w l S' L' a') (0, P', false, Wj, Bj, fj, bp) 9).2.2.2.2.2.2.2, G), K', kb', fn', hb, F', b'), (show R0 _ _ _ _ _ _ _ _ _ _ _ _ _ _ _ _ _ _ _ _ _ _ _ _ _ _ _ from ⟨⟨rfl, tb, rfl, td, te⟩, ⟨hO, hV, hso, hst, hcl⟩, (by
        obtain ⟨a1, a2, a3, a4, a5, a6, a7, a8, a9⟩ := hN.mono (show B ≤ B + 400 by omega)
        refine ⟨a1, fun p q hp hq => hse.2.2 p q hp hq, fun p hp => ?_, a4, a5, a6, hsp.1, hsp.2, a9⟩
        show lT (seF 9 1 (stT Tt VB P L S0)).1 p = L' p
        rw [hse.2.1]
        exact a3 p hp), ⟨s0.mono (by omega), s1.mono (by omega), s2.mono (by omega)⟩, ⟨fa1, fa2⟩, ⟨rfl, g2, g3, g4⟩, ⟨l1, l2⟩⟩), fun ad => ?_, fun ad => ?_⟩
    · exact lx_t0 E len nx kk st nu nm T fk pl VA XA VB XB (S0, P, L, a, kp, Wn) Tt b Sl W F hb Q0 Q1 Q2 (seF 9 1 (stT Tt VB P L S0)).1 (S0, pT (seF 9 1 (stT Tt VB P L S0)).1, lT (seF 9 1 (stT Tt VB P L S0)).1, a, kp, Wn) (fun ad r => x_settle E ad r (bI hb) Tt VB XB S0 P L a kp Wn hO (Sok.le hO hSo) hPl (by omega)) ad
    · exact Md.ans (lm_t E V' D' len T k' f' fa' VR' XR' (S', P', L', a') (w, l, lg, ll, Wj, Bj, fj, bp, G) K' kb' fn' hb F' b' (w, l, lg, ll, (itB (slI V' w l S' L' a') (0, P', false, Wj, Bj, fj, bp) 9).2.2.2.2.1, (itB (slI V' w l S' L' a') (0, P', false, Wj, Bj, fj, bp) 9).2.2.2.2.2.1, (itB (slI V' w l S' L' a') (0, P', false, Wj, Bj, fj, bp) 9).2.2.2.2.2.2.1, (itB (slI V' w l S' L' a') (0, P', false, Wj, Bj, fj, bp) 9).2.2.2.2.2.2.2, G) (S', (itB (slI V' w l S' L' a') (0, P', false, Wj, Bj, fj, bp) 9).2.2.1, L', a') (fun ad r i => m_settle E ad r i V' w l lg ll Wj Bj fj bp G S' P' L' a' hO' (Sok.le hO' hSo') hPo' (by omega)) ad) hse.1.symm
  · have hR : R0 B VA XA len T fk pl (S0, P, L, a, kp, Wn) b W F hb Q0 Q1 Q2 V' D' tp' T' k' f' fa' (S', P', L', a') K' kb' hb' F' := hR
    obtain ⟨⟨ta, tb, tc, td, te⟩, ⟨hO, hV, hso, hst, hcl⟩, hN, ⟨s0, s1, s2⟩, ⟨fa1, fa2⟩, ⟨g1, g2, g3, g4⟩, ⟨l1, l2⟩⟩ := id hR
    subst tp' T' hb'
    have hO' : Vok V' := hO.eq' hV
    have hnp : npV V' = npV VA := hV.2.1.symm
    have hnh : nhV V' = nhV VA := hV.1.symm
    have hp5 : npV VA ≤ 5 := hO.2.1
    have hh5 : nhV VA ≤ 5 := hO.1
    have hSo : Sok VA S0 := hN.2.2.2.2.2.1
    have hPo : Pok VA P := hN.2.2.2.2.2.2.1
    have hPl : Ple P := hN.2.2.2.2.2.2.2.1
    have hps : psS S0 ≤ B := hN.2.2.2.2.2.2.2.2.1
    have hgb : ∀ W9 p, p < npV VA → Ib (ltS (gon VA L W9 S0) p) (-128) 127 := fun W9 p hp => gon_gb hO hN.2.2.2.2.2.2.2.2.2.1 hN.2.2.2.2.2.2.2.2.2.2 hp
    have hSo' : Sok V' S' := hN.Sok' hV
    have hPo' : Pok V' P' := hN.Pok' hV
    have hps' : psS S' ≤ B := hN.ps'
    have hq : Rq VA (ovr V' ((-1, -1, w, -1, false, l) : Ovr)) P P' L L' S0 S' := hN.Rq hO hV w l
    have hv : Rv VA V' ((-1, -1, w, -1, false, l) : Ovr) L L' S0 S' := ⟨hO, hq.2.1, hq.2.2.2.1, hq.2.2.2.2⟩
    have hse := se_eq (V0 := V') (w := w) (l := l) (L' := L') (S' := S') a' (0, P', false, Wj, Bj, fj, bp) L (npV VA) hnp 9 0 (stT Tt VA P L S0) rfl rfl hq rfl rfl
    have hsp := se_P 9 1 (stT Tt VA P L S0) hh5 ⟨hPo, hPl⟩
    refine ⟨(seF 9 1 (stT Tt VA P L S0)).2, (true, len, nx, kk, st, nu, nm, T, fk, pl, VA, XA, VB, XB, (S0, pT (seF 9 1 (stT Tt VA P L S0)).1, lT (seF 9 1 (stT Tt VA P L S0)).1, a, kp, Wn), (seF 9 1 (stT Tt VA P L S0)).1, b, Sl, W, F, hb, Q0, Q1, Q2), (V', D', len, T, k', f', fa', VR', XR', (S', (itB (slI V' w l S' L' a') (0, P', false, Wj, Bj, fj, bp) 9).2.2.1, L', a'), (w, l, lg, ll, (itB (slI V' w l S' L' a') (0, P', false, Wj, Bj, fj, bp) 9).2.2.2.2.1, (itB (slI V' w l S' L' a') (0, P', false, Wj, Bj, fj, bp) 9).2.2.2.2.2.1, (itB (slI V' w l S' L' a') (0, P', false, Wj, Bj, fj, bp) 9).2.2.2.2.2.2.1, (itB (slI V' w l S' L' a') (0, P', false, Wj, Bj, fj, bp) 9).2.2.2.2.2.2.2, G), K', kb', fn', hb, F', b'), (show R0 _ _ _ _ _ _ _ _ _ _ _ _ _ _ _ _ _ _ _ _ _ _ _ _ _ _ _ from ⟨⟨rfl, tb, rfl, td, te⟩, ⟨hO, hV, hso, hst, hcl⟩, (by
        obtain ⟨a1, a2, a3, a4, a5, a6, a7, a8, a9⟩ := hN.mono (show B ≤ B + 400 by omega)
        refine ⟨a1, fun p q hp hq => hse.2.2 p q hp hq, fun p hp => ?_, a4, a5, a6, hsp.1, hsp.2, a9⟩
        show lT (seF 9 1 (stT Tt VA P L S0)).1 p = L' p
        rw [hse.2.1]
        exact a3 p hp), ⟨s0.mono (by omega), s1.mono (by omega), s2.mono (by omega)⟩, ⟨fa1, fa2⟩, ⟨rfl, g2, g3, g4⟩, ⟨l1, l2⟩⟩), fun ad => ?_, fun ad => ?_⟩
    · exact lx_t1 E len nx kk st nu nm T fk pl VA XA VB XB (S0, P, L, a, kp, Wn) Tt b Sl W F hb Q0 Q1 Q2 (seF 9 1 (stT Tt VA P L S0)).1 (S0, pT (seF 9 1 (stT Tt VA P L S0)).1, lT (seF 9 1 (stT Tt VA P L S0)).1, a, kp, Wn) (fun ad r => x_settle E ad r (bI hb) Tt VA XA S0 P L a kp Wn hO (Sok.le hO hSo) hPl (by omega)) ad
    · exact Md.ans (lm_t E V' D' len T k' f' fa' VR' XR' (S', P', L', a') (w, l, lg, ll, Wj, Bj, fj, bp, G) K' kb' fn' hb F' b' (w, l, lg, ll, (itB (slI V' w l S' L' a') (0, P', false, Wj, Bj, fj, bp) 9).2.2.2.2.1, (itB (slI V' w l S' L' a') (0, P', false, Wj, Bj, fj, bp) 9).2.2.2.2.2.1, (itB (slI V' w l S' L' a') (0, P', false, Wj, Bj, fj, bp) 9).2.2.2.2.2.2.1, (itB (slI V' w l S' L' a') (0, P', false, Wj, Bj, fj, bp) 9).2.2.2.2.2.2.2, G) (S', (itB (slI V' w l S' L' a') (0, P', false, Wj, Bj, fj, bp) 9).2.2.1, L', a') (fun ad r i => m_settle E ad r i V' w l lg ll Wj Bj fj bp G S' P' L' a' hO' (Sok.le hO' hSo') hPo' (by omega)) ad) hse.1.symm
theorem rVF_Ri {len : Nat} {T : Nat → Nat} (hTa : ∀ k, T k < 256) : ∀ n (z : Rst len), Ri z → (rVF T n z).2.2.1 < 100000 := by
  intro n
  induction n with
  | zero => intro z h; exact h.1
  | succ n ih =>
    intro z h
    have hu : rVF T (n + 1) z = if tkK T len z.1.1 = 0 then (true, z) else if (rCl T z).1 then rVF T n (rCl T z).2 else rCl T z := rfl
    rw [hu]
    split
    · exact h.1
    · split
      · rename_i c; exact ih _ (rCl_go hTa h c).2
      · unfold rCl
        have hb := (Ro.bd hTa h).2.1
        split
        · split
          · exact tkV_lt hTa hb
          · exact hb
        · exact hb
theorem rVF_v {len : Nat} {T : Nat → Nat} (hTa : ∀ k, T k < 256) {v : Nat} (hv : v < 100000) {got : Int32} {VR : Vil} {XR : Vix} {b0 : Bool} {y : Rst len} (hy : rVF T (len + 1) (rV0 ((p0F len, tkV T len 0 v, got, VR, XR, 0, -1) : Rst len)) = (b0, y)) : y.2.1 < 100000 := by
  have h := rVF_Ri hTa (len + 1) (rV0 ((p0F len, tkV T len 0 v, got, VR, XR, 0, -1) : Rst len)) ⟨tkV_lt hTa hv, Nat.zero_le _, Nat.zero_le _⟩
  rw [hy] at h
  exact h
