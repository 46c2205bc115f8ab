/-! PAIRS: books -/
theorem i32_n (x : Int32) : ∃ n, x = nI n := by
  refine ⟨x.toBitVec.toNat, ?_⟩
  apply Int32.toBitVec_inj.mp
  show x.toBitVec = BitVec.ofNat 32 x.toBitVec.toNat
  rw [BitVec.ofNat_toNat, BitVec.setWidth_eq]
theorem rbF_v {T : Nat → Nat} {len : Nat} (hTa : ∀ k, T k < 256) : ∀ n (z : Bst len), z.2.1 < 100000 → (rbF T n z).2.2.1 < 100000 := by
  have hr : ∀ (p : Fin (len + 1)) (v : Nat) (got : Int32) (b : Bki), v < 100000 → (rbR T p v got b).2.2.1 < 100000 := fun p v got b hv => by
    have h1 : tkV T len (tkE T len p.1) v < 100000 := tkV_lt hTa hv
    have h2 : tkV T len (tkE T len (nxP T len p).1) (tkV T len (tkE T len p.1) v) < 100000 := tkV_lt hTa h1
    have h3 : tkV T len (tkE T len (nxP T len (nxP T len p)).1) (tkV T len (tkE T len (nxP T len p).1) (tkV T len (tkE T len p.1) v)) < 100000 := tkV_lt hTa h2
    unfold rbR
    split
    · split
      · split
        · unfold rbC
          split
          · exact tkV_lt hTa h3
          · exact h3
        · exact h2
      · exact h1
    · exact hv
  intro n
  induction n with
  | zero => intro z h; exact h
  | succ n ih =>
    intro z h
    have hu : rbF T (n + 1) z = if tkK T len z.1.1 = 0 then (true, z) else if (rbR T z.1 z.2.1 z.2.2.1 z.2.2.2).1 then rbF T n (rbR T z.1 z.2.1 z.2.2.1 z.2.2.2).2 else rbR T z.1 z.2.1 z.2.2.1 z.2.2.2 := rfl
    rw [hu]
    split
    · exact h
    · split
      · exact ih _ (hr _ _ _ _ h)
      · exact hr _ _ _ _ h
theorem bkR_99 {T : Nat → Nat} {len : Nat} {p : Fin (len + 1)} {b : Bki} (hb : ∀ k, k < b.1 → b.2.1 k ≤ 99 ∧ b.2.2.1 k < 5 ∧ b.2.2.2 k ≤ 5) : ∀ k, k < (bkR T p b).2.2.1 → (bkR T p b).2.2.2.1 k ≤ 99 ∧ (bkR T p b).2.2.2.2.1 k < 5 ∧ (bkR T p b).2.2.2.2.2 k ≤ 5 := by
  intro k
  have h0 := rnN_h (T := T) (len := len) (hi := 99) (p := p.1) (by decide)
  have h1 := rnN_h (T := T) (len := len) (hi := 4) (p := (rnP T 99 p).1) (by decide)
  have h2 := rnN_h (T := T) (len := len) (hi := 5) (p := (rnP T 4 (rnP T 99 p)).1) (by decide)
  unfold bkR
  split
  · rename_i c
    intro hk
    have hk : k < b.1 + 1 := hk
    show upN _ _ _ k ≤ 99 ∧ upN _ _ _ k < 5 ∧ upN _ _ _ k ≤ 5
    unfold upN
    have := c.1
    split
    · exact ⟨by omega, by omega, by omega⟩
    · exact hb k (by omega)
  · exact hb k
theorem bwF_99 {T : Nat → Nat} {len : Nat} : ∀ n (p : Fin (len + 1)) (b : Bki), (∀ k, k < b.1 → b.2.1 k ≤ 99 ∧ b.2.2.1 k < 5 ∧ b.2.2.2 k ≤ 5) → ∀ k, k < (bwF T n p b).2.2.1 → (bwF T n p b).2.2.2.1 k ≤ 99 ∧ (bwF T n p b).2.2.2.2.1 k < 5 ∧ (bwF T n p b).2.2.2.2.2 k ≤ 5 := by
  intro n
  induction n with
  | zero => intro p b hb; exact hb
  | succ n ih =>
    intro p b hb
    unfold bwF
    split
    · exact hb
    · split
      · exact ih _ _ (bkR_99 hb)
      · exact bkR_99 hb
set_option maxHeartbeats 4000000 in
set_option maxRecDepth 100000 in
theorem pr_book (E : EnvT) (B : Nat) (x : Xst) (m : Mst)  (hR : RR B x m) (hB : B < 2 ^ 28) : Pr E B mX9_book mX10_book [] x m := by
  obtain ⟨sw, len, nx, kk, st, nu, nm, T, fk, pl, VA, XA, VB, XB, ⟨S0, P, L, a, kp, Wn⟩, Tt, b, Sl, W, F, hb, Q0, Q1, Q2⟩ := x
  obtain ⟨V', D', tp', T', k', f', fa', VR', XR', ⟨S', P', L', a'⟩, ⟨w, l, lg, ll, Wj, Bj, fj, bp, G⟩, K', kb', fn', hb', F', b'⟩ := m
  cases sw
  · have hR : R0 B VB XB len T fk pl (S0, P, L, a, kp, Wn) b W F hb Q0 Q1 Q2 V' D' tp' T' k' f' fa' (S', P', L', a') K' kb' hb' F' := hR
    obtain ⟨⟨ta, tb, tc, td, te⟩, ⟨hO, hV, hso, hst, hcl⟩, hN, ⟨s0, s1, s2⟩, ⟨fa1, fa2⟩, ⟨g1, g2, g3, g4⟩, ⟨l1, l2⟩⟩ := id hR
    subst tp' T' hb'
    have hO' : Vok V' := hO.eq' hV
    have hnp : npV V' = npV VB := hV.2.1.symm
    have hnh : nhV V' = nhV VB := hV.1.symm
    have hp5 : npV VB ≤ 5 := hO.2.1
    have hh5 : nhV VB ≤ 5 := hO.1
    have hSo : Sok VB S0 := hN.2.2.2.2.2.1
    have hPo : Pok VB P := hN.2.2.2.2.2.2.1
    have hPl : Ple P := hN.2.2.2.2.2.2.2.1
    have hps : psS S0 ≤ B := hN.2.2.2.2.2.2.2.2.1
    have hgb : ∀ W9 p, p < npV VB → Ib (ltS (gon VB L W9 S0) p) (-128) 127 := fun W9 p hp => gon_gb hO hN.2.2.2.2.2.2.2.2.2.1 hN.2.2.2.2.2.2.2.2.2.2 hp
    have hSo' : Sok V' S' := hN.Sok' hV
    have hPo' : Pok V' P' := hN.Pok' hV
    have hps' : psS S' ≤ B := hN.ps'
    have hq : Rq VB (ovr V' ((-1, -1, w, -1, false, l) : Ovr)) P P' L L' S0 S' := hN.Rq hO hV w l
    have hv : Rv VB V' ((-1, -1, w, -1, false, l) : Ovr) L L' S0 S' := ⟨hO, hq.2.1, hq.2.2.2.1, hq.2.2.2.2⟩
    obtain ⟨yb, hyb⟩ : ∃ yb, bwF T 150 (p0F len) (0, b.2) = yb := ⟨_, rfl⟩
    obtain ⟨⟨bo, yr⟩, hyr⟩ : ∃ w9, rbF T (len + 1) (p0F len, tkV T len 0 k'.2.2.2.2.1, k'.2.2.2.2.2, 0, b'.2) = w9 := ⟨_, rfl⟩
    have hbe := book_eq tb td 150 (len + 1) (p0F len) (tkV T len 0 k'.2.2.2.2.1) k'.2.2.2.2.2 (0, b.2) (0, b'.2) rfl (fun h => tkV_N (p := 0) h) (tkV_lt td te) ⟨rfl, fun k hk => absurd hk (Nat.not_lt_zero _)⟩ (Nat.zero_le _) (by omega)
    have hvv := rbF_v td (len + 1) (p0F len, tkV T len 0 k'.2.2.2.2.1, k'.2.2.2.2.2, 0, b'.2) (tkV_lt td te)
    have hbo := bwF_ok (T := T) 150 (p0F len) (0, b.2) l1
    have hb1 := bwF_1 (T := T) 150 (p0F len) (0, b.2)
    have hb9 := bwF_99 (T := T) 150 (p0F len) (0, b.2) (fun k hk => absurd hk (Nat.not_lt_zero _))
    rw [hyb] at hbe hbo hb1 hb9
    rw [hyr] at hbe hvv
    have hs150 : yb.2.2.1 ≤ 150 := by have e : ((0, b.2) : Bki).1 = 0 := rfl; omega
    obtain ⟨ja, hja⟩ := i32_n (fj 56)
    cases bo
    · refine ⟨-1000, (false, 0, (tkE T len yb.2.1.1), (tkK T len yb.2.1.1), (tkS T len yb.2.1.1), (tkN T len yb.2.1.1), (tkM T len yb.2.1.1), T, fk, pl, VA, XA, VB, XB, (S0, P, L, a, kp, Wn), Tt, yb.2.2, Sl, W, F, hb, Q0, Q1, Q2), (V', D', 0, T, (len, tkS T len yr.1.1, tkE T len yr.1.1, tkH T len yr.1.1, yr.2.1, yr.2.2.1), f', fa', VR', XR', (S', P', L', a'), (w, l, lg, ll, Wj, Bj, fj, bp, G), K', kb', fn', hb, F', yr.2.2.2), (show R0 _ _ _ _ _ _ _ _ _ _ _ _ _ _ _ _ _ _ _ _ _ _ _ _ _ _ _ from ⟨⟨rfl, Nat.zero_le _, rfl, td, hvv⟩, ⟨hO, hV, hso, hst, hcl⟩, hN.mono (by omega), ⟨s0.mono (by omega), s1.mono (by omega), s2.mono (by omega)⟩, ⟨fa1, fa2⟩, ⟨rfl, g2, g3, g4⟩, ⟨hbo, l2⟩⟩), fun ad => ?_, fun ad => ?_⟩
      · exact lx_b0 E len nx kk st nu nm T fk pl VA XA VB XB (S0, P, L, a, kp, Wn) Tt b Sl W F hb Q0 Q1 Q2 0 (tkE T len yb.2.1.1) (tkK T len yb.2.1.1) (tkS T len yb.2.1.1) (tkN T len yb.2.1.1) (tkM T len yb.2.1.1) yb.2.2 Sl W (fun ad r => x_bookN E ad r (bI hb) len nx kk st nu nm T b Sl W VB XB (S0, P, L, a, kp, Wn) tb td yb hyb hbe.1) ad
      · exact m_bookN E ad V' D' len T k' f' fa' VR' XR' (S', P', L', a') (w, l, lg, ll, Wj, Bj, fj, bp, G) K' kb' fn' hb F' b' tb td te yr hyr
    · have hq2 : Bq yb.2.2 yr.2.2.2 := hbe.2 rfl
      have hbr : ∀ j, j < yr.2.2.2.1 → yr.2.2.2.2.1 j ≤ 99 ∧ yr.2.2.2.2.2.1 j < 5 ∧ yr.2.2.2.2.2.2 j ≤ 5 := fun j hj => by
        have hj2 : j < yb.2.2.1 := by rw [hq2.1]; exact hj
        have := hq2.2 j hj2
        rw [← this.1, ← this.2.1, ← this.2.2]
        exact hb9 j hj2
      have hgg : gdF VB yb.2.2 yb.2.2.1 0 = goF V' yr.2.2.2 yr.2.2.2.1 0 := by
        rw [← hq2.1]
        exact gd_go hV (N := yb.2.2.1) (fun k hk => hq2.2 k hk) yb.2.2.1 0 (by omega) (fun k hk => by omega)
      have hgl := gdF_le VB yb.2.2 yb.2.2.1 0
      have hin : ∀ k, k < gdF VB yb.2.2 yb.2.2.1 0 → yb.2.2.2.2.1 k < npV VB := fun k hk => inC_p (gdF_in VB yb.2.2 yb.2.2.1 0 k (Nat.zero_le _) hk)
      have hLL : ∀ p, p < npV VB → L p = (pre L' (bpL (fun _ => 0) 5) (npV V')) p := fun p hp => by rw [pre_n (by rw [hnp]; exact hp)]; exact hN.2.2.1 p hp
      have hfc : (fcY VB XB L yb.2.2 W).1 = (fcG V' (ovr V' ((-1, -1, w, -1, false, l) : Ovr)) (pre L' (bpL (fun _ => 0) 5) (npV V')) yr.2.2.2 (goF V' yr.2.2.2 yr.2.2.2.1 0) 100 0 (bgS (nhV V') (npV V') D'.1 D'.2.1 (hoV V')) Wj Bj).1 := by
        rw [← hgg]
        exact fc_eq hO hV hq.2.1 hLL (fun k hk => hq2.2 k (by omega)) hin 100 0 (sBeg VB XB) (bgS (nhV V') (npV V') D'.1 D'.2.1 (hoV V')) W Wj Bj (Nat.zero_le _) (beg_eq hO hV hso hst)
      have hw5 : ∀ k, (fcY VB XB L yb.2.2 W).2.2 k ≤ 5 := fcF_le (fun k => (hbo k).2.2) 100 0 (sBeg VB XB) W (Nat.zero_le _) (fun p hp => by show hoV VB p ≤ 5; have := hO.2.2.2.1 p hp; omega) l2
      refine ⟨fcH yb.2.2 (gdF VB yb.2.2 yb.2.2.1 0) (fcY VB XB L yb.2.2 W).1, (false, 0, (tkE T len yb.2.1.1), (tkK T len yb.2.1.1), (tkS T len yb.2.1.1), (tkN T len yb.2.1.1), (tkM T len yb.2.1.1), T, fk, pl, VA, XA, VB, XB, (S0, P, L, a, kp, Wn), Tt, yb.2.2, (fcY VB XB L yb.2.2 W).2.1, (fcY VB XB L yb.2.2 W).2.2, F, hb, Q0, Q1, Q2), (V', D', 0, T, (len, tkS T len yr.1.1, tkE T len yr.1.1, tkH T len yr.1.1, yr.2.1, yr.2.2.1), f', fa', VR', XR', (S', P', L', a'), (w, l, lg, ll, (fcG V' (ovr V' ((-1, -1, w, -1, false, l) : Ovr)) (pre L' (bpL (fun _ => 0) 5) (npV V')) yr.2.2.2 (goF V' yr.2.2.2 yr.2.2.2.1 0) 100 0 (bgS (nhV V') (npV V') D'.1 D'.2.1 (hoV V')) Wj Bj).2.2.1, (fcG V' (ovr V' ((-1, -1, w, -1, false, l) : Ovr)) (pre L' (bpL (fun _ => 0) 5) (npV V')) yr.2.2.2 (goF V' yr.2.2.2 yr.2.2.2.1 0) 100 0 (bgS (nhV V') (npV V') D'.1 D'.2.1 (hoV V')) Wj Bj).2.2.2, rwF (fcG V' (ovr V' ((-1, -1, w, -1, false, l) : Ovr)) (pre L' (bpL (fun _ => 0) 5) (npV V')) yr.2.2.2 (goF V' yr.2.2.2 yr.2.2.2.1 0) 100 0 (bgS (nhV V') (npV V') D'.1 D'.2.1 (hoV V')) Wj Bj).2.1 (bpP (npV V') (hoV V') (fun _ => 0) 5) (pre L' (bpL (fun _ => 0) 5) (npV V')) ja, bp, G), K', kb', fn', hb, F', yr.2.2.2), (show R0 _ _ _ _ _ _ _ _ _ _ _ _ _ _ _ _ _ _ _ _ _ _ _ _ _ _ _ from ⟨⟨rfl, Nat.zero_le _, rfl, td, hvv⟩, ⟨hO, hV, hso, hst, hcl⟩, hN.mono (by omega), ⟨s0.mono (by omega), s1.mono (by omega), s2.mono (by omega)⟩, ⟨fa1, fa2⟩, ⟨rfl, g2, g3, g4⟩, ⟨hbo, hw5⟩⟩), fun ad => ?_, fun ad => ?_⟩
      · exact lx_b0 E len nx kk st nu nm T fk pl VA XA VB XB (S0, P, L, a, kp, Wn) Tt b Sl W F hb Q0 Q1 Q2 0 (tkE T len yb.2.1.1) (tkK T len yb.2.1.1) (tkS T len yb.2.1.1) (tkN T len yb.2.1.1) (tkM T len yb.2.1.1) yb.2.2 (fcY VB XB L yb.2.2 W).2.1 (fcY VB XB L yb.2.2 W).2.2 (fun ad r => x_bookY E ad r (bI hb) len nx kk st nu nm T b Sl W VB XB (S0, P, L, a, kp, Wn) tb td yb hyb hbe.1 l1 hO l2) ad
      · exact Md.ans (m_bookY E ad V' D' len T k' f' fa' VR' XR' (S', P', L', a') (w, l, lg, ll, Wj, Bj, fj, bp, G) K' kb' fn' hb F' b' tb td te yr ja (bgS (nhV V') (npV V') D'.1 D'.2.1 (hoV V')) (bpP (npV V') (hoV V') (fun _ => 0) 5) (bpL (fun _ => 0) 5) rfl rfl rfl hyr hbr (by rw [← hq2.1]; exact hs150) hO' hja) (by
          rw [hfc, hgg]
          unfold fcH
          rw [← hq2.1])
  · have hR : R0 B VA XA len T fk pl (S0, P, L, a, kp, Wn) b W F hb Q0 Q1 Q2 V' D' tp' T' k' f' fa' (S', P', L', a') K' kb' hb' F' := hR
    obtain ⟨⟨ta, tb, tc, td, te⟩, ⟨hO, hV, hso, hst, hcl⟩, hN, ⟨s0, s1, s2⟩, ⟨fa1, fa2⟩, ⟨g1, g2, g3, g4⟩, ⟨l1, l2⟩⟩ := id hR
    subst tp' T' hb'
    have hO' : Vok V' := hO.eq' hV
    have hnp : npV V' = npV VA := hV.2.1.symm
    have hnh : nhV V' = nhV VA := hV.1.symm
    have hp5 : npV VA ≤ 5 := hO.2.1
    have hh5 : nhV VA ≤ 5 := hO.1
    have hSo : Sok VA S0 := hN.2.2.2.2.2.1
    have hPo : Pok VA P := hN.2.2.2.2.2.2.1
    have hPl : Ple P := hN.2.2.2.2.2.2.2.1
    have hps : psS S0 ≤ B := hN.2.2.2.2.2.2.2.2.1
    have hgb : ∀ W9 p, p < npV VA → Ib (ltS (gon VA L W9 S0) p) (-128) 127 := fun W9 p hp => gon_gb hO hN.2.2.2.2.2.2.2.2.2.1 hN.2.2.2.2.2.2.2.2.2.2 hp
    have hSo' : Sok V' S' := hN.Sok' hV
    have hPo' : Pok V' P' := hN.Pok' hV
    have hps' : psS S' ≤ B := hN.ps'
    have hq : Rq VA (ovr V' ((-1, -1, w, -1, false, l) : Ovr)) P P' L L' S0 S' := hN.Rq hO hV w l
    have hv : Rv VA V' ((-1, -1, w, -1, false, l) : Ovr) L L' S0 S' := ⟨hO, hq.2.1, hq.2.2.2.1, hq.2.2.2.2⟩
    obtain ⟨yb, hyb⟩ : ∃ yb, bwF T 150 (p0F len) (0, b.2) = yb := ⟨_, rfl⟩
    obtain ⟨⟨bo, yr⟩, hyr⟩ : ∃ w9, rbF T (len + 1) (p0F len, tkV T len 0 k'.2.2.2.2.1, k'.2.2.2.2.2, 0, b'.2) = w9 := ⟨_, rfl⟩
    have hbe := book_eq tb td 150 (len + 1) (p0F len) (tkV T len 0 k'.2.2.2.2.1) k'.2.2.2.2.2 (0, b.2) (0, b'.2) rfl (fun h => tkV_N (p := 0) h) (tkV_lt td te) ⟨rfl, fun k hk => absurd hk (Nat.not_lt_zero _)⟩ (Nat.zero_le _) (by omega)
    have hvv := rbF_v td (len + 1) (p0F len, tkV T len 0 k'.2.2.2.2.1, k'.2.2.2.2.2, 0, b'.2) (tkV_lt td te)
    have hbo := bwF_ok (T := T) 150 (p0F len) (0, b.2) l1
    have hb1 := bwF_1 (T := T) 150 (p0F len) (0, b.2)
    have hb9 := bwF_99 (T := T) 150 (p0F len) (0, b.2) (fun k hk => absurd hk (Nat.not_lt_zero _))
    rw [hyb] at hbe hbo hb1 hb9
    rw [hyr] at hbe hvv
    have hs150 : yb.2.2.1 ≤ 150 := by have e : ((0, b.2) : Bki).1 = 0 := rfl; omega
    obtain ⟨ja, hja⟩ := i32_n (fj 56)
    cases bo
    · refine ⟨-1000, (true, 0, (tkE T len yb.2.1.1), (tkK T len yb.2.1.1), (tkS T len yb.2.1.1), (tkN T len yb.2.1.1), (tkM T len yb.2.1.1), T, fk, pl, VA, XA, VB, XB, (S0, P, L, a, kp, Wn), Tt, yb.2.2, Sl, W, F, hb, Q0, Q1, Q2), (V', D', 0, T, (len, tkS T len yr.1.1, tkE T len yr.1.1, tkH T len yr.1.1, yr.2.1, yr.2.2.1), f', fa', VR', XR', (S', P', L', a'), (w, l, lg, ll, Wj, Bj, fj, bp, G), K', kb', fn', hb, F', yr.2.2.2), (show R0 _ _ _ _ _ _ _ _ _ _ _ _ _ _ _ _ _ _ _ _ _ _ _ _ _ _ _ from ⟨⟨rfl, Nat.zero_le _, rfl, td, hvv⟩, ⟨hO, hV, hso, hst, hcl⟩, hN.mono (by omega), ⟨s0.mono (by omega), s1.mono (by omega), s2.mono (by omega)⟩, ⟨fa1, fa2⟩, ⟨rfl, g2, g3, g4⟩, ⟨hbo, l2⟩⟩), fun ad => ?_, fun ad => ?_⟩
      · exact lx_b1 E len nx kk st nu nm T fk pl VA XA VB XB (S0, P, L, a, kp, Wn) Tt b Sl W F hb Q0 Q1 Q2 0 (tkE T len yb.2.1.1) (tkK T len yb.2.1.1) (tkS T len yb.2.1.1) (tkN T len yb.2.1.1) (tkM T len yb.2.1.1) yb.2.2 Sl W (fun ad r => x_bookN E ad r (bI hb) len nx kk st nu nm T b Sl W VA XA (S0, P, L, a, kp, Wn) tb td yb hyb hbe.1) ad
      · exact m_bookN E ad V' D' len T k' f' fa' VR' XR' (S', P', L', a') (w, l, lg, ll, Wj, Bj, fj, bp, G) K' kb' fn' hb F' b' tb td te yr hyr
    · have hq2 : Bq yb.2.2 yr.2.2.2 := hbe.2 rfl
      have hbr : ∀ j, j < yr.2.2.2.1 → yr.2.2.2.2.1 j ≤ 99 ∧ yr.2.2.2.2.2.1 j < 5 ∧ yr.2.2.2.2.2.2 j ≤ 5 := fun j hj => by
        have hj2 : j < yb.2.2.1 := by rw [hq2.1]; exact hj
        have := hq2.2 j hj2
        rw [← this.1, ← this.2.1, ← this.2.2]
        exact hb9 j hj2
      have hgg : gdF VA yb.2.2 yb.2.2.1 0 = goF V' yr.2.2.2 yr.2.2.2.1 0 := by
        rw [← hq2.1]
        exact gd_go hV (N := yb.2.2.1) (fun k hk => hq2.2 k hk) yb.2.2.1 0 (by omega) (fun k hk => by omega)
      have hgl := gdF_le VA yb.2.2 yb.2.2.1 0
      have hin : ∀ k, k < gdF VA yb.2.2 yb.2.2.1 0 → yb.2.2.2.2.1 k < npV VA := fun k hk => inC_p (gdF_in VA yb.2.2 yb.2.2.1 0 k (Nat.zero_le _) hk)
      have hLL : ∀ p, p < npV VA → L p = (pre L' (bpL (fun _ => 0) 5) (npV V')) p := fun p hp => by rw [pre_n (by rw [hnp]; exact hp)]; exact hN.2.2.1 p hp
      have hfc : (fcY VA XA L yb.2.2 W).1 = (fcG V' (ovr V' ((-1, -1, w, -1, false, l) : Ovr)) (pre L' (bpL (fun _ => 0) 5) (npV V')) yr.2.2.2 (goF V' yr.2.2.2 yr.2.2.2.1 0) 100 0 (bgS (nhV V') (npV V') D'.1 D'.2.1 (hoV V')) Wj Bj).1 := by
        rw [← hgg]
        exact fc_eq hO hV hq.2.1 hLL (fun k hk => hq2.2 k (by omega)) hin 100 0 (sBeg VA XA) (bgS (nhV V') (npV V') D'.1 D'.2.1 (hoV V')) W Wj Bj (Nat.zero_le _) (beg_eq hO hV hso hst)
      have hw5 : ∀ k, (fcY VA XA L yb.2.2 W).2.2 k ≤ 5 := fcF_le (fun k => (hbo k).2.2) 100 0 (sBeg VA XA) W (Nat.zero_le _) (fun p hp => by show hoV VA p ≤ 5; have := hO.2.2.2.1 p hp; omega) l2
      refine ⟨fcH yb.2.2 (gdF VA yb.2.2 yb.2.2.1 0) (fcY VA XA L yb.2.2 W).1, (true, 0, (tkE T len yb.2.1.1), (tkK T len yb.2.1.1), (tkS T len yb.2.1.1), (tkN T len yb.2.1.1), (tkM T len yb.2.1.1), T, fk, pl, VA, XA, VB, XB, (S0, P, L, a, kp, Wn), Tt, yb.2.2, (fcY VA XA L yb.2.2 W).2.1, (fcY VA XA L yb.2.2 W).2.2, F, hb, Q0, Q1, Q2), (V', D', 0, T, (len, tkS T len yr.1.1, tkE T len yr.1.1, tkH T len yr.1.1, yr.2.1, yr.2.2.1), f', fa', VR', XR', (S', P', L', a'), (w, l, lg, ll, (fcG V' (ovr V' ((-1, -1, w, -1, false, l) : Ovr)) (pre L' (bpL (fun _ => 0) 5) (npV V')) yr.2.2.2 (goF V' yr.2.2.2 yr.2.2.2.1 0) 100 0 (bgS (nhV V') (npV V') D'.1 D'.2.1 (hoV V')) Wj Bj).2.2.1, (fcG V' (ovr V' ((-1, -1, w, -1, false, l) : Ovr)) (pre L' (bpL (fun _ => 0) 5) (npV V')) yr.2.2.2 (goF V' yr.2.2.2 yr.2.2.2.1 0) 100 0 (bgS (nhV V') (npV V') D'.1 D'.2.1 (hoV V')) Wj Bj).2.2.2, rwF (fcG V' (ovr V' ((-1, -1, w, -1, false, l) : Ovr)) (pre L' (bpL (fun _ => 0) 5) (npV V')) yr.2.2.2 (goF V' yr.2.2.2 yr.2.2.2.1 0) 100 0 (bgS (nhV V') (npV V') D'.1 D'.2.1 (hoV V')) Wj Bj).2.1 (bpP (npV V') (hoV V') (fun _ => 0) 5) (pre L' (bpL (fun _ => 0) 5) (npV V')) ja, bp, G), K', kb', fn', hb, F', yr.2.2.2), (show R0 _ _ _ _ _ _ _ _ _ _ _ _ _ _ _ _ _ _ _ _ _ _ _ _ _ _ _ from ⟨⟨rfl, Nat.zero_le _, rfl, td, hvv⟩, ⟨hO, hV, hso, hst, hcl⟩, hN.mono (by omega), ⟨s0.mono (by omega), s1.mono (by omega), s2.mono (by omega)⟩, ⟨fa1, fa2⟩, ⟨rfl, g2, g3, g4⟩, ⟨hbo, hw5⟩⟩), fun ad => ?_, fun ad => ?_⟩
      · exact lx_b1 E len nx kk st nu nm T fk pl VA XA VB XB (S0, P, L, a, kp, Wn) Tt b Sl W F hb Q0 Q1 Q2 0 (tkE T len yb.2.1.1) (tkK T len yb.2.1.1) (tkS T len yb.2.1.1) (tkN T len yb.2.1.1) (tkM T len yb.2.1.1) yb.2.2 (fcY VA XA L yb.2.2 W).2.1 (fcY VA XA L yb.2.2 W).2.2 (fun ad r => x_bookY E ad r (bI hb) len nx kk st nu nm T b Sl W VA XA (S0, P, L, a, kp, Wn) tb td yb hyb hbe.1 l1 hO l2) ad
      · exact Md.ans (m_bookY E ad V' D' len T k' f' fa' VR' XR' (S', P', L', a') (w, l, lg, ll, Wj, Bj, fj, bp, G) K' kb' fn' hb F' b' tb td te yr ja (bgS (nhV V') (npV V') D'.1 D'.2.1 (hoV V')) (bpP (npV V') (hoV V') (fun _ => 0) 5) (bpL (fun _ => 0) 5) rfl rfl rfl hyr hbr (by rw [← hq2.1]; exact hs150) hO' hja) (by
          rw [hfc, hgg]
          unfold fcH
          rw [← hq2.1])
