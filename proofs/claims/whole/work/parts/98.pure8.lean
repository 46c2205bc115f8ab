/-! SETTLING -/
theorem st_eq {X : Tst} {V0 : Vil} {w : Int32} {l : Bool} {L' : Nat → Int32} {S' : Scn} (a : Nat) (q : Slt) (h : Rq (vT X) (ovr V0 (-1, -1, w, -1, false, l)) (pT X) q.1 (lT X) L' (oT X) S') {p : Nat} (hp : p < npV (vT X)) : Rq (vT (stP X p).1) (ovr V0 (-1, -1, w, -1, false, l)) (pT (stP X p).1) (slS V0 w l S' L' a q p).1 (lT (stP X p).1) L' (oT (stP X p).1) S' ∧ (slS V0 w l S' L' a q p).2.1 = (q.2.1 || (stP X p).2) ∧ vT (stP X p).1 = vT X ∧ lT (stP X p).1 = lT X := by
  have hs := sm_eq h hp q.2.2.1 q.2.2.2.1
  obtain ⟨f1, -, f3, f4, f5, -⟩ := fbT_same (rqT X 4) p
  have hb := fb_eq (V := vT X) (V' := V0) (o := (-1, -1, w, -1, false, l)) (P := pT X) (P' := q.1) (L := lT X) (L' := L') (S := oT X) (S' := S') (p := p) (T := rqT X 4) h.1 h.2.1 h.2.2.1 h.2.2.2.1 h.2.2.2.2 hp rfl rfl rfl rfl a (mgF V0 (-1, -1, w, -1, false, l) q.1 L' (S', q.2.2.1, q.2.2.2.1) 4).2.1 (mgF V0 (-1, -1, w, -1, false, l) q.1 L' (S', q.2.2.1, q.2.2.2.1) 4).2.2 (rwF (mgF V0 (-1, -1, w, -1, false, l) q.1 L' (S', q.2.2.1, q.2.2.2.1) 4).1 q.1 L' a)
  unfold slS stP
  rw [hs]
  generalize fmR V0 (-1, -1, w, -1, false, l) S' q.1 L' a p (mgF V0 (-1, -1, w, -1, false, l) q.1 L' (S', q.2.2.1, q.2.2.2.1) 4).2.1 (mgF V0 (-1, -1, w, -1, false, l) q.1 L' (S', q.2.2.1, q.2.2.2.1) 4).2.2 (rwF (mgF V0 (-1, -1, w, -1, false, l) q.1 L' (S', q.2.2.1, q.2.2.2.1) 4).1 q.1 L' a) = F at *
  generalize smR V0 (-1, -1, w, -1, false, l) q.1 L' (S', q.2.2.1, q.2.2.2.1) p = s at *
  generalize fbT (rqT X 4) p = R at *
  have f1 : vT R = vT X := f1
  have f3 : pT R = pT X := f3
  have f4 : lT R = lT X := f4
  have f5 : oT R = oT X := f5
  rw [hb.1]
  by_cases hc : s < F.1
  · rw [if_pos hc, if_pos hc, if_pos hc]
    refine ⟨?_, (Bool.or_true _).symm, f1, f4⟩
    show Rq (vT R) _ (pbF R p 4) (psP q.1 p (pbR V0 F.2.1 q.2.2.2.2.2)) (lT R) L' (oT R) S'
    rw [f1, f4, f5]
    have hu : pbF R p 4 = upN (upN (upN (upN (pT R) (p * 4 + 0) (bpl R 0)) (p * 4 + 1) (bpl R 1)) (p * 4 + 2) (bpl R 2)) (p * 4 + 3) (bpl R 3) := rfl
    rw [hu, f3, hb.2 q.2.2.2.2.2 0 (by decide), hb.2 q.2.2.2.2.2 1 (by decide), hb.2 q.2.2.2.2.2 2 (by decide), hb.2 q.2.2.2.2.2 3 (by decide)]
    exact (((h.plan p 0 _).plan p 1 _).plan p 2 _).plan p 3 _
  · rw [if_neg hc, if_neg hc, if_neg hc]
    refine ⟨?_, (Bool.or_false _).symm, f1, f4⟩
    show Rq (vT R) _ (pT R) q.1 (lT R) L' (oT R) S'
    rw [f1, f3, f4, f5]
    exact h
theorem rd_eq {X : Tst} {V0 : Vil} {w : Int32} {l : Bool} {L' : Nat → Int32} {S' : Scn} (a : Nat) (q : Slt) (hq : q.2.1 = false) (h : Rq (vT X) (ovr V0 (-1, -1, w, -1, false, l)) (pT X) q.1 (lT X) L' (oT X) S') : ∀ n, n ≤ npV (vT X) → Rq (vT (rdF X n).1) (ovr V0 (-1, -1, w, -1, false, l)) (pT (rdF X n).1) (slR V0 w l S' L' a q n).1 (lT (rdF X n).1) L' (oT (rdF X n).1) S' ∧ (slR V0 w l S' L' a q n).2.1 = (rdF X n).2 ∧ vT (rdF X n).1 = vT X ∧ lT (rdF X n).1 = lT X := by
  intro n
  induction n with
  | zero => intro _; exact ⟨h, hq, rfl, rfl⟩
  | succ n ih =>
    intro hn
    obtain ⟨i1, i2, i3, i4⟩ := ih (by omega)
    have hu : rdF X (n + 1) = ((stP (rdF X n).1 n).1, (rdF X n).2 || (stP (rdF X n).1 n).2) := rfl
    have hw : slR V0 w l S' L' a q (n + 1) = slS V0 w l S' L' a (slR V0 w l S' L' a q n) n := rfl
    rw [hu, hw]
    obtain ⟨j1, j2, j3, j4⟩ := st_eq a (slR V0 w l S' L' a q n) i1 (p := n) (by rw [i3]; omega)
    exact ⟨j1, by rw [j2, i2], j3.trans i3, j4.trans i4⟩
theorem se_eq {V0 : Vil} {w : Int32} {l : Bool} {L' : Nat → Int32} {S' : Scn} (a : Nat) (s : Nat × Slt) (LL : Nat → Int32) (np : Nat) (hnp0 : npV V0 = np) : ∀ (n j : Nat) (X : Tst), j + n = 9 → (itB (slI V0 w l S' L' a) s j).1 = true → Rq (vT X) (ovr V0 (-1, -1, w, -1, false, l)) (pT X) (itB (slI V0 w l S' L' a) s j).2.2.1 (lT X) L' (oT X) S' → lT X = LL → npV (vT X) = np →
    (seF n (j + 1) X).2 = (if (itB (slI V0 w l S' L' a) s 9).1 then -1 else nI (itB (slI V0 w l S' L' a) s 9).2.1) ∧ lT (seF n (j + 1) X).1 = LL ∧ (∀ p q, p < np → q < 4 → pT (seF n (j + 1) X).1 (p * 4 + q) = (itB (slI V0 w l S' L' a) s 9).2.2.1 (p * 4 + q)) := by
  intro n
  induction n with
  | zero =>
    intro j X hj h1 hR hL hnp
    have hj : j = 9 := by omega
    subst hj
    rw [if_pos h1]
    exact ⟨rfl, hL, fun p q hp hq => hR.2.2.1 p q (by omega) hq⟩
  | succ n ih =>
    intro j X hj h1 hR hL hnp
    have hu : seF (n + 1) (j + 1) X = if (rdF X (npV (vT X))).2 then seF n (j + 1 + 1) (rdF X (npV (vT X))).1 else ((rdF X (npV (vT X))).1, nI (j + 1)) := rfl
    have hs := itB_s h1
    have hfr : ∀ {i : Nat}, i ≤ 9 → (itB (slI V0 w l S' L' a) s i).1 = false → itB (slI V0 w l S' L' a) s 9 = itB (slI V0 w l S' L' a) s i := fun h h' => itB_fr h h'
    have hf2 := hfr (i := j + 1) (by omega)
    have ih := ih (j + 1) (rdF X (npV (vT X))).1 (by omega)
    rw [hs] at ih hf2
    obtain ⟨r1, r2, r3, r4⟩ := rd_eq a ((itB (slI V0 w l S' L' a) s j).2.2.1, false, (itB (slI V0 w l S' L' a) s j).2.2.2.2) rfl hR (npV (vT X)) (Nat.le_refl _)
    generalize (itB (slI V0 w l S' L' a) s j).2 = q at *
    rw [hnp, ← hnp0] at r2 r1
    have b1 : (slI V0 w l S' L' a j q).1 = (slR V0 w l S' L' a (q.2.1, false, q.2.2.2) (npV V0)).2.1 := rfl
    have b2 : (slI V0 w l S' L' a j q).2.2.1 = (slR V0 w l S' L' a (q.2.1, false, q.2.2.2) (npV V0)).1 := rfl
    have b3 : (slI V0 w l S' L' a j q).2.1 = j + 1 := rfl
    rw [hu]
    rw [hnp, ← hnp0] at ih ⊢
    rw [hnp, ← hnp0] at r3 r4
    by_cases hc : (rdF X (npV V0)).2 = true
    · rw [if_pos hc]
      exact ih (b1.trans (r2.trans hc)) (by rw [b2]; exact r1) (r4.trans hL) (by rw [r3, hnp, hnp0])
    · have hcf : (rdF X (npV V0)).2 = false := by cases hx : (rdF X (npV V0)).2 with | false => rfl | true => exact absurd hx hc
      have hE := hf2 (b1.trans (r2.trans hcf))
      rw [if_neg hc, hE, if_neg (by rw [b1, r2, hcf]; exact nft), b3]
      refine ⟨rfl, r4.trans hL, fun p q2 hp hq => ?_⟩
      rw [b2]
      exact r1.2.2.1 p q2 (by rw [r3, hnp, ← hnp0]; exact hp) hq
