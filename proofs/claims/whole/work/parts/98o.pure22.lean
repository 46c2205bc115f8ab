/-! TELLING: persons, works, ties, rules -/
theorem pt_ti (n : Nat) (ti : Nat → Int32) (tt : Int32) : ∀ k j, (ptF n ti tt k).1 j = if 5 * n ≤ j ∧ j < 5 * n + k then nI 0 else ti j := by
  intro k
  induction k with
  | zero => intro j; rw [if_neg (by omega)]; rfl
  | succ k ih =>
    intro j
    show upd (ptF n ti tt k).1 (5 * n + k) (nI 0) j = _
    by_cases e : j = 5 * n + k
    · subst e; rw [upd_self, if_pos (by omega)]
    · rw [upd_ne _ _ e, ih j]
      by_cases c : 5 * n ≤ j ∧ j < 5 * n + k
      · rw [if_pos c, if_pos (by omega)]
      · rw [if_neg c, if_neg (by omega)]
theorem pt_tt (n : Nat) (ti : Nat → Int32) (tt : Int32) (hn : n < 5) : ∀ k, k ≤ 5 → ∀ m, m < 25 → bt (ptF n ti tt k).2 m = (bt tt m && !decide (5 * n ≤ m ∧ m < 5 * n + k)) := by
  intro k
  induction k with
  | zero => intro _ m _; rw [decide_eq_false (by omega), Bool.not_false, Bool.and_true]; rfl
  | succ k ih =>
    intro hk m hm
    show bt ((ptF n ti tt k).2 &&& ((nI 1 <<< (nI (5 * n + k) &&& 31)) ^^^ (-1))) m = _
    rw [bt_cl _ (by omega) (by omega), ih (by omega) m hm, Bool.and_assoc]
    congr 1
    by_cases e : m = 5 * n + k
    · rw [decide_eq_true e, decide_eq_true (show 5 * n ≤ m ∧ m < 5 * n + (k + 1) by omega)]
      rw [Bool.not_true, Bool.and_false]
    · by_cases c : 5 * n ≤ m ∧ m < 5 * n + k
      · rw [decide_eq_true c, decide_eq_true (show 5 * n ≤ m ∧ m < 5 * n + (k + 1) by omega), Bool.not_true, Bool.false_and]
      · rw [decide_eq_false c, decide_eq_false e, decide_eq_false (show ¬ (5 * n ≤ m ∧ m < 5 * n + (k + 1)) by omega), Bool.not_false, Bool.and_true]
/-- one more person, whose house is c (5: none) -/
theorem Vr_ps {V V' : Vil} {X X' : Vix} {n : Nat} (h : Vr V X V' X') (hn : n = npV V) (h5 : n < 5) (nm : Int64) (c : Nat) (hc : c = 5 ∨ (c < nhV V ∧ owV V c = 5)) (g g2 : Nat → Nat) (g' g2' : Nat → Nat) (hg : ∀ h, g h = if h = c ∧ c < 5 then n else owV V h) (hg' : ∀ h, h < nhV V → g' h = if h = c ∧ c < 5 then n else owV V' h) (hg2 : ∀ p, g2 p = if p = n then c else hoV V p) (hg2' : ∀ p, p < npV V + 1 → g2' p = if p = n then c else hoV V' p) : Vr (nhV V, npV V + 1, laV V, ruV V, woV V, g, g2, wkV V, tiV V) (X.1, X.2.1, X.2.2.1, X.2.2.2.1, X.2.2.2.2.1, X.2.2.2.2.2.1, vp_updL X.2.2.2.2.2.2 n nm) (nhV V', npV V' + 1, laV V', ruV V', woV V', g', g2', upd (wkV V') n (nI 0), (ptF n (tiV V') X'.2.2.1 5).1) (X'.1, X'.2.1, (ptF n (tiV V') X'.2.2.1 5).2, X'.2.2.2.1, X'.2.2.2.2.1, X'.2.2.2.2.2.1, vp_updL X'.2.2.2.2.2.2 n nm) := by
  obtain ⟨⟨a1, a2, a3, a4, a5, a6⟩, ⟨b1, b2, b3, b4, b5, b6⟩, ⟨c1, c2, c3, c4⟩, ⟨d1, d2, d3, d4⟩, ⟨e1, e2, e3, e4⟩, o1, o2, o3, o4, o5⟩ := h
  subst hn
  refine ⟨⟨a1, by show npV V + 1 = npV V' + 1; rw [a2], a3, a4, by show npV V + 1 ≤ 5; omega, a6.1, ⟨a6.2.1.1, fun p q hp hq => ?_, a6.2.1.2.2⟩, a6.2.2⟩, ⟨b1, b2, fun h hh => ?_, fun p hp => ?_, fun p hp => ?_, fun p q hp hq => ?_⟩, ⟨c1, c2, c3, fun p hp => ul_b nm (c4 p) hp⟩, ⟨d1, d2, fun m hm => ?_, fun p q hp hq hpq => d4 p q hp hq ?_⟩, ⟨fun h hh => ?_, fun p hp => ?_, fun p hp => ?_, fun p q hq hpq => ?_⟩, o1, by show npV V + 1 ≤ 5; omega, fun h hh => ?_, fun p hp => ?_, fun h p hh hp => ?_⟩
  · have hp : p < npV V + 1 := hp
    show Ib (tiV V (p * 5 + q)) (-10) 10
    by_cases e : p = npV V
    · rw [e4 p q hq (Or.inl (by omega))]; exact (Ib_n (n := 0) (b := 0) (by decide) (by decide)).mono (by decide) (by decide)
    · exact a6.2.1.2.1 p q (by omega) hq
  · show g h = g' h
    rw [hg, hg' h hh, b3 h hh]
  · have hp : p < npV V + 1 := hp
    show g2 p = g2' p
    rw [hg2, hg2' p hp]
    by_cases e : p = npV V
    · rw [if_pos e, if_pos e]
    · rw [if_neg e, if_neg e]; exact b4 p (by omega)
  · have hp : p < npV V + 1 := hp
    show wkV V p = upd (wkV V') (npV V) (nI 0) p
    by_cases e : p = npV V
    · subst e; rw [upd_self]; exact e3 _ (Nat.le_refl _)
    · rw [upd_ne _ _ e]; exact b5 p (by omega)
  · have hp : p < npV V + 1 := hp
    show tiV V (p * 5 + q) = (ptF (npV V) (tiV V') X'.2.2.1 5).1 (p * 5 + q)
    rw [pt_ti]
    by_cases e : p = npV V
    · subst e
      rw [if_pos (by omega)]
      exact e4 _ q hq (Or.inl (Nat.le_refl _))
    · rw [if_neg (by omega)]
      exact b6 p q (by omega) hq
  · show bt X.2.2.1 m = bt (ptF (npV V) (tiV V') X'.2.2.1 5).2 m
    rw [pt_tt _ _ _ h5 5 (Nat.le_refl _) m hm, ← d3 m hm]
    by_cases cc : 5 * npV V ≤ m ∧ m < 5 * npV V + 5
    · have := d4 (npV V) (m - 5 * npV V) h5 (by omega) (Or.inl (Nat.le_refl _))
      rw [show npV V * 5 + (m - 5 * npV V) = m by omega] at this
      rw [this, Bool.false_and]
    · rw [decide_eq_false cc, Bool.not_false, Bool.and_true]
  · have hpq : npV V + 1 ≤ p ∨ npV V + 1 ≤ q := hpq
    omega
  · show g h = 5
    rw [hg]
    have hh : nhV V ≤ h := hh
    rw [if_neg (by omega)]
    exact e1 h hh
  · have hp : npV V + 1 ≤ p := hp
    show g2 p = 5
    rw [hg2, if_neg (by omega)]
    exact e2 p (by omega)
  · have hp : npV V + 1 ≤ p := hp
    exact e3 p (by omega)
  · have hpq : npV V + 1 ≤ p ∨ npV V + 1 ≤ q := hpq
    exact e4 p q hq (by omega)
  · show g h < npV V + 1 ∨ g h = 5
    rw [hg]
    by_cases e : h = c ∧ c < 5
    · rw [if_pos e]; omega
    · rw [if_neg e]; have := o3 h hh; omega
  · have hp : p < npV V + 1 := hp
    show g2 p < nhV V ∨ g2 p = 5
    rw [hg2]
    by_cases e : p = npV V
    · rw [if_pos e]; omega
    · rw [if_neg e]; exact o4 p (by omega)
  · have hh : h < nhV V := hh
    have hp : p < npV V + 1 := hp
    show g h = p ↔ g2 p = h
    rw [hg, hg2]
    by_cases e : p = npV V
    · rw [if_pos e]
      by_cases e2 : h = c ∧ c < 5
      · rw [if_pos e2, e]; exact ⟨fun _ => e2.1.symm, fun _ => rfl⟩
      · rw [if_neg e2]
        have := o3 h hh
        exact ⟨fun z => by omega, fun z => by omega⟩
    · rw [if_neg e]
      by_cases e2 : h = c ∧ c < 5
      · rw [if_pos e2]
        have h3 := o5 h p hh (by omega)
        rcases hc with hc | hc
        · omega
        · rw [e2.1, hc.2] at h3
          rw [e2.1]
          exact ⟨fun z => by omega, fun z => by have := h3.mpr z; omega⟩
      · rw [if_neg e2]
        exact o5 h p hh (by omega)
theorem ou_ps {T : Nat → Nat} {len : Nat} (hTa : ∀ k, T k < 256) {z : Tlt len} {y : Rst len} (h : Rl T z y) : Ou T (tlPs T z) (rPs T y) := by
  obtain ⟨p, V, X, f, a⟩ := z
  obtain ⟨p', v, got, V', X', f', fa'⟩ := y
  obtain ⟨h1, h2, h3, h4, hV⟩ := h
  have h1 : p = p' := h1
  have h2 : f = 0 := h2
  subst h1 h2
  have h4 : v < 100000 := h4
  have hfa : f' = 0 ∧ a = fa' := h3.2
  have hV : Vr V X V' X' := hV
  have hn : npV V = npV V' := hV.1.2.1
  have hnh : nhV V = nhV V' := hV.1.1
  have hn5 := hV.1.2.2.2.2.1
  have hh5 := hV.1.2.2.2.1
  unfold tlPs rPs
  show Ou T (if npV V < 5 then sNp (tlP1 T (npV V) (tlP0 T (npV V) (p, V, X, 0, a))) else blm T (p, V, X, 0, a) 4) (if npV V' = 5 then (false, badR T (p, v, got, V', X', f', fa') 4) else rP0 T (npV V') (advR T (p, v, got, V', X', f', fa')))
  by_cases hc : npV V < 5
  · rw [if_pos hc, if_neg (by omega), ← hn]
    have hfn : fcN T len (nxP T len p).1 X'.2.2.2.2.2.2 (npV V) = fnd X.2.2.2.2.2.2 (lN (tkM T len (nxP T len p).1)) (npV V) 0 := by
      unfold fcN
      exact (fnd_ext (npV V) 0 (fun j _ hj => hV.2.2.1.2.2.2 j (by omega))).symm
    have s1 : ∀ (z : Tlt len) n, ¬ z.2.2.2.1 = 0 → (sNp (tlP1 T n z)).2.2.2 = z.2.2.2 := fun z n hz => by
      show (tlP1 T n z).2.2.2 = _
      unfold tlP1
      rw [if_neg (fun w => hz w.1)]
    unfold tlP0 rP0
    have hw : rdW T false (adv T (p, V, X, 0, a)) = if tkK T len (nxP T len p).1 = 1 then (if fnd X.2.2.2.2.2.2 (lN (tkM T len (nxP T len p).1)) (npV V) 0 = 5 then (nxP T len (nxP T len p), V, X, 0, a) else (nxP T len p, V, X, 3, nI (tkS T len (nxP T len p).1))) else (nxP T len p, V, X, 1, nI (tkS T len (nxP T len p).1)) := rfl
    have hf : frB T len (advR T (p, v, got, V', X', f', fa')).1.1 (advR T (p, v, got, V', X', f', fa')).2.2.2.2.1.2.2.2.2.2.2 (npV V) = (decide (tkK T len (nxP T len p).1 = 1) && decide (fcN T len (nxP T len p).1 X'.2.2.2.2.2.2 (npV V) = 5)) := rfl
    have hF : fpR T (npV V) (advR T (p, v, got, V', X', f', fa')) = if tkK T len (nxP T len p).1 = 1 then (if fcN T len (nxP T len p).1 X'.2.2.2.2.2.2 (npV V) = 5 then (nxP T len (nxP T len p), tkV T len (tkE T len (nxP T len p).1) (tkV T len (tkE T len p.1) v), got, V', (X'.1, X'.2.1, X'.2.2.1, X'.2.2.2.1, X'.2.2.2.2.1, X'.2.2.2.2.2.1, vp_updL X'.2.2.2.2.2.2 (npV V) (lN (tkM T len (nxP T len p).1))), f', fa') else (nxP T len p, tkV T len (tkE T len p.1) v, got, V', (X'.1, X'.2.1, X'.2.2.1, X'.2.2.2.1, X'.2.2.2.2.1, X'.2.2.2.2.2.1, X'.2.2.2.2.2.2), 3, nI (tkS T len (nxP T len p).1))) else (nxP T len p, tkV T len (tkE T len p.1) v, got, V', (X'.1, X'.2.1, X'.2.2.1, X'.2.2.2.1, X'.2.2.2.2.1, X'.2.2.2.2.2.1, X'.2.2.2.2.2.2), 1, nI (tkS T len (nxP T len p).1)) := by
      unfold fpR fpT fsT
      show (_, _, _, _, _, _) = _
      by_cases k1 : tkK T len (nxP T len p).1 = 1
      · have k1' : tkK T len (advR T (p, v, got, V', X', f', fa')).1.1 = 1 := k1
        rw [if_pos k1', if_pos k1]
        by_cases k2 : fcN T len (nxP T len p).1 X'.2.2.2.2.2.2 (npV V) = 5
        · have k2' : fcN T len (advR T (p, v, got, V', X', f', fa')).1.1 (advR T (p, v, got, V', X', f', fa')).2.2.2.2.1.2.2.2.2.2.2 (npV V) = 5 := k2
          rw [if_pos k2', if_pos k2]; rfl
        · have k2' : ¬ fcN T len (advR T (p, v, got, V', X', f', fa')).1.1 (advR T (p, v, got, V', X', f', fa')).2.2.2.2.1.2.2.2.2.2.2 (npV V) = 5 := k2
          rw [if_neg k2', if_neg k2]; rfl
      · have k1' : ¬ tkK T len (advR T (p, v, got, V', X', f', fa')).1.1 = 1 := k1
        rw [if_neg k1', if_neg k1]; rfl
    have hv1 : tkV T len (tkE T len p.1) v < 100000 := tkV_lt hTa h4
    have hm : (adv T ((p, V, X, 0, a) : Tlt len)).1.1 = (nxP T len p).1 := rfl
    rw [hw, hf, hF, hfn, hm]
    clear hw hf hF hfn
    generalize tkV T len (tkE T len p.1) v = v1 at *
    generalize nxP T len p = p1 at *
    by_cases k1 : tkK T len p1.1 = 1
    · rw [if_pos k1, if_pos k1, decide_eq_true k1, Bool.true_and]
      by_cases k2 : fnd X.2.2.2.2.2.2 (lN (tkM T len p1.1)) (npV V) 0 = 5
      · rw [if_pos k2, if_pos k2, decide_eq_true k2, if_pos rfl]
        have hv2 : tkV T len (tkE T len p1.1) v1 < 100000 := tkV_lt hTa hv1
        show Ou T (sNp (tlP1 T (npV V) (nxP T len p1, V, (X.1, X.2.1, X.2.2.1, X.2.2.2.1, X.2.2.2.2.1, X.2.2.2.2.2.1, vp_updL X.2.2.2.2.2.2 (npV V) (lN (tkM T len p1.1))), 0, a))) (rP1 T (npV V) (nxP T len p1, tkV T len (tkE T len p1.1) v1, got, (nhV V', npV V', laV V', ruV V', woV V', owV V', upN (hoV V') (npV V) 5, upd (wkV V') (npV V) (nI 0), (ptF (npV V) (tiV V') X'.2.2.1 5).1), (X'.1, X'.2.1, (ptF (npV V) (tiV V') X'.2.2.1 5).2, X'.2.2.2.1, X'.2.2.2.2.1, X'.2.2.2.2.2.1, vp_updL X'.2.2.2.2.2.2 (npV V) (lN (tkM T len p1.1))), f', fa'))
        generalize lN (tkM T len p1.1) = nm at *
        unfold tlP1 rP1
        by_cases w2 : wdP T len (nxP T len p1).1 2 = true
        · rw [if_pos ⟨rfl, w2⟩, if_pos w2]
          unfold tlHo rP2
          have hhn : ∀ q, fcN T len q X'.2.2.2.1 (nhV V') = fnd X.2.2.2.1 (lN (tkM T len q)) (nhV V) 0 := fun q => by
            unfold fcN
            rw [← hnh]
            exact (fnd_ext (nhV V) 0 (fun j _ hj => hV.2.2.1.2.2.1 j (by omega))).symm
          have hv3 : tkV T len (tkE T len (nxP T len p1).1) (tkV T len (tkE T len p1.1) v1) < 100000 := tkV_lt hTa hv2
          show Ou T (sNp (if tkK T len (nxP T len (nxP T len p1)).1 = 1 then (if fnd X.2.2.2.1 (lN (tkM T len (nxP T len (nxP T len p1)).1)) (nhV V) 0 < 5 then (if owV V (fnd X.2.2.2.1 (lN (tkM T len (nxP T len (nxP T len p1)).1)) (nhV V) 0) < 5 then (nxP T len (nxP T len p1), V, (X.1, X.2.1, X.2.2.1, X.2.2.2.1, X.2.2.2.2.1, X.2.2.2.2.2.1, vp_updL X.2.2.2.2.2.2 (npV V) nm), 3, nI (tkS T len (nxP T len (nxP T len p1)).1)) else (nxP T len (nxP T len (nxP T len p1)), vOw V (upN (owV V) (fnd X.2.2.2.1 (lN (tkM T len (nxP T len (nxP T len p1)).1)) (nhV V) 0) (npV V)) (upN (hoV V) (npV V) (fnd X.2.2.2.1 (lN (tkM T len (nxP T len (nxP T len p1)).1)) (nhV V) 0)), (X.1, X.2.1, X.2.2.1, X.2.2.2.1, X.2.2.2.2.1, X.2.2.2.2.2.1, vp_updL X.2.2.2.2.2.2 (npV V) nm), 0, a)) else (nxP T len (nxP T len p1), V, (X.1, X.2.1, X.2.2.1, X.2.2.2.1, X.2.2.2.2.1, X.2.2.2.2.2.1, vp_updL X.2.2.2.2.2.2 (npV V) nm), 5, nI (tkS T len (nxP T len (nxP T len p1)).1))) else (nxP T len (nxP T len p1), V, (X.1, X.2.1, X.2.2.1, X.2.2.2.1, X.2.2.2.2.1, X.2.2.2.2.2.1, vp_updL X.2.2.2.2.2.2 (npV V) nm), 1, nI (tkS T len (nxP T len (nxP T len p1)).1)))) (if tkK T len (nxP T len (nxP T len p1)).1 = 1 then (if fcN T len (nxP T len (nxP T len p1)).1 X'.2.2.2.1 (nhV V') < 5 then (if owV V' (fcN T len (nxP T len (nxP T len p1)).1 X'.2.2.2.1 (nhV V')) < 5 then _ else _) else _) else _)
          rw [hhn]
          generalize hcc : fnd X.2.2.2.1 (lN (tkM T len (nxP T len (nxP T len p1)).1)) (nhV V) 0 = c at *
          have hcl : c < nhV V ∨ c = 5 := by
            rcases fnd_lt X.2.2.2.1 (lN (tkM T len (nxP T len (nxP T len p1)).1)) (nhV V) 0 (by omega) with w | w
            · rw [hcc] at w; omega
            · rw [hcc] at w; omega
          by_cases k3 : tkK T len (nxP T len (nxP T len p1)).1 = 1
          · rw [if_pos k3, if_pos k3]
            by_cases k4 : c < 5
            · have hcn : c < nhV V := by omega
              rw [if_pos k4, if_pos k4, ← hV.2.1.2.2.1 c hcn]
              by_cases k5 : owV V c < 5
              · rw [if_pos k5, if_pos k5]
                exact Or.inr ⟨rfl, Fl.of (k := 3) rfl (by decide) rfl⟩
              · rw [if_neg k5, if_neg k5]
                refine Or.inl ⟨rfl, ?_⟩
                have ho5 : owV V c = 5 := by have := hV.2.2.2.2.2.2.2.1 c hcn; omega
                refine Rl.mk' hTa hfa (tkE T len (nxP T len (nxP T len p1)).1) rfl hv3 (Vr_ps (n := npV V) hV rfl hc nm c (Or.inr ⟨hcn, ho5⟩) (upN (owV V) c (npV V)) (upN (hoV V) (npV V) c) (upN (owV V') (rHc T (advR T (nxP T len p1, tkV T len (tkE T len p1.1) v1, got, (nhV V', npV V', laV V', ruV V', woV V', owV V', upN (hoV V') (npV V) 5, upd (wkV V') (npV V) (nI 0), (ptF (npV V) (tiV V') X'.2.2.1 5).1), (X'.1, X'.2.1, (ptF (npV V) (tiV V') X'.2.2.1 5).2, X'.2.2.2.1, X'.2.2.2.2.1, X'.2.2.2.2.2.1, vp_updL X'.2.2.2.2.2.2 (npV V) nm), f', fa'))) (npV V)) (upN (upN (hoV V') (npV V) 5) (npV V) (rHc T (advR T (nxP T len p1, tkV T len (tkE T len p1.1) v1, got, (nhV V', npV V', laV V', ruV V', woV V', owV V', upN (hoV V') (npV V) 5, upd (wkV V') (npV V) (nI 0), (ptF (npV V) (tiV V') X'.2.2.1 5).1), (X'.1, X'.2.1, (ptF (npV V) (tiV V') X'.2.2.1 5).2, X'.2.2.2.1, X'.2.2.2.2.1, X'.2.2.2.2.2.1, vp_updL X'.2.2.2.2.2.2 (npV V) nm), f', fa')))) ?_ ?_ ?_ ?_)
                · intro h
                  by_cases e : h = c
                  · rw [e, upN_self, if_pos ⟨rfl, k4⟩]
                  · rw [upN_ne _ _ e, if_neg (fun w => e w.1)]
                · intro h hh
                  have hr : rHc T (advR T (nxP T len p1, tkV T len (tkE T len p1.1) v1, got, (nhV V', npV V', laV V', ruV V', woV V', owV V', upN (hoV V') (npV V) 5, upd (wkV V') (npV V) (nI 0), (ptF (npV V) (tiV V') X'.2.2.1 5).1), (X'.1, X'.2.1, (ptF (npV V) (tiV V') X'.2.2.1 5).2, X'.2.2.2.1, X'.2.2.2.2.1, X'.2.2.2.2.2.1, vp_updL X'.2.2.2.2.2.2 (npV V) nm), f', fa')) = c := (hhn _).trans hcc
                  rw [hr]
                  by_cases e : h = c
                  · rw [e, upN_self, if_pos ⟨rfl, k4⟩]
                  · rw [upN_ne _ _ e, if_neg (fun w => e w.1)]
                · intro q
                  by_cases e : q = npV V
                  · rw [e, upN_self, if_pos rfl]
                  · rw [upN_ne _ _ e, if_neg e]
                · intro q hq
                  have hr : rHc T (advR T (nxP T len p1, tkV T len (tkE T len p1.1) v1, got, (nhV V', npV V', laV V', ruV V', woV V', owV V', upN (hoV V') (npV V) 5, upd (wkV V') (npV V) (nI 0), (ptF (npV V) (tiV V') X'.2.2.1 5).1), (X'.1, X'.2.1, (ptF (npV V) (tiV V') X'.2.2.1 5).2, X'.2.2.2.1, X'.2.2.2.2.1, X'.2.2.2.2.2.1, vp_updL X'.2.2.2.2.2.2 (npV V) nm), f', fa')) = c := (hhn _).trans hcc
                  rw [hr]
                  by_cases e : q = npV V
                  · rw [e, upN_self, if_pos rfl]
                  · rw [upN_ne _ _ e, upN_ne _ _ e, if_neg e]
            · rw [if_neg k4, if_neg k4]
              exact Or.inr ⟨rfl, Fl.of (k := 5) rfl (by decide) rfl⟩
          · rw [if_neg k3, if_neg k3]
            exact Or.inr ⟨rfl, Fl.of (k := 1) rfl (by decide) rfl⟩
        · rw [if_neg (fun w => w2 w.2), if_neg w2]
          refine Or.inl ⟨rfl, ?_⟩
          refine Rl.mk' hTa hfa (tkE T len p1.1) rfl hv1 (Vr_ps (n := npV V) hV rfl hc nm 5 (Or.inl rfl) (owV V) (hoV V) (owV V') (upN (hoV V') (npV V) 5) (fun h => by rw [if_neg (by omega)]) (fun h _ => by rw [if_neg (by omega)]) (fun q => ?_) (fun q hq => ?_))
          · by_cases e : q = npV V
            · rw [if_pos e, e]; exact hV.2.2.2.2.1.2.1 _ (Nat.le_refl _)
            · rw [if_neg e]
          · by_cases e : q = npV V
            · rw [e, upN_self, if_pos rfl]
            · rw [upN_ne _ _ e, if_neg e]
      · rw [if_neg k2, if_neg k2, decide_eq_false k2, if_neg nft]
        refine Or.inr ⟨rfl, Fl.of (k := 3) ?_ (by decide) rfl⟩
        rw [s1 _ _ (show ¬ (3 : Nat) = 0 by decide)]
        rfl
    · rw [if_neg k1, if_neg k1, decide_eq_false k1, Bool.false_and, if_neg nft]
      refine Or.inr ⟨rfl, Fl.of (k := 1) ?_ (by decide) rfl⟩
      rw [s1 _ _ (show ¬ (1 : Nat) = 0 by decide)]
      rfl
  · rw [if_neg hc, if_pos (by omega)]
    exact Or.inr ⟨rfl, Fl.of (k := 4) rfl (by decide) rfl⟩
