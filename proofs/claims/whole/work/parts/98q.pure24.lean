/-! TELLING: ties, clauses, all -/
theorem Ib10 : Ib (nI 10) 10 10 := ⟨by decide, by decide⟩
theorem ou_ti {T : Nat → Nat} {len : Nat} (hTa : ∀ k, T k < 256) {z : Tlt len} {y : Rst len} (h : Rl T z y) : Ou T (tlTi T z) (rT1 T (advR T y)) := by
  obtain ⟨p, V, X, a, v, got, V', X', f', fa', rfl, rfl, h4, hV, hfa⟩ := h.cs
  have hn5 := hV.1.2.2.2.2.1
  have hv1 : tkV T len (tkE T len p.1) v < 100000 := tkV_lt hTa h4
  have hst : ∀ (r : Nat) (z : Tlt len), ¬ z.2.2.2.1 = 0 → tlT2 T r z = z := fun r z hz => by
    unfold tlT2
    rw [rdP_f T z hz, rdN_f T _ _ _ hz]
    exact if_neg hz
  have hP := rdP_e T (nxP T len p) V X a
  have hfn := fn_pn hV T len (nxP T len p).1
  have hfl := fnd_5 (V := V) (g := X.2.2.2.2.2.2) (x := lN (tkM T len (nxP T len p).1)) hn5
  have hadv : adv T ((p, V, X, 0, a) : Tlt len) = (nxP T len p, V, X, 0, a) := rfl
  have hadR : advR T ((p, v, got, V', X', f', fa') : Rst len) = (nxP T len p, tkV T len (tkE T len p.1) v, got, V', X', f', fa') := rfl
  unfold tlTi tlT1 rT1
  rw [hadv, hadR]
  generalize tkV T len (tkE T len p.1) v = v1 at *
  generalize nxP T len p = p1 at *
  have hkB : kpB T ((p1, v1, got, V', X', f', fa') : Rst len) = (decide (tkK T len p1.1 = 1) && !decide (fcN T len p1.1 X'.2.2.2.2.2.2 (npV V') = 5)) := rfl
  have hW1 : rWc T ((p1, v1, got, V', X', f', fa') : Rst len) = fcN T len p1.1 X'.2.2.2.2.2.2 (npV V') := rfl
  have hkR : kpR T ((p1, v1, got, V', X', f', fa') : Rst len) = if tkK T len p1.1 = 1 then (if fcN T len p1.1 X'.2.2.2.2.2.2 (npV V') = 5 then (p1, v1, -1, V', X', 5, nI (tkS T len p1.1)) else (nxP T len p1, tkV T len (tkE T len p1.1) v1, nI (fcN T len p1.1 X'.2.2.2.2.2.2 (npV V')), V', X', f', fa')) else (p1, v1, got, V', X', 1, nI (tkS T len p1.1)) := by
    unfold kpR kpT knT
    by_cases k1 : tkK T len p1.1 = 1
    · have k1' : tkK T len ((p1, v1, got, V', X', f', fa') : Rst len).1.1 = 1 := k1
      rw [if_pos k1', if_pos k1]
      by_cases k2 : fcN T len p1.1 X'.2.2.2.2.2.2 (npV V') = 5
      · have k2' : fcN T len ((p1, v1, got, V', X', f', fa') : Rst len).1.1 ((p1, v1, got, V', X', f', fa') : Rst len).2.2.2.2.1.2.2.2.2.2.2 (npV ((p1, v1, got, V', X', f', fa') : Rst len).2.2.2.1) = 5 := k2
        rw [if_pos k2', if_pos k2]
      · have k2' : ¬ fcN T len ((p1, v1, got, V', X', f', fa') : Rst len).1.1 ((p1, v1, got, V', X', f', fa') : Rst len).2.2.2.2.1.2.2.2.2.2.2 (npV ((p1, v1, got, V', X', f', fa') : Rst len).2.2.2.1) = 5 := k2
        rw [if_neg k2', if_neg k2]
    · have k1' : ¬ tkK T len ((p1, v1, got, V', X', f', fa') : Rst len).1.1 = 1 := k1
      rw [if_neg k1', if_neg k1]
  rw [hP, hkB, hkR, hW1, hfn]
  clear hkB hkR hW1 hfn hadv hadR
  generalize fnd X.2.2.2.2.2.2 (lN (tkM T len p1.1)) (npV V) 0 = c at *
  by_cases k1 : tkK T len p1.1 = 1
  · rw [if_pos k1, if_pos k1, decide_eq_true k1, Bool.true_and]
    by_cases k2 : c = 5
    · rw [if_pos k2, if_pos k2, decide_eq_true k2, Bool.not_true, if_neg nft]
      refine Or.inr ⟨rfl, Fl.of (k := 5) ?_ (by decide) rfl⟩
      show (tlT2 T 5 (if (5 : Nat) = 0 then _ else (p1, V, X, 5, nI (tkS T len p1.1)))).2.2.2 = _
      rw [if_neg (by decide), hst _ _ (show ¬ (5 : Nat) = 0 by decide)]
    · have hcn : c < npV V := by omega
      rw [if_neg k2, if_neg k2, decide_eq_false k2, Bool.not_false, if_pos rfl]
      have hv2 : tkV T len (tkE T len p1.1) v1 < 100000 := tkV_lt hTa hv1
      show Ou T (tlT2 T c (if (0 : Nat) = 0 then (if tgB T (nxP T len p1, V, X, 0, a) c then blm T (nxP T len p1, V, X, 0, a) 3 else (nxP T len p1, V, X, 0, a)) else (nxP T len p1, V, X, 0, a))) (rT2 T c (nxP T len p1, tkV T len (tkE T len p1.1) v1, nI c, V', X', f', fa'))
      rw [if_pos rfl]
      generalize tkV T len (tkE T len p1.1) v1 = v2 at *
      generalize nxP T len p1 = p2 at *
      have hfn2 := fn_pn hV T len p2.1
      have hfl2 := fnd_5 (V := V) (g := X.2.2.2.2.2.2) (x := lN (tkM T len p2.1)) hn5
      have hP2 := rdP_e T p2 V X a
      have htg : tgB T ((p2, V, X, 0, a) : Tlt len) c = (decide (tkK T len p2.1 = 1) && (decide (fnd X.2.2.2.2.2.2 (lN (tkM T len p2.1)) (npV V) 0 < 5) && (decide (fnd X.2.2.2.2.2.2 (lN (tkM T len p2.1)) (npV V) 0 = c) || bt X.2.2.1 (c * 5 + fnd X.2.2.2.2.2.2 (lN (tkM T len p2.1)) (npV V) 0)))) := rfl
      have hr2 : rT2 T c ((p2, v2, nI c, V', X', f', fa') : Rst len) = if tkK T len p2.1 = 1 then (if fcN T len p2.1 X'.2.2.2.2.2.2 (npV V') < 5 then (if fcN T len p2.1 X'.2.2.2.2.2.2 (npV V') = c ∨ bt X'.2.2.1 (5 * c + fcN T len p2.1 X'.2.2.2.2.2.2 (npV V')) = true then (false, badR T (p2, v2, nI c, V', X', f', fa') 3) else rT3 T (5 * c + fcN T len p2.1 X'.2.2.2.2.2.2 (npV V')) (nxP T len p2, tkV T len (tkE T len p2.1) v2, nI c, V', (X'.1, X'.2.1, X'.2.2.1 ||| (nI 1 <<< (nI (5 * c + fcN T len p2.1 X'.2.2.2.2.2.2 (npV V')) &&& 31)), X'.2.2.2), f', fa')) else (false, badR T (p2, v2, nI c, V', X', f', fa') 5)) else (false, badR T (p2, v2, nI c, V', X', f', fa') 1) := rfl
      rw [htg, hr2, hfn2]
      clear htg hr2 hfn2
      generalize fnd X.2.2.2.2.2.2 (lN (tkM T len p2.1)) (npV V) 0 = q at *
      by_cases k3 : tkK T len p2.1 = 1
      · rw [decide_eq_true k3, Bool.true_and, if_pos k3]
        by_cases k4 : q < 5
        · have hqn : q < npV V := by omega
          rw [decide_eq_true k4, Bool.true_and, if_pos k4]
          have hbt : bt X'.2.2.1 (5 * c + q) = bt X.2.2.1 (c * 5 + q) := by rw [← hV.2.2.2.1.2.2.1 (5 * c + q) (by omega), Nat.mul_comm 5 c]
          rw [hbt]
          by_cases k5 : q = c ∨ bt X.2.2.1 (c * 5 + q) = true
          · have k5' : (decide (q = c) || bt X.2.2.1 (c * 5 + q)) = true := by
              rcases k5 with k5 | k5
              · rw [decide_eq_true k5, Bool.true_or]
              · rw [k5, Bool.or_true]
            rw [if_pos k5, if_pos k5', hst _ _ (show ¬ (3 : Nat) = 0 by decide)]
            exact Or.inr ⟨rfl, Fl.of (k := 3) rfl (by decide) rfl⟩
          · have k5' : ¬ (decide (q = c) || bt X.2.2.1 (c * 5 + q)) = true := fun w => k5 (by
              rcases Bool.or_eq_true_iff.mp w with w | w
              · exact Or.inl (of_decide_eq_true w)
              · exact Or.inr w)
            rw [if_neg k5, if_neg k5']
            rw [if_pos k3, if_neg (show ¬ q = 5 by omega)] at hP2
            have hval : tkK T len (nxP T len p2).1 = 2 → tkV T len (tkE T len p2.1) v2 = tkN T len (nxP T len p2).1 := fun h => tkV_N h
            have hv3 : tkV T len (tkE T len p2.1) v2 < 100000 := tkV_lt hTa hv2
            have hR := rdN_e T (nI 0) (nI 20) (nxP T len p2) V X a
            unfold tlT2 rT3
            rw [hP2]
            show Ou T (if (rdN T (nI 0) (nI 20) (nxP T len p2, V, X, 0, a)).2.2.2.2.1 = 0 then ((rdN T (nI 0) (nI 20) (nxP T len p2, V, X, 0, a)).2.1, vTi (rdN T (nI 0) (nI 20) (nxP T len p2, V, X, 0, a)).2.2.1 (upd (tiV (rdN T (nI 0) (nI 20) (nxP T len p2, V, X, 0, a)).2.2.1) (c * 5 + q) (nI (rdN T (nI 0) (nI 20) (nxP T len p2, V, X, 0, a)).1 - nI 10)), ((rdN T (nI 0) (nI 20) (nxP T len p2, V, X, 0, a)).2.2.2.1.1, (rdN T (nI 0) (nI 20) (nxP T len p2, V, X, 0, a)).2.2.2.1.2.1, (rdN T (nI 0) (nI 20) (nxP T len p2, V, X, 0, a)).2.2.2.1.2.2.1 ||| (nI 1 <<< (nI (c * 5 + q) &&& 31)), (rdN T (nI 0) (nI 20) (nxP T len p2, V, X, 0, a)).2.2.2.1.2.2.2), (rdN T (nI 0) (nI 20) (nxP T len p2, V, X, 0, a)).2.2.2.2) else (rdN T (nI 0) (nI 20) (nxP T len p2, V, X, 0, a)).2) _
            rw [hR, nuB_e (nI 0) (nI 20) _ hval, nuR_e (nI 0) (nI 20) _ hval]
            generalize tkV T len (tkE T len p2.1) v2 = v3 at *
            generalize nxP T len p2 = p3 at *
            by_cases o1 : okN T len (nI 0) (nI 20) p3.1 = true
            · have o1' : okN T len (nI 0) (nI 20) ((p3, v3, nI c, V', (X'.1, X'.2.1, X'.2.2.1 ||| (nI 1 <<< (nI (5 * c + q) &&& 31)), X'.2.2.2), f', fa') : Rst len).1.1 = true := o1
              rw [if_pos o1, if_pos o1', if_pos o1']
              refine Or.inl ⟨rfl, ?_⟩
              exact Rl.mk' hTa hfa (tkE T len p3.1) rfl hv3 (Vr_ti hV hcn hqn (nI (tkN T len p3.1) - nI 10) ((((okN_ib o1).mono (c := 0) (d := 20) (by decide) (by decide)).sub (Ib10 : Ib (nI 10) 10 10) (by decide) (by decide)).mono (by decide) (by decide)))
            · have o1' : ¬ okN T len (nI 0) (nI 20) ((p3, v3, nI c, V', (X'.1, X'.2.1, X'.2.2.1 ||| (nI 1 <<< (nI (5 * c + q) &&& 31)), X'.2.2.2), f', fa') : Rst len).1.1 = true := o1
              rw [if_neg o1, if_neg o1', if_neg o1']
              refine Or.inr ⟨rfl, ?_⟩
              show Fl (if kkN T len p3.1 = 0 then _ else _) _
              rw [if_neg (kkN_ne T len p3.1)]
              exact Fl.of rfl (kkN_ne T len p3.1) rfl
        · rw [decide_eq_false k4, Bool.false_and, if_neg nft, if_neg k4]
          rw [if_pos k3, if_pos (show q = 5 by omega)] at hP2
          refine Or.inr ⟨rfl, Fl.of (k := 5) ?_ (by decide) rfl⟩
          unfold tlT2
          rw [hP2, rdN_f T _ _ _ (show ¬ (5 : Nat) = 0 by decide)]
          rfl
      · rw [decide_eq_false k3, Bool.false_and, if_neg nft, if_neg k3]
        rw [if_neg k3] at hP2
        refine Or.inr ⟨rfl, Fl.of (k := 1) ?_ (by decide) rfl⟩
        unfold tlT2
        rw [hP2, rdN_f T _ _ _ (show ¬ (1 : Nat) = 0 by decide)]
        rfl
  · rw [if_neg k1, if_neg k1, decide_eq_false k1, Bool.false_and, if_neg nft]
    refine Or.inr ⟨rfl, Fl.of (k := 1) ?_ (by decide) rfl⟩
    show (tlT2 T c (if (1 : Nat) = 0 then _ else (p1, V, X, 1, nI (tkS T len p1.1)))).2.2.2 = _
    rw [if_neg (by decide), hst _ _ (show ¬ (1 : Nat) = 0 by decide)]
theorem ou_b {T : Nat → Nat} {len : Nat} (hTa : ∀ k, T k < 256) {z : Tlt len} {y : Rst len} (h : Rl T z y) : Ou T (tlB T z) (rBd T y) := by
  have hp : z.1 = y.1 := h.1
  unfold tlB rBd
  rw [hp]
  by_cases w0 : wdP T len y.1.1 0 = true
  · rw [if_pos w0, if_pos w0]; exact ou_hs hTa h
  rw [if_neg w0, if_neg w0]
  by_cases w1 : wdP T len y.1.1 1 = true
  · rw [if_pos w1, if_pos w1]; exact ou_ps hTa h
  rw [if_neg w1, if_neg w1]
  by_cases w3 : wdP T len y.1.1 3 = true
  · rw [if_pos w3, if_pos w3]; exact ou_ti hTa h
  rw [if_neg w3, if_neg w3]
  by_cases w4 : wdP T len y.1.1 4 = true
  · rw [if_pos w4, if_pos w4]; exact ou_wk hTa h
  rw [if_neg w4, if_neg w4]
  by_cases w5 : wdP T len y.1.1 5 = true
  · rw [if_pos w5]; exact ou_la hTa h w5
  rw [if_neg w5]
  exact ou_ru hTa h w5
theorem ou_cl {T : Nat → Nat} {len : Nat} (hTa : ∀ k, T k < 256) {z : Tlt len} {y : Rst len} (h : Rl T z y) : Ou T (tlCl T z) (rCl T y) := by
  have hb := ou_b hTa h
  unfold tlCl rCl
  generalize tlB T z = z1 at *
  generalize rBd T y = b at *
  rcases hb with ⟨b1, b2⟩ | ⟨b1, b2⟩
  · rw [if_pos b1]
    obtain ⟨b0, y1⟩ := b
    have b2 : Rl T z1 y1 := b2
    obtain ⟨p, V, X, a, v, got, V', X', f', fa', rfl, rfl, h4, hV, hfa⟩ := b2.cs
    show Ou T _ (if tkK T len p.1 = 3 then _ else _)
    by_cases c : tkK T len p.1 = 3
    · rw [if_pos c]
      have e1 : tlS T ((p, V, X, 0, a) : Tlt len) = (p, V, X, 0, a) := if_neg (fun w => w.2 c)
      rw [e1]
      refine Or.inl ⟨rfl, ?_⟩
      exact Rl.mk' hTa hfa (tkE T len p.1) rfl h4 (Vr_cl hV)
    · rw [if_neg c]
      have e1 : tlS T ((p, V, X, 0, a) : Tlt len) = (p, V, X, 1, nI (tkS T len p.1)) := if_pos ⟨rfl, c⟩
      rw [e1]
      refine Or.inr ⟨rfl, Fl.of (k := 1) rfl (by decide) rfl⟩
  · rw [if_neg (by rw [b1]; exact nft)]
    have e1 : tlS T z1 = z1 := if_neg (fun w => b2.1 w.1)
    have e2 : tlE T z1 = z1 := if_neg b2.1
    rw [e1, e2]
    exact Or.inr ⟨rfl, b2⟩
theorem ou_all {T : Nat → Nat} {len : Nat} (hTa : ∀ k, T k < 256) : ∀ (n m : Nat) (z : Tlt len) (y : Rst len), Rl T z y → len - y.1.1 ≤ n → len - y.1.1 < m → Ou T (tlF T n z) (rVF T m y) := by
  intro n
  induction n with
  | zero =>
    intro m z y h hn hm
    obtain ⟨m, rfl⟩ : ∃ m', m = m' + 1 := ⟨m - 1, by omega⟩
    have hp := y.1.2
    have hk : tkK T len y.1.1 = 0 := by rw [show y.1.1 = len by omega]; exact tkK_end T len
    have hu : rVF T (m + 1) y = (true, y) := if_pos hk
    rw [hu]
    exact Or.inl ⟨rfl, h⟩
  | succ n ih =>
    intro m z y h hn hm
    obtain ⟨m, rfl⟩ : ∃ m', m = m' + 1 := ⟨m - 1, by omega⟩
    have hu : tlF T (n + 1) z = if z.2.2.2.1 = 0 ∧ ¬ tkK T len z.1.1 = 0 then tlF T n (tlCl T z) else z := rfl
    have hw : rVF T (m + 1) y = if tkK T len y.1.1 = 0 then (true, y) else if (rCl T y).1 then rVF T m (rCl T y).2 else rCl T y := rfl
    rw [hu, hw, h.1]
    by_cases hk : tkK T len y.1.1 = 0
    · rw [if_pos hk, if_neg (fun w => w.2 hk)]
      exact Or.inl ⟨rfl, h⟩
    · rw [if_neg hk, if_pos ⟨h.2.1, hk⟩]
      have hri : Ri y := ⟨h.2.2.2.1, by have := h.2.2.2.2.1.2.2.2.1; have := h.2.2.2.2.1.1; omega, by have := h.2.2.2.2.1.2.2.2.2.1; have := h.2.2.2.2.1.2.1; omega⟩
      have hgo := rCl_go hTa hri
      rcases ou_cl hTa h with ⟨c1, c2⟩ | ⟨c1, c2⟩
      · rw [if_pos c1]
        have hg := (hgo c1).1
        exact ih m _ _ c2 (by omega) (by omega)
      · rw [if_neg (by rw [c1]; exact nft)]
        have hst : ∀ n (z : Tlt len), ¬ z.2.2.2.1 = 0 → tlF T n z = z := fun n z hz => by
          cases n with
          | zero => rfl
          | succ n => exact if_neg (fun w => hz w.1)
        rw [hst n _ c2.1]
        exact Or.inr ⟨c1, c2⟩
theorem ou_vil {T : Nat → Nat} {len : Nat} (hTa : ∀ k, T k < 256) (hl : len ≤ 900) (Vi : Vil) (Xi : Vix) (VR : Vil) (XR : Vix) (v : Nat) (hv : v < 100000) (got : Int32) : Ou T (tlA T len Vi Xi) (rVF T (len + 1) (rV0 ((p0F len, tkV T len 0 v, got, VR, XR, 0, -1) : Rst len))) := by
  unfold tlA
  refine ou_all hTa 900 (len + 1) _ _ ?_ (by omega) (by omega)
  refine ⟨rfl, rfl, ⟨fun h => tkV_N (p := 0) h, rfl, rfl⟩, tkV_lt hTa hv, ?_⟩
  refine ⟨⟨rfl, rfl, rfl, Nat.zero_le _, Nat.zero_le _, rfl, ⟨fun h hh => absurd hh (Nat.not_lt_zero _), fun p q hp => absurd hp (Nat.not_lt_zero _), (⟨by decide, by decide⟩ : Ib (ruU 2) 0 20), (⟨by decide, by decide⟩ : Ib (ruU 3) 0 20), (⟨by decide, by decide⟩ : Ib (ruU 4) 0 9)⟩, fun h hh => absurd hh (Nat.not_lt_zero _)⟩, ⟨fun k hk => (pre_n (g := ruU) hk).symm, fun h hh => absurd hh (Nat.not_lt_zero _), fun h hh => absurd hh (Nat.not_lt_zero _), fun h hh => absurd hh (Nat.not_lt_zero _), fun h hh => absurd hh (Nat.not_lt_zero _), fun p q hp => absurd hp (Nat.not_lt_zero _)⟩, ⟨fun h hh => absurd hh (Nat.not_lt_zero _), fun h hh => absurd hh (Nat.not_lt_zero _), fun h hh => absurd hh (Nat.not_lt_zero _), fun h hh => absurd hh (Nat.not_lt_zero _)⟩, ⟨fun _ _ => rfl, bt_0 (by decide), fun _ _ => rfl, fun p q hp hq _ => bt_0 (by omega)⟩, ⟨fun _ _ => rfl, fun _ _ => rfl, fun _ _ => rfl, fun _ _ _ _ => rfl⟩, Nat.zero_le _, Nat.zero_le _, fun h hh => absurd hh (Nat.not_lt_zero _), fun h hh => absurd hh (Nat.not_lt_zero _), fun h p hh => absurd hh (Nat.not_lt_zero _)⟩
