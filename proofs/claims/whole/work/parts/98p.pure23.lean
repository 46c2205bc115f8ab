/-! TELLING: works, ties, rules -/
theorem rdP_e (T : Nat → Nat) {len : Nat} (p : Fin (len + 1)) (V : Vil) (X : Vix) (a : Int32) : rdP T ((p, V, X, 0, a) : Tlt len) = if tkK T len p.1 = 1 then (if fnd X.2.2.2.2.2.2 (lN (tkM T len p.1)) (npV V) 0 = 5 then (5, (p, V, X, 5, nI (tkS T len p.1))) else (fnd X.2.2.2.2.2.2 (lN (tkM T len p.1)) (npV V) 0, (nxP T len p, V, X, 0, a))) else (fnd X.2.2.2.2.2.2 (lN (tkM T len p.1)) (npV V) 0, (p, V, X, 1, nI (tkS T len p.1))) := rfl
theorem rdP_f (T : Nat → Nat) {len : Nat} (z : Tlt len) (h : ¬ z.2.2.2.1 = 0) : rdP T z = (5, z) := if_neg h
theorem fn_pn {V V' : Vil} {X X' : Vix} (hV : Vr V X V' X') (T : Nat → Nat) (len q : Nat) : fcN T len q X'.2.2.2.2.2.2 (npV V') = fnd X.2.2.2.2.2.2 (lN (tkM T len q)) (npV V) 0 := by
  unfold fcN
  rw [← hV.1.2.1]
  exact (fnd_ext (npV V) 0 (fun j _ hj => hV.2.2.1.2.2.2 j (by omega))).symm
theorem fnd_5 {V : Vil} {g : Nat → Int64} {x : Int64} (h5 : npV V ≤ 5) : fnd g x (npV V) 0 < npV V ∨ fnd g x (npV V) 0 = 5 := by
  rcases fnd_lt g x (npV V) 0 (by omega) with w | w
  · exact Or.inl (by omega)
  · exact Or.inr w
theorem Vr_wk {V V' : Vil} {X X' : Vix} (h : Vr V X V' X') {c : Nat} (hc : c < npV V) (x : Int32) : Vr (vWk V (upd (wkV V) c x)) X (vWk V' (upd (wkV V') c x)) X' := by
  obtain ⟨a, ⟨b1, b2, b3, b4, b5, b6⟩, cc, d, ⟨e1, e2, e3, e4⟩, o⟩ := h
  refine ⟨a, ⟨b1, b2, b3, b4, ud_eq b5 rfl, b6⟩, cc, d, ⟨e1, e2, fun p hp => ?_, e4⟩, o⟩
  have hp : npV V ≤ p := hp
  show upd (wkV V) c x p = nI 0
  rw [upd_ne _ _ (by omega)]
  exact e3 p hp
theorem Vr_ti {V V' : Vil} {X X' : Vix} (h : Vr V X V' X') {r q : Nat} (hr : r < npV V) (hq : q < npV V) (x : Int32) (hx : Ib x (-10) 10) : Vr (vTi V (upd (tiV V) (r * 5 + q) x)) (X.1, X.2.1, X.2.2.1 ||| (nI 1 <<< (nI (r * 5 + q) &&& 31)), X.2.2.2) (vTi V' (upd (tiV V') (5 * r + q) x)) (X'.1, X'.2.1, X'.2.2.1 ||| (nI 1 <<< (nI (5 * r + q) &&& 31)), X'.2.2.2) := by
  obtain ⟨⟨a1, a2, a3, a4, a5, a6⟩, ⟨b1, b2, b3, b4, b5, b6⟩, cc, ⟨d1, d2, d3, d4⟩, ⟨e1, e2, e3, e4⟩, o⟩ := h
  have hm : 5 * r + q = r * 5 + q := by omega
  have hb : r * 5 + q < 32 := by omega
  rw [hm]
  refine ⟨⟨a1, a2, a3, a4, a5, a6.1, ⟨a6.2.1.1, fun p q' hp hq' => ?_, a6.2.1.2.2⟩, a6.2.2⟩, ⟨b1, b2, b3, b4, b5, fun p q' hp hq' => ?_⟩, cc, ⟨d1, d2, fun m hm => ?_, fun p q' hp hq' hpq => ?_⟩, ⟨e1, e2, e3, fun p q' hq' hpq => ?_⟩, o⟩
  · show Ib (upd (tiV V) (r * 5 + q) x (p * 5 + q')) (-10) 10
    by_cases e : p * 5 + q' = r * 5 + q
    · rw [e, upd_self]; exact hx
    · rw [upd_ne _ _ e]; exact a6.2.1.2.1 p q' hp hq'
  · show upd (tiV V) (r * 5 + q) x (p * 5 + q') = upd (tiV V') (r * 5 + q) x (p * 5 + q')
    by_cases e : p * 5 + q' = r * 5 + q
    · rw [e, upd_self, upd_self]
    · rw [upd_ne _ _ e, upd_ne _ _ e]; exact b6 p q' hp hq'
  · show bt (X.2.2.1 ||| _) m = bt (X'.2.2.1 ||| _) m
    rw [bt_or _ hb (by omega), bt_or _ hb (by omega), d3 m hm]
  · have hpq : npV V ≤ p ∨ npV V ≤ q' := hpq
    show bt (X.2.2.1 ||| _) (p * 5 + q') = false
    rw [bt_or _ hb (by omega), d4 p q' hp hq' hpq, decide_eq_false (by omega)]
    rfl
  · have hpq : npV V ≤ p ∨ npV V ≤ q' := hpq
    show upd (tiV V) (r * 5 + q) x (p * 5 + q') = nI 0
    rw [upd_ne _ _ (by omega)]
    exact e4 p q' hq' hpq
theorem Vr_ru {V V' : Vil} {X X' : Vix} (h : Vr V X V' X') {r : Nat} (hr : r < 6) (x : Int32) (hx : (r = 2 → Ib x 0 20) ∧ (r = 3 → Ib x 0 20) ∧ (r = 4 → Ib x 0 9)) : Vr (vRu V (upd (ruV V) r x)) (X.1, X.2.1 ||| (nI 1 <<< (nI r &&& 31)), X.2.2) (vRu V' (upd (ruV V') r x)) (X'.1, X'.2.1 ||| (nI 1 <<< (nI r &&& 31)), X'.2.2) := by
  obtain ⟨⟨a1, a2, a3, a4, a5, a6⟩, ⟨b1, b2, b3, b4, b5, b6⟩, cc, ⟨d1, d2, d3, d4⟩, e, o⟩ := h
  have hk : ∀ (k : Nat) (m : Int), Ib (ruV V k) 0 m → (r = k → Ib x 0 m) → Ib (upd (ruV V) r x k) 0 m := fun k m h1 h2 => by
    by_cases z : k = r
    · subst z; rw [upd_self]; exact h2 rfl
    · rw [upd_ne _ _ z]; exact h1
  refine ⟨⟨a1, a2, a3, a4, a5, a6.1, ⟨a6.2.1.1, a6.2.1.2.1, hk 2 20 a6.2.1.2.2.1 hx.1, hk 3 20 a6.2.1.2.2.2.1 hx.2.1, hk 4 9 a6.2.1.2.2.2.2 hx.2.2⟩, a6.2.2⟩, ⟨ud_eq b1 rfl, b2, b3, b4, b5, b6⟩, cc, ⟨fun k hk => ?_, ?_, d3, d4⟩, e, o⟩
  · show bt (X.2.1 ||| _) k = bt (X'.2.1 ||| _) k
    rw [bt_or _ (by omega) (by omega), bt_or _ (by omega) (by omega), d1 k hk]
  · show bt (X'.2.1 ||| _) 6 = laV V
    rw [bt_or _ (by omega) (by omega), d2, decide_eq_false (by omega), Bool.or_false]
theorem Vr_la {V V' : Vil} {X X' : Vix} (h : Vr V X V' X') : Vr (vLa V true) X (vLa V' true) (X'.1, X'.2.1 ||| (nI 1 <<< (nI 6 &&& 31)), X'.2.2) := by
  obtain ⟨⟨a1, a2, a3, a4, a5, a6⟩, b, cc, ⟨d1, d2, d3, d4⟩, e, o⟩ := h
  refine ⟨⟨a1, a2, rfl, a4, a5, a6⟩, b, cc, ⟨fun k hk => ?_, ?_, d3, d4⟩, e, o⟩
  · show bt X.2.1 k = bt (X'.2.1 ||| _) k
    rw [bt_or _ (by decide) (by omega), d1 k hk, decide_eq_false (by omega), Bool.or_false]
  · show bt (X'.2.1 ||| _) 6 = true
    rw [bt_or _ (by decide) (by decide), decide_eq_true rfl, Bool.or_true]
theorem Vr_cl {V V' : Vil} {X X' : Vix} (h : Vr V X V' X') : Vr V (X.1 + nI 1, X.2) V' (X'.1 + nI 1, X'.2) := by
  obtain ⟨⟨a1, a2, a3, a4, a5, a6⟩, r⟩ := h
  exact ⟨⟨a1, a2, a3, a4, a5, by show X.1 + nI 1 = X'.1 + nI 1; rw [a6.1], a6.2⟩, r⟩
theorem Rl.cs {T : Nat → Nat} {len : Nat} {z : Tlt len} {y : Rst len} (h : Rl T z y) : ∃ p V X a v got V' X' f' fa', z = (p, V, X, 0, a) ∧ y = (p, v, got, V', X', f', fa') ∧ v < 100000 ∧ Vr V X V' X' ∧ f' = 0 ∧ a = fa' := by
  obtain ⟨p, V, X, f, a⟩ := z
  obtain ⟨p', v, got, V', X', f', fa'⟩ := y
  obtain ⟨h1, h2, h3, h4, hV⟩ := h
  have h1 : p = p' := h1
  have h2 : f = 0 := h2
  subst h1 h2
  exact ⟨p, V, X, a, v, got, V', X', f', fa', rfl, rfl, h4, hV, h3.2⟩
theorem ou_wk {T : Nat → Nat} {len : Nat} (hTa : ∀ k, T k < 256) {z : Tlt len} {y : Rst len} (h : Rl T z y) : Ou T (tlWk T z) (rWy T (advR T y)) := by
  obtain ⟨p, V, X, a, v, got, V', X', f', fa', rfl, rfl, h4, hV, hfa⟩ := h.cs
  have hn5 := hV.1.2.2.2.2.1
  have hv1 : tkV T len (tkE T len p.1) v < 100000 := tkV_lt hTa h4
  have hfn := fn_pn hV T len (nxP T len p).1
  have hfl := fnd_5 (V := V) (g := X.2.2.2.2.2.2) (x := lN (tkM T len (nxP T len p).1)) hn5
  have hst : ∀ z : Tlt len, ¬ z.2.2.2.1 = 0 → tlW2 T z = z := fun z hz => by
    unfold tlW2
    rw [rdP_f T z hz, rdN_f T _ _ _ hz]
    exact if_neg hz
  unfold tlWk rWy
  show Ou T (tlW2 T (if tkK T len (nxP T len p).1 = 1 ∧ fnd X.2.2.2.2.2.2 (lN (tkM T len (nxP T len p).1)) (npV V) 0 < 5 ∧ ¬ wkV V (fnd X.2.2.2.2.2.2 (lN (tkM T len (nxP T len p).1)) (npV V) 0) = 0 then (nxP T len p, V, X, 3, nI (tkS T len (nxP T len p).1)) else (nxP T len p, V, X, 0, a))) (if tkK T len (nxP T len p).1 = 1 then (if fcN T len (nxP T len p).1 X'.2.2.2.2.2.2 (npV V') < 5 then (if wkV V' (fcN T len (nxP T len p).1 X'.2.2.2.2.2.2 (npV V')) = 0 then (if nuB T (nI 1) (nI 15) (advR T (nxP T len p, tkV T len (tkE T len p.1) v, got, V', X', f', fa')) then (true, sWk (nuR T (nI 1) (nI 15) (advR T (nxP T len p, tkV T len (tkE T len p.1) v, got, V', X', f', fa'))) (fcN T len (nxP T len p).1 X'.2.2.2.2.2.2 (npV V'))) else (false, nuR T (nI 1) (nI 15) (advR T (nxP T len p, tkV T len (tkE T len p.1) v, got, V', X', f', fa')))) else (false, badR T (nxP T len p, tkV T len (tkE T len p.1) v, got, V', X', f', fa') 3)) else (false, badR T (nxP T len p, tkV T len (tkE T len p.1) v, got, V', X', f', fa') 5)) else (false, badR T (nxP T len p, tkV T len (tkE T len p.1) v, got, V', X', f', fa') 1))
  rw [hfn]
  have hP := rdP_e T (nxP T len p) V X a
  generalize tkV T len (tkE T len p.1) v = v1 at *
  generalize nxP T len p = p1 at *
  generalize fnd X.2.2.2.2.2.2 (lN (tkM T len p1.1)) (npV V) 0 = c at *
  by_cases k1 : tkK T len p1.1 = 1
  · rw [if_pos k1]
    by_cases k2 : c < 5
    · have hcn : c < npV V := by omega
      rw [if_pos k2, ← hV.2.1.2.2.2.2.1 c hcn]
      by_cases k3 : wkV V c = 0
      · rw [if_neg (fun w => w.2.2 k3), if_pos k3]
        rw [if_pos k1, if_neg (show ¬ c = 5 by omega)] at hP
        have hval : tkK T len (nxP T len p1).1 = 2 → tkV T len (tkE T len p1.1) v1 = tkN T len (nxP T len p1).1 := fun h => tkV_N h
        have hv2 : tkV T len (tkE T len p1.1) v1 < 100000 := tkV_lt hTa hv1
        have hR := rdN_e T (nI 1) (nI 15) (nxP T len p1) V X a
        unfold tlW2
        rw [hP]
        show Ou T (if (rdN T (nI 1) (nI 15) (nxP T len p1, V, X, 0, a)).2.2.2.2.1 = 0 then ((rdN T (nI 1) (nI 15) (nxP T len p1, V, X, 0, a)).2.1, vWk (rdN T (nI 1) (nI 15) (nxP T len p1, V, X, 0, a)).2.2.1 (upd (wkV (rdN T (nI 1) (nI 15) (nxP T len p1, V, X, 0, a)).2.2.1) c (nI (rdN T (nI 1) (nI 15) (nxP T len p1, V, X, 0, a)).1)), (rdN T (nI 1) (nI 15) (nxP T len p1, V, X, 0, a)).2.2.2) else (rdN T (nI 1) (nI 15) (nxP T len p1, V, X, 0, a)).2) _
        have hy : advR T ((p1, v1, got, V', X', f', fa') : Rst len) = (nxP T len p1, tkV T len (tkE T len p1.1) v1, got, V', X', f', fa') := rfl
        rw [hR, hy, nuB_e (nI 1) (nI 15) _ hval, nuR_e (nI 1) (nI 15) _ hval]
        generalize tkV T len (tkE T len p1.1) v1 = v2 at *
        generalize nxP T len p1 = p2 at *
        by_cases o1 : okN T len (nI 1) (nI 15) p2.1 = true
        · have o1' : okN T len (nI 1) (nI 15) ((p2, v2, got, V', X', f', fa') : Rst len).1.1 = true := o1
          rw [if_pos o1, if_pos o1', if_pos o1']
          refine Or.inl ⟨rfl, ?_⟩
          exact Rl.mk' hTa hfa (tkE T len p2.1) rfl hv2 (Vr_wk hV hcn (nI (tkN T len p2.1)))
        · have o1' : ¬ okN T len (nI 1) (nI 15) ((p2, v2, got, V', X', f', fa') : Rst len).1.1 = true := o1
          rw [if_neg o1, if_neg o1', if_neg o1']
          refine Or.inr ⟨rfl, ?_⟩
          show Fl (if kkN T len p2.1 = 0 then _ else _) _
          rw [if_neg (kkN_ne T len p2.1)]
          exact Fl.of rfl (kkN_ne T len p2.1) rfl
      · rw [if_pos ⟨k1, k2, k3⟩, if_neg k3, hst _ (show ¬ (3 : Nat) = 0 by decide)]
        exact Or.inr ⟨rfl, Fl.of (k := 3) rfl (by decide) rfl⟩
    · have hc5 : c = 5 := by omega
      rw [if_neg (fun w => k2 w.2.1), if_neg k2]
      rw [if_pos k1, if_pos hc5] at hP
      refine Or.inr ⟨rfl, Fl.of (k := 5) ?_ (by decide) rfl⟩
      unfold tlW2
      rw [hP, rdN_f T _ _ _ (show ¬ (5 : Nat) = 0 by decide)]
      rfl
  · rw [if_neg (fun w => k1 w.1), if_neg k1]
    rw [if_neg k1] at hP
    refine Or.inr ⟨rfl, Fl.of (k := 1) ?_ (by decide) rfl⟩
    unfold tlW2
    rw [hP, rdN_f T _ _ _ (show ¬ (1 : Nat) = 0 by decide)]
    rfl
theorem ou_la {T : Nat → Nat} {len : Nat} (hTa : ∀ k, T k < 256) {z : Tlt len} {y : Rst len} (h : Rl T z y) (h5 : wdP T len y.1.1 5 = true) : Ou T (tlLa T z) (rSm T y) := by
  obtain ⟨p, V, X, a, v, got, V', X', f', fa', rfl, rfl, h4, hV, hfa⟩ := h.cs
  have h5 : wdP T len p.1 5 = true := h5
  obtain ⟨w6, w7, w8, w9, w10, w11⟩ := wd_5 h5
  have hM : rwM T len p.1 = 6 := by
    unfold rwM
    rw [w6, w7, w8, w9, w10, w11, h5]
    rfl
  unfold tlLa rSm
  show Ou T (if laV V then (p, V, X, 3, nI (tkS T len p.1)) else (nxP T len p, vLa V true, X, 0, a)) (if rwM T len p.1 < 7 then (if bt X'.2.1 (rwM T len p.1) then _ else _) else _)
  rw [hM, if_pos (show 6 < 7 by decide), hV.2.2.2.1.2.1]
  by_cases c : laV V = true
  · rw [if_pos c, if_pos c]
    exact Or.inr ⟨rfl, Fl.of (k := 3) rfl (by decide) rfl⟩
  · rw [if_neg c, if_neg c]
    refine Or.inl ⟨rfl, ?_⟩
    exact Rl.mk' hTa hfa (tkE T len p.1) rfl h4 (Vr_la hV)
theorem rwM_ru {T : Nat → Nat} {len p : Nat} (h5 : ¬ wdP T len p 5 = true) : rwM T len p = if ruN T len p < 6 then ruN T len p else 7 := by
  unfold rwM ruN
  by_cases c6 : wdP T len p 6 = true
  · rw [if_pos c6, if_pos c6]; rfl
  rw [if_neg c6, if_neg c6]
  by_cases c7 : wdP T len p 7 = true
  · rw [if_pos c7, if_pos c7]; rfl
  rw [if_neg c7, if_neg c7]
  by_cases c8 : wdP T len p 8 = true
  · rw [if_pos c8, if_pos c8]; rfl
  rw [if_neg c8, if_neg c8]
  by_cases c9 : wdP T len p 9 = true
  · rw [if_pos c9, if_pos c9]; rfl
  rw [if_neg c9, if_neg c9]
  by_cases c10 : wdP T len p 10 = true
  · rw [if_pos c10, if_pos c10]; rfl
  rw [if_neg c10, if_neg c10]
  by_cases c11 : wdP T len p 11 = true
  · rw [if_pos c11, if_pos c11]; rfl
  rw [if_neg c11, if_neg c11, if_neg h5]
  rfl
theorem ou_ru {T : Nat → Nat} {len : Nat} (hTa : ∀ k, T k < 256) {z : Tlt len} {y : Rst len} (h : Rl T z y) (h5 : ¬ wdP T len y.1.1 5 = true) : Ou T (tlRu T z) (rSm T y) := by
  obtain ⟨p, V, X, a, v, got, V', X', f', fa', rfl, rfl, h4, hV, hfa⟩ := h.cs
  have hM := rwM_ru (T := T) (len := len) (p := p.1) h5
  unfold tlRu rSm
  show Ou T (if ruN T len p.1 < 6 then (if bt X.2.1 (ruN T len p.1) then (p, V, X, 3, nI (tkS T len p.1)) else ((rdN T (ruL (ruN T len p.1)) (ruM (ruN T len p.1)) (nxP T len p, V, (X.1, X.2.1 ||| (nI 1 <<< (nI (ruN T len p.1) &&& 31)), X.2.2), 0, a)).2.1, vRu (rdN T (ruL (ruN T len p.1)) (ruM (ruN T len p.1)) (nxP T len p, V, (X.1, X.2.1 ||| (nI 1 <<< (nI (ruN T len p.1) &&& 31)), X.2.2), 0, a)).2.2.1 (upd (ruV (rdN T (ruL (ruN T len p.1)) (ruM (ruN T len p.1)) (nxP T len p, V, (X.1, X.2.1 ||| (nI 1 <<< (nI (ruN T len p.1) &&& 31)), X.2.2), 0, a)).2.2.1) (ruN T len p.1) (nI (rdN T (ruL (ruN T len p.1)) (ruM (ruN T len p.1)) (nxP T len p, V, (X.1, X.2.1 ||| (nI 1 <<< (nI (ruN T len p.1) &&& 31)), X.2.2), 0, a)).1)), (rdN T (ruL (ruN T len p.1)) (ruM (ruN T len p.1)) (nxP T len p, V, (X.1, X.2.1 ||| (nI 1 <<< (nI (ruN T len p.1) &&& 31)), X.2.2), 0, a)).2.2.2)) else (p, V, X, 1, nI (tkS T len p.1))) (if rwM T len p.1 < 7 then (if bt X'.2.1 (rwM T len p.1) then (false, badR T (p, v, got, V', X', f', fa') 3) else rSy T (rwM T len p.1) (nxP T len p, tkV T len (tkE T len p.1) v, got, V', (X'.1, X'.2.1 ||| (nI 1 <<< (nI (rwM T len p.1) &&& 31)), X'.2.2), f', fa')) else (false, badR T (p, v, got, V', X', f', fa') 1))
  generalize ruN T len p.1 = r at *
  by_cases c : r < 6
  · rw [if_pos c] at hM
    rw [hM, if_pos c, if_pos (show r < 7 by omega), hV.2.2.2.1.1 r c]
    by_cases c2 : bt X'.2.1 r = true
    · rw [if_pos c2, if_pos c2]
      exact Or.inr ⟨rfl, Fl.of (k := 3) rfl (by decide) rfl⟩
    · rw [if_neg c2, if_neg c2, rdN_e]
      unfold rSy
      rw [if_neg (show ¬ r = 6 by omega)]
      have hval : tkK T len (nxP T len p).1 = 2 → tkV T len (tkE T len p.1) v = tkN T len (nxP T len p).1 := fun h => tkV_N h
      have hv2 : tkV T len (tkE T len p.1) v < 100000 := tkV_lt hTa h4
      rw [nuB_e (ruL r) (ruM r) _ hval, nuR_e (ruL r) (ruM r) _ hval]
      generalize tkV T len (tkE T len p.1) v = v2 at *
      generalize nxP T len p = p2 at *
      by_cases o1 : okN T len (ruL r) (ruM r) p2.1 = true
      · have o1' : okN T len (ruL r) (ruM r) ((p2, v2, got, V', (X'.1, X'.2.1 ||| (nI 1 <<< (nI r &&& 31)), X'.2.2), f', fa') : Rst len).1.1 = true := o1
        rw [if_pos o1, if_pos o1', if_pos o1']
        refine Or.inl ⟨rfl, ?_⟩
        exact Rl.mk' hTa hfa (tkE T len p2.1) rfl hv2 (Vr_ru hV c (nI (tkN T len p2.1)) ⟨fun z => by subst z; exact (okN_ib o1).mono (by decide) (by decide), fun z => by subst z; exact (okN_ib o1).mono (by decide) (by decide), fun z => by subst z; exact (okN_ib o1).mono (by decide) (by decide)⟩)
      · have o1' : ¬ okN T len (ruL r) (ruM r) ((p2, v2, got, V', (X'.1, X'.2.1 ||| (nI 1 <<< (nI r &&& 31)), X'.2.2), f', fa') : Rst len).1.1 = true := o1
        rw [if_neg o1, if_neg o1', if_neg o1']
        exact Or.inr ⟨rfl, Fl.of rfl (kkN_ne T len p2.1) rfl⟩
  · rw [if_neg c] at hM
    rw [hM, if_neg c, if_neg (by decide)]
    exact Or.inr ⟨rfl, Fl.of (k := 1) rfl (by decide) rfl⟩
