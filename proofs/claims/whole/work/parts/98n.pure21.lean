/-! TELLING: houses -/
theorem Fl.of {len : Nat} {z : Tlt len} {y : Rst len} {k : Nat} {pl : Int32} (h1 : z.2.2.2 = (k, pl)) (hk : ¬ k = 0) (h2 : y.2.2.2.2.2 = (k, pl)) : Fl z y := by
  refine ⟨by rw [h1]; exact hk, by rw [h1, h2], by rw [h1, h2]⟩
theorem updL_self (g : Nat → Int64) (k : Nat) (x : Int64) : vp_updL g k x k = x := if_pos rfl
theorem updL_ne (g : Nat → Int64) {k j : Nat} (x : Int64) (h : ¬ j = k) : vp_updL g k x j = g j := if_neg h
theorem ud_b {f g : Nat → Int32} {n k : Nat} (x : Int32) (h : k < n → f k = g k) (hk : k < n + 1) : upd f n x k = upd g n x k := by
  by_cases e : k = n
  · subst e; rw [upd_self, upd_self]
  · rw [upd_ne _ _ e, upd_ne _ _ e]; exact h (by omega)
theorem ul_b {f g : Nat → Int64} {n k : Nat} (x : Int64) (h : k < n → f k = g k) (hk : k < n + 1) : vp_updL f n x k = vp_updL g n x k := by
  by_cases e : k = n
  · subst e; rw [updL_self, updL_self]
  · rw [updL_ne _ _ e, updL_ne _ _ e]; exact h (by omega)
theorem Vr_hs {V V' : Vil} {X X' : Vix} {n : Nat} (h : Vr V X V' X') (hn : n = nhV V) (h5 : n < 5) (nm : Int64) (a b c : Int32) (ha : Ib a 0 99) (hb : Ib b 0 20) (hc : Ib c 0 100) : Vr (nhV V + 1, npV V, laV V, ruV V, upd (woV V) n b, owV V, hoV V, wkV V, tiV V) (X.1, X.2.1, X.2.2.1, vp_updL X.2.2.2.1 n nm, upd X.2.2.2.2.1 n a, upd X.2.2.2.2.2.1 n c, X.2.2.2.2.2.2) (nhV V' + 1, npV V', laV V', ruV V', upd (woV V') n b, upN (owV V') n 5, hoV V', wkV V', tiV V') (X'.1, X'.2.1, X'.2.2.1, vp_updL X'.2.2.2.1 n nm, upd X'.2.2.2.2.1 n a, upd X'.2.2.2.2.2.1 n c, X'.2.2.2.2.2.2) := by
  obtain ⟨⟨a1, a2, a3, a4, a5, a6⟩, ⟨b1, b2, b3, b4, b5, b6⟩, ⟨c1, c2, c3, c4⟩, ⟨d1, d2, d3, d4⟩, ⟨e1, e2, e3, e4⟩, o1, o2, o3, o4, o5⟩ := h
  subst hn
  have hown : owV V (nhV V) = 5 := e1 _ (Nat.le_refl _)
  refine ⟨⟨by show nhV V + 1 = nhV V' + 1; rw [a1], a2, a3, by show nhV V + 1 ≤ 5; omega, a5, a6.1, ⟨fun h hh => ?_, a6.2.1.2⟩, fun h hh => ?_⟩, ⟨b1, fun h hh => ud_b b (b2 h) hh, fun h hh => ?_, b4, b5, b6⟩, ⟨fun h hh => ud_b a (c1 h) hh, fun h hh => ud_b c (c2 h) hh, fun h hh => ul_b nm (c3 h) hh, c4⟩, ⟨d1, d2, d3, d4⟩, ⟨fun h hh => e1 h (by have hh : nhV V + 1 ≤ h := hh; omega), e2, e3, e4⟩, by show nhV V + 1 ≤ 5; omega, o2, fun h hh => ?_, fun p hp => ?_, fun h p hh hp => ?_⟩
  · have hh : h < nhV V + 1 := hh
    show Ib (upd (woV V) (nhV V) b h) 0 20
    by_cases e : h = nhV V
    · subst e; rw [upd_self]; exact hb
    · rw [upd_ne _ _ e]; exact a6.2.1.1 h (by omega)
  · have hh : h < nhV V + 1 := hh
    show Ib (upd X.2.2.2.2.1 (nhV V) a h) 0 99 ∧ Ib (upd X.2.2.2.2.2.1 (nhV V) c h) 0 100
    by_cases e : h = nhV V
    · subst e; rw [upd_self, upd_self]; exact ⟨ha, hc⟩
    · rw [upd_ne _ _ e, upd_ne _ _ e]; exact a6.2.2 h (by omega)
  · have hh : h < nhV V + 1 := hh
    show owV V h = upN (owV V') (nhV V) 5 h
    by_cases e : h = nhV V
    · subst e; rw [upN_self]; exact hown
    · rw [upN_ne _ _ e]; exact b3 h (by omega)
  · have hh : h < nhV V + 1 := hh
    by_cases e : h = nhV V
    · subst e; exact Or.inr hown
    · exact o3 h (by omega)
  · have := o4 p hp
    show hoV V p < nhV V + 1 ∨ hoV V p = 5
    omega
  · have hh : h < nhV V + 1 := hh
    have hp : p < npV V := hp
    show owV V h = p ↔ hoV V p = h
    by_cases e : h = nhV V
    · subst e
      have := o4 p hp
      rw [hown]
      exact ⟨fun z => by omega, fun z => by omega⟩
    · exact o5 h p (by omega) hp
theorem okN_f {T : Nat → Nat} {len : Nat} {lo hi : Int32} {p : Nat} (h : ¬ okN T len lo hi p = true) : okN T len lo hi p = false := by
  cases hx : okN T len lo hi p
  · rfl
  · exact absurd hx h
theorem ou_hs {T : Nat → Nat} {len : Nat} (hTa : ∀ k, T k < 256) {z : Tlt len} {y : Rst len} (h : Rl T z y) : Ou T (tlHs T z) (rHs T y) := by
  obtain ⟨p, V, X, f, a⟩ := z
  obtain ⟨p', v, got, V', X', f', fa'⟩ := y
  obtain ⟨h1, h2, h3, h4, hV⟩ := h
  have h1 : p = p' := h1
  have h2 : f = 0 := h2
  subst h1 h2
  have h4 : v < 100000 := h4
  have hfa : f' = 0 ∧ a = fa' := h3.2
  have hV : Vr V X V' X' := hV
  have hn : nhV V = nhV V' := hV.1.1
  have hn5 := hV.1.2.2.2.1
  unfold tlHs rHs
  show Ou T (if nhV V < 5 then sNh (tlH3 T (nhV V) (tlH2 T (nhV V) (tlH1 T (nhV V) (tlH0 T (nhV V) (p, V, X, 0, a))))) else blm T (p, V, X, 0, a) 4) (if nhV V' = 5 then (false, badR T (p, v, got, V', X', f', fa') 4) else rH0 T (nhV V') (advR T (p, v, got, V', X', f', fa')))
  by_cases hc : nhV V < 5
  · rw [if_pos hc, if_neg (by omega), ← hn]
    have hfn : fcN T len (nxP T len p).1 X'.2.2.2.1 (nhV V) = fnd X.2.2.2.1 (lN (tkM T len (nxP T len p).1)) (nhV V) 0 := by
      unfold fcN
      exact (fnd_ext (nhV V) 0 (fun j _ hj => hV.2.2.1.2.2.1 j (by omega))).symm
    have s1 : ∀ (z : Tlt len) n, ¬ z.2.2.2.1 = 0 → (tlH1 T n z).2.2.2 = z.2.2.2 := fun z n hz => by unfold tlH1; rw [rdN_f T _ _ z hz]; rfl
    have s2 : ∀ (z : Tlt len) n, ¬ z.2.2.2.1 = 0 → (tlH2 T n z).2.2.2 = z.2.2.2 := fun z n hz => by unfold tlH2; rw [rdN_f T _ _ z hz]; rfl
    have s3 : ∀ (z : Tlt len) n, ¬ z.2.2.2.1 = 0 → (tlH3 T n z).2.2.2 = z.2.2.2 := fun z n hz => by unfold tlH3; rw [rdN_f T _ _ z hz]; rfl
    have s23 : ∀ (z : Tlt len) n, ¬ z.2.2.2.1 = 0 → (sNh (tlH3 T n (tlH2 T n z))).2.2.2 = z.2.2.2 := fun z n hz => by
      show (tlH3 T n (tlH2 T n z)).2.2.2 = _
      rw [s3 _ n (by rw [s2 z n hz]; exact hz), s2 z n hz]
    have s123 : ∀ (z : Tlt len) n, ¬ z.2.2.2.1 = 0 → (sNh (tlH3 T n (tlH2 T n (tlH1 T n z)))).2.2.2 = z.2.2.2 := fun z n hz => by
      rw [s23 _ n (by rw [s1 z n hz]; exact hz), s1 z n hz]
    unfold tlH0 rH0
    have hw : rdW T true (adv T (p, V, X, 0, a)) = if tkK T len (nxP T len p).1 = 1 then (if fnd X.2.2.2.1 (lN (tkM T len (nxP T len p).1)) (nhV V) 0 = 5 then (nxP T len (nxP T len p), V, X, 0, a) else (nxP T len p, V, X, 3, nI (tkS T len (nxP T len p).1))) else (nxP T len p, V, X, 1, nI (tkS T len (nxP T len p).1)) := rfl
    have hf : frB T len (advR T (p, v, got, V', X', f', fa')).1.1 (advR T (p, v, got, V', X', f', fa')).2.2.2.2.1.2.2.2.1 (nhV V) = (decide (tkK T len (nxP T len p).1 = 1) && decide (fcN T len (nxP T len p).1 X'.2.2.2.1 (nhV V) = 5)) := rfl
    have hF : fhR T (nhV V) (advR T (p, v, got, V', X', f', fa')) = if tkK T len (nxP T len p).1 = 1 then (if fcN T len (nxP T len p).1 X'.2.2.2.1 (nhV V) = 5 then (nxP T len (nxP T len p), tkV T len (tkE T len (nxP T len p).1) (tkV T len (tkE T len p.1) v), got, V', (X'.1, X'.2.1, X'.2.2.1, vp_updL X'.2.2.2.1 (nhV V) (lN (tkM T len (nxP T len p).1)), X'.2.2.2.2), f', fa') else (nxP T len p, tkV T len (tkE T len p.1) v, got, V', (X'.1, X'.2.1, X'.2.2.1, X'.2.2.2.1, X'.2.2.2.2), 3, nI (tkS T len (nxP T len p).1))) else (nxP T len p, tkV T len (tkE T len p.1) v, got, V', (X'.1, X'.2.1, X'.2.2.1, X'.2.2.2.1, X'.2.2.2.2), 1, nI (tkS T len (nxP T len p).1)) := by
      unfold fhR fhT fsT
      show (_, _, _, _, _, _) = _
      by_cases k1 : tkK T len (nxP T len p).1 = 1
      · have k1' : tkK T len (advR T (p, v, got, V', X', f', fa')).1.1 = 1 := k1
        rw [if_pos k1', if_pos k1]
        by_cases k2 : fcN T len (nxP T len p).1 X'.2.2.2.1 (nhV V) = 5
        · have k2' : fcN T len (advR T (p, v, got, V', X', f', fa')).1.1 (advR T (p, v, got, V', X', f', fa')).2.2.2.2.1.2.2.2.1 (nhV V) = 5 := k2
          rw [if_pos k2', if_pos k2]; rfl
        · have k2' : ¬ fcN T len (advR T (p, v, got, V', X', f', fa')).1.1 (advR T (p, v, got, V', X', f', fa')).2.2.2.2.1.2.2.2.1 (nhV V) = 5 := k2
          rw [if_neg k2', if_neg k2]; rfl
      · have k1' : ¬ tkK T len (advR T (p, v, got, V', X', f', fa')).1.1 = 1 := k1
        rw [if_neg k1', if_neg k1]; rfl
    have hv1 : tkV T len (tkE T len p.1) v < 100000 := tkV_lt hTa h4
    have hm : (adv T ((p, V, X, 0, a) : Tlt len)).1.1 = (nxP T len p).1 := rfl
    rw [hw, hf, hF, hfn, hm]
    clear hw hf hF hfn
    generalize tkV T len (tkE T len p.1) v = v1 at *
    generalize nxP T len p = p1 at *
    by_cases k1 : tkK T len p1.1 = 1
    · rw [if_pos k1, if_pos k1, decide_eq_true k1, Bool.true_and]
      by_cases k2 : fnd X.2.2.2.1 (lN (tkM T len p1.1)) (nhV V) 0 = 5
      · rw [if_pos k2, if_pos k2, decide_eq_true k2, if_pos rfl]
        have hp2 : (nxP T len p1).1 = tkE T len p1.1 := rfl
        have hval2 : tkK T len (nxP T len p1).1 = 2 → tkV T len (tkE T len p1.1) v1 = tkN T len (nxP T len p1).1 := fun h => tkV_N h
        have hv2 : tkV T len (tkE T len p1.1) v1 < 100000 := tkV_lt hTa hv1
        generalize tkV T len (tkE T len p1.1) v1 = v2 at *
        generalize nxP T len p1 = p2 at *
        clear hp2
        have e1 : tlH1 T (nhV V) (sHn (p2, V, X, 0, a) (nhV V) (lN (tkM T len p1.1))) = sSo (if okN T len (nI 0) (nI 99) p2.1 then (nxP T len p2, V, (X.1, X.2.1, X.2.2.1, vp_updL X.2.2.2.1 (nhV V) (lN (tkM T len p1.1)), X.2.2.2.2), 0, a) else (p2, V, (X.1, X.2.1, X.2.2.1, vp_updL X.2.2.2.1 (nhV V) (lN (tkM T len p1.1)), X.2.2.2.2), kkN T len p2.1, nI (tkS T len p2.1))) (nhV V) (nI (tkN T len p2.1)) := by
          have := rdN_e T (nI 0) (nI 99) p2 V (X.1, X.2.1, X.2.2.1, vp_updL X.2.2.2.1 (nhV V) (lN (tkM T len p1.1)), X.2.2.2.2) a
          unfold tlH1
          show sSo (rdN T (nI 0) (nI 99) (p2, V, (X.1, X.2.1, X.2.2.1, vp_updL X.2.2.2.1 (nhV V) (lN (tkM T len p1.1)), X.2.2.2.2), 0, a)).2 (nhV V) (nI (rdN T (nI 0) (nI 99) (p2, V, (X.1, X.2.1, X.2.2.1, vp_updL X.2.2.2.1 (nhV V) (lN (tkM T len p1.1)), X.2.2.2.2), 0, a)).1) = _
          rw [this]
        unfold rH1
        rw [e1, nuB_e (nI 0) (nI 99) _ hval2, nuR_e (nI 0) (nI 99) _ hval2]
        clear e1
        show Ou T _ (if okN T len (nI 0) (nI 99) p2.1 then _ else _)
        by_cases o1 : okN T len (nI 0) (nI 99) p2.1 = true
        · rw [if_pos o1, if_pos o1]
          have hval3 : tkK T len (nxP T len p2).1 = 2 → tkV T len (tkE T len p2.1) v2 = tkN T len (nxP T len p2).1 := fun h => tkV_N h
          have hv3 : tkV T len (tkE T len p2.1) v2 < 100000 := tkV_lt hTa hv2
          have o1' : okN T len (nI 0) (nI 99) ((p2, v2, got, V', (X'.1, X'.2.1, X'.2.2.1, vp_updL X'.2.2.2.1 (nhV V) (lN (tkM T len p1.1)), X'.2.2.2.2), f', fa') : Rst len).1.1 = true := o1
          rw [if_pos o1']
          show Ou T (sNh (tlH3 T (nhV V) (tlH2 T (nhV V) (nxP T len p2, V, (X.1, X.2.1, X.2.2.1, vp_updL X.2.2.2.1 (nhV V) (lN (tkM T len p1.1)), upd X.2.2.2.2.1 (nhV V) (nI (tkN T len p2.1)), X.2.2.2.2.2), 0, a)))) (rH2 T (nhV V) (nxP T len p2, tkV T len (tkE T len p2.1) v2, nI (tkN T len p2.1), V', (X'.1, X'.2.1, X'.2.2.1, vp_updL X'.2.2.2.1 (nhV V) (lN (tkM T len p1.1)), upd X'.2.2.2.2.1 (nhV V) (nI (tkN T len p2.1)), X'.2.2.2.2.2), f', fa'))
          have i1 := okN_ib o1
          clear o1' o1
          generalize tkN T len p2.1 = n1 at *
          generalize tkV T len (tkE T len p2.1) v2 = v3 at *
          generalize nxP T len p2 = p3 at *
          generalize lN (tkM T len p1.1) = nm at *
          have e2 := rdN_e T (nI 0) (nI 20) p3 V (X.1, X.2.1, X.2.2.1, vp_updL X.2.2.2.1 (nhV V) nm, upd X.2.2.2.2.1 (nhV V) (nI n1), X.2.2.2.2.2) a
          have s2' : tlH2 T (nhV V) (p3, V, (X.1, X.2.1, X.2.2.1, vp_updL X.2.2.2.1 (nhV V) nm, upd X.2.2.2.2.1 (nhV V) (nI n1), X.2.2.2.2.2), 0, a) = sWo (if okN T len (nI 0) (nI 20) p3.1 then (nxP T len p3, V, (X.1, X.2.1, X.2.2.1, vp_updL X.2.2.2.1 (nhV V) nm, upd X.2.2.2.2.1 (nhV V) (nI n1), X.2.2.2.2.2), 0, a) else (p3, V, (X.1, X.2.1, X.2.2.1, vp_updL X.2.2.2.1 (nhV V) nm, upd X.2.2.2.2.1 (nhV V) (nI n1), X.2.2.2.2.2), kkN T len p3.1, nI (tkS T len p3.1))) (nhV V) (nI (tkN T len p3.1)) := by unfold tlH2; rw [e2]
          unfold rH2
          rw [s2', nuB_e (nI 0) (nI 20) _ hval3, nuR_e (nI 0) (nI 20) _ hval3]
          clear s2' e2
          by_cases o2 : okN T len (nI 0) (nI 20) p3.1 = true
          · have o2' : okN T len (nI 0) (nI 20) ((p3, v3, nI n1, V', (X'.1, X'.2.1, X'.2.2.1, vp_updL X'.2.2.2.1 (nhV V) nm, upd X'.2.2.2.2.1 (nhV V) (nI n1), X'.2.2.2.2.2), f', fa') : Rst len).1.1 = true := o2
            rw [if_pos o2, if_pos o2', if_pos o2']
            have hval4 : tkK T len (nxP T len p3).1 = 2 → tkV T len (tkE T len p3.1) v3 = tkN T len (nxP T len p3).1 := fun h => tkV_N h
            have hv4 : tkV T len (tkE T len p3.1) v3 < 100000 := tkV_lt hTa hv3
            show Ou T (sNh (tlH3 T (nhV V) (nxP T len p3, (nhV V, npV V, laV V, ruV V, upd (woV V) (nhV V) (nI (tkN T len p3.1)), owV V, hoV V, wkV V, tiV V), (X.1, X.2.1, X.2.2.1, vp_updL X.2.2.2.1 (nhV V) nm, upd X.2.2.2.2.1 (nhV V) (nI n1), X.2.2.2.2.2), 0, a))) (rH3 T (nhV V) (nxP T len p3, tkV T len (tkE T len p3.1) v3, nI (tkN T len p3.1), (nhV V', npV V', laV V', ruV V', upd (woV V') (nhV V) (nI (tkN T len p3.1)), owV V', hoV V', wkV V', tiV V'), (X'.1, X'.2.1, X'.2.2.1, vp_updL X'.2.2.2.1 (nhV V) nm, upd X'.2.2.2.2.1 (nhV V) (nI n1), X'.2.2.2.2.2), f', fa'))
            have i2 := okN_ib o2
            clear o2' o2
            generalize tkN T len p3.1 = n2 at *
            generalize tkV T len (tkE T len p3.1) v3 = v4 at *
            generalize nxP T len p3 = p4 at *
            have e3 := rdN_e T (nI 0) (nI 100) p4 (nhV V, npV V, laV V, ruV V, upd (woV V) (nhV V) (nI n2), owV V, hoV V, wkV V, tiV V) (X.1, X.2.1, X.2.2.1, vp_updL X.2.2.2.1 (nhV V) nm, upd X.2.2.2.2.1 (nhV V) (nI n1), X.2.2.2.2.2) a
            unfold tlH3 rH3
            rw [e3, nuB_e (nI 0) (nI 100) _ hval4, nuR_e (nI 0) (nI 100) _ hval4]
            clear e3
            by_cases o3 : okN T len (nI 0) (nI 100) p4.1 = true
            · have o3' : okN T len (nI 0) (nI 100) ((p4, v4, nI n2, (nhV V', npV V', laV V', ruV V', upd (woV V') (nhV V) (nI n2), owV V', hoV V', wkV V', tiV V'), (X'.1, X'.2.1, X'.2.2.1, vp_updL X'.2.2.2.1 (nhV V) nm, upd X'.2.2.2.2.1 (nhV V) (nI n1), X'.2.2.2.2.2), f', fa') : Rst len).1.1 = true := o3
              rw [if_pos o3, if_pos o3', if_pos o3']
              refine Or.inl ⟨rfl, ?_⟩
              exact Rl.mk' hTa hfa (tkE T len p4.1) rfl hv4 (Vr_hs hV rfl hc nm (nI n1) (nI n2) (nI (tkN T len p4.1)) (i1.mono (by decide) (by decide)) (i2.mono (by decide) (by decide)) ((okN_ib o3).mono (by decide) (by decide)))
            · have o3' : ¬ okN T len (nI 0) (nI 100) ((p4, v4, nI n2, (nhV V', npV V', laV V', ruV V', upd (woV V') (nhV V) (nI n2), owV V', hoV V', wkV V', tiV V'), (X'.1, X'.2.1, X'.2.2.1, vp_updL X'.2.2.2.1 (nhV V) nm, upd X'.2.2.2.2.1 (nhV V) (nI n1), X'.2.2.2.2.2), f', fa') : Rst len).1.1 = true := o3
              rw [if_neg o3, if_neg o3', if_neg o3']
              exact Or.inr ⟨rfl, Fl.of rfl (kkN_ne T len p4.1) rfl⟩
          · have o2' : ¬ okN T len (nI 0) (nI 20) ((p3, v3, nI n1, V', (X'.1, X'.2.1, X'.2.2.1, vp_updL X'.2.2.2.1 (nhV V) nm, upd X'.2.2.2.2.1 (nhV V) (nI n1), X'.2.2.2.2.2), f', fa') : Rst len).1.1 = true := o2
            rw [if_neg o2, if_neg o2', if_neg o2']
            refine Or.inr ⟨rfl, Fl.of ?_ (kkN_ne T len p3.1) rfl⟩
            show (tlH3 T (nhV V) _).2.2.2 = _
            rw [s3 _ _ (kkN_ne T len p3.1)]
            rfl
        · have o1' : ¬ okN T len (nI 0) (nI 99) ((p2, v2, got, V', (X'.1, X'.2.1, X'.2.2.1, vp_updL X'.2.2.2.1 (nhV V) (lN (tkM T len p1.1)), X'.2.2.2.2), f', fa') : Rst len).1.1 = true := o1
          rw [if_neg o1, if_neg o1, if_neg o1']
          refine Or.inr ⟨rfl, Fl.of ?_ (kkN_ne T len p2.1) rfl⟩
          rw [s23 _ _ (kkN_ne T len p2.1)]
          rfl
      · rw [if_neg k2, if_neg k2, decide_eq_false k2, if_neg nft]
        refine Or.inr ⟨rfl, Fl.of (k := 3) ?_ (by decide) rfl⟩
        rw [s123 _ _ (show ¬ (3 : Nat) = 0 by decide)]
        rfl
    · rw [if_neg k1, if_neg k1, decide_eq_false k1, Bool.false_and, if_neg nft]
      refine Or.inr ⟨rfl, Fl.of (k := 1) ?_ (by decide) rfl⟩
      rw [s123 _ _ (show ¬ (1 : Nat) = 0 by decide)]
      rfl
  · rw [if_neg hc, if_pos (by omega)]
    exact Or.inr ⟨rfl, Fl.of (k := 4) rfl (by decide) rfl⟩
