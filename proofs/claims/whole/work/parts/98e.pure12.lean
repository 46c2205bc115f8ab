/-! RESTS, COUNTED AND FOUND -/
theorem nvF_zero (mo : Nat → Nat) {ch : Nat → Nat} : ∀ n, (∀ k, k < n → ch k = 0) → nvF mo n ch = 0 := by
  intro n
  induction n with
  | zero => intro _; rfl
  | succ n ih =>
    intro h
    show nvF mo n ch * mo n + ch n = 0
    rw [ih (fun k hk => h k (by omega)), h n (by omega)]
    omega
theorem mst_pos (V : Vil) (t k : Nat) : 0 < mst V t k := by unfold mst; split <;> omega
theorem mst_tt {V : Vil} (hO : Vok V) (t : Nat) : ttF (mst V t) (npV V) ≤ 7776 := by
  have h5 := hO.1
  refine Nat.le_trans (ttF_le6 (npV V) (fun k _ => ?_)) (Nat.le_trans (Nat.pow_le_pow_right (by decide) hO.2.1) (by decide))
  unfold mst
  split <;> omega
theorem fs_sp {V V0 : Vil} {o : Ovr} {L L' : Nat → Int32} {S S' : Scn} {G : Nat → Int64} {G' : Nat → Int32} {mo K u : Nat → Nat} (h : Rv V V0 o L L' S S') (hmo : ∀ k, k < npV V → mo k = mst V (psS S) k) (hu : Wts mo K (npV V) u) (hG : ∀ ch', (∀ k, k < npV V → ch' k < mst V (psS S) k) → ∀ p, p < npV V → unG (G (nvF (mst V (psS S)) (npV V) ch')) p = gwC V L S ch' p) (hG' : ∀ x p, x < rwN V0 → p < npV V0 → G' (5 * x + p) = gwR V0 o L' S' x p) (k : Int32) : ∀ (n r c : Nat) (ch : Nat → Nat) (f : Nat) (W : Nat → Nat), (c < 5 → (∀ k, k < npV V → ch k < mst V (psS S) k) ∧ r = nvF (mst V (psS S)) (npV V) ch ∧ ttF (mst V (psS S)) (npV V) ≤ r + n ∧ f = rsN V0 (psS S') G' (xRe V (psS S) ch)) → (¬ c < 5 → f = rsN V0 (psS S') G' (rwN V0)) →
    (∃ x, x < rwN V0 ∧ irB V0 (psS S') G' x = true ∧ nI (rsN V0 (psS S') G' x) = k ∧ (fsF V (psS S) G mo K k n r c ch f W).1 = rsN V0 (psS S') G' x + 1 ∧ ∀ p, p < npV V → (fsF V (psS S) G mo K k n r c ch f W).2.2 p = wsR V0 x p) ∨ ((fsF V (psS S) G mo K k n r c ch f W).1 = rsN V0 (psS S') G' (rwN V0) ∧ (c < 5 → ∀ x, xRe V (psS S) ch ≤ x → x < rwN V0 → irB V0 (psS S') G' x = true → ¬ nI (rsN V0 (psS S') G' x) = k)) := by
  have hp5 := h.1.2.1
  have hrw : rwN V0 = rwN V := by unfold rwN; rw [h.nh, h.np]
  intro n
  induction n with
  | zero =>
    intro r c ch f W h1 h2
    by_cases hc : c < 5
    · have a := h1 hc
      have b := nvF_lt (mst V (psS S)) (npV V) a.1
      omega
    · exact Or.inr ⟨h2 hc, fun z => absurd z hc⟩
  | succ n ih =>
    intro r c ch f W h1 h2
    by_cases hc : c < 5
    · obtain ⟨v1, v2, v3, v4⟩ := h1 hc
      have hu1 : fsF V (psS S) G mo K k (n + 1) r c ch f W = (if rsB G ch mo K r (npV V) then (if nI (f + 1) = k + nI 1 then (f + 1, ch, wrF V (psS S) ch W (npV V)) else fsF V (psS S) G mo K k n (r + 1) (gcF mo (npV V) ch).2 (gcF mo (npV V) ch).1 (f + 1) W) else fsF V (psS S) G mo K k n (r + 1) (gcF mo (npV V) ch).2 (gcF mo (npV V) ch).1 f W) := if_pos hc
      have hsp := gcF_sp mo (npV V) ch (fun k hk => by rw [hmo k hk]; exact v1 k hk)
      rw [nvF_mo (npV V) hmo, ttF_mo (npV V) hmo, nvF_mo (npV V) hmo] at hsp
      have hre := re_iff h hmo hu hG hG' v1
      rw [← v2] at hre
      obtain ⟨g1, g2, g3⟩ := gap_rows (F := rsN V0 (psS S') G') (Q := irB V0 (psS S') G') (n := npV V) (N := rwN V0) (mo := mst V (psS S)) (X := xRe V (psS S)) (fun x hx => by rw [rsN_s, if_neg hx]) (fun x hx hq => re_sur h hx hq) (fun a b ha hb => (xRe_ord ha hb).1) (fun a ha => by rw [hrw]; exact xRe_lt ha) v1
      have hnext : ∀ f', f' = rsN V0 (psS S') G' (xRe V (psS S) ch + 1) → ((gcF mo (npV V) ch).2 < 5 → (∀ k, k < npV V → (gcF mo (npV V) ch).1 k < mst V (psS S) k) ∧ r + 1 = nvF (mst V (psS S)) (npV V) (gcF mo (npV V) ch).1 ∧ ttF (mst V (psS S)) (npV V) ≤ r + 1 + n ∧ f' = rsN V0 (psS S') G' (xRe V (psS S) (gcF mo (npV V) ch).1)) ∧ (¬ (gcF mo (npV V) ch).2 < 5 → f' = rsN V0 (psS S') G' (rwN V0)) := fun f' hf' => by
        rcases hsp with ⟨a1, a2⟩ | ⟨a1, a2, a3, a4, a5⟩
        · exact ⟨fun z => by omega, fun _ => by rw [hf', g2 a2]⟩
        · have a2' : ∀ k, k < npV V → (gcF mo (npV V) ch).1 k < mst V (psS S) k := fun k hk => by rw [← hmo k hk]; exact a2 k hk
          exact ⟨fun _ => ⟨a2', by omega, by omega, by rw [hf', g3 _ a2' a4]⟩, fun z => by omega⟩
      have hafter : ∀ x, xRe V (psS S) ch < x → x < rwN V0 → irB V0 (psS S') G' x = true → (gcF mo (npV V) ch).2 < 5 ∧ xRe V (psS S) (gcF mo (npV V) ch).1 ≤ x := fun x hx hxl hq => by
        obtain ⟨c', hc', e⟩ := re_sur h hxl hq
        have o1 := (xRe_ord v1 hc').1.mpr (by omega)
        rcases hsp with ⟨a1, a2⟩ | ⟨a1, a2, a3, a4, a5⟩
        · have := nvF_lt (mst V (psS S)) (npV V) hc'
          omega
        · have a2' : ∀ k, k < npV V → (gcF mo (npV V) ch).1 k < mst V (psS S) k := fun k hk => by rw [← hmo k hk]; exact a2 k hk
          refine ⟨by omega, ?_⟩
          by_cases e2 : xRe V (psS S) (gcF mo (npV V) ch).1 ≤ x
          · exact e2
          · have := (xRe_ord hc' a2').1.mpr (by omega)
            omega
      rw [hu1]
      by_cases hb : rsB G ch mo K r (npV V) = true
      · have hq := hre.mp hb
        rw [if_pos hb]
        by_cases hk : nI (f + 1) = k + nI 1
        · rw [if_pos hk]
          refine Or.inl ⟨xRe V (psS S) ch, by rw [hrw]; exact xRe_lt v1, hq, by rw [← v4]; exact nI_canc.mp hk, by rw [← v4], fun p hp => ?_⟩
          show wrF V (psS S) ch W (npV V) p = _
          rw [wrF_at _ _ _ _ _ _ hp, h.ws v1 hp]
          unfold dRe
          have hv := v1 p hp
          unfold mst at hv
          by_cases cw : wkB V p (psS S) = true
          · rw [if_pos cw, if_pos cw]; exact (plR_top _).symm
          · rw [if_neg cw] at hv
            rw [if_neg cw, if_neg cw]; exact (plR_plc hv).symm
        · rw [if_neg hk]
          obtain ⟨m1, m2⟩ := hnext (f + 1) (by rw [rsN_s, if_pos hq, v4])
          rcases ih (r + 1) (gcF mo (npV V) ch).2 (gcF mo (npV V) ch).1 (f + 1) W m1 m2 with hA | ⟨hB1, hB2⟩
          · exact Or.inl hA
          · refine Or.inr ⟨hB1, fun _ x x1 x2 x3 => ?_⟩
            by_cases e : xRe V (psS S) ch = x
            · rw [← e, ← v4]; exact fun z => hk (nI_canc.mpr z)
            · obtain ⟨w1, w2⟩ := hafter x (by omega) x2 x3
              exact hB2 w1 x w2 x2 x3
      · have hq : ¬ irB V0 (psS S') G' (xRe V (psS S) ch) = true := fun z => hb (hre.mpr z)
        rw [if_neg hb]
        obtain ⟨m1, m2⟩ := hnext f (by rw [rsN_s, if_neg hq, v4])
        rcases ih (r + 1) (gcF mo (npV V) ch).2 (gcF mo (npV V) ch).1 f W m1 m2 with hA | ⟨hB1, hB2⟩
        · exact Or.inl hA
        · refine Or.inr ⟨hB1, fun _ x x1 x2 x3 => ?_⟩
          by_cases e : xRe V (psS S) ch = x
          · rw [← e] at x3; exact absurd x3 hq
          · obtain ⟨w1, w2⟩ := hafter x (by omega) x2 x3
            exact hB2 w1 x w2 x2 x3
    · have hu1 : fsF V (psS S) G mo K k (n + 1) r c ch f W = (f, ch, W) := if_neg hc
      rw [hu1]
      exact Or.inr ⟨h2 hc, fun z => absurd z hc⟩
theorem bgR_mo (T : Tst) : ∀ k, k < npV (vT T) → (bgR T).1 k = mst (vT T) (psS (oT T)) k := by
  intro k hk
  unfold bgR
  rw [(brF_mo (vT T) (psS (oT T)) (npV (vT T)) _).1 k hk]
  unfold mst
  have e : ((pre (fun _ => nhV (vT T) + 1) (mT T) (npV (vT T)), kT T, 1) : (Nat → Nat) × (Nat → Nat) × Nat).1 k = nhV (vT T) + 1 := pre_n (g := fun _ => nhV (vT T) + 1) (f := mT T) hk
  rw [e]
theorem bgR_w (T : Tst) : ∃ u, Wts (bgR T).1 (bgR T).2.1 (npV (vT T)) u := ⟨_, bg_W (vT T) (psS (oT T)) _ _ (npV (vT T))⟩
theorem fgT_tab (N : Nat) (hN : N = 7776) (T : Tst) (hO : Vok (vT T)) (hbd : ∀ W p, p < npV (vT T) → Ib (ltS (gon (vT T) (lT T) W (oT T)) p) (-128) 127) : ∀ ch', (∀ k, k < npV (vT T) → ch' k < mst (vT T) (psS (oT T)) k) → ∀ p, p < npV (vT T) → unG (gT (fgT N T) (nvF (mst (vT T) (psS (oT T))) (npV (vT T)) ch')) p = gwC (vT T) (lT T) (oT T) ch' p := by
  intro ch' hch p hp
  have hmo := bgR_mo T
  have htt := mst_tt hO (psS (oT T))
  have hz : ∀ k, k < npV (vT T) → pre (fun _ => 0) (cT T) (npV (vT T)) k = 0 := fun k hk => pre_n hk
  have h := (fg_tab (V := vT T) (L := lT T) (O := oT T) (mo := (bgR T).1) hO.2.1 hbd N 0 0 (pre (fun _ => 0) (cT T) (npV (vT T))) (wT T, sT T, gT T) (fun _ => ⟨fun k hk => by rw [hz k hk, hmo k hk]; exact mst_pos _ _ _, (nvF_zero _ _ hz).symm, by rw [ttF_mo (npV (vT T)) hmo]; omega⟩)).1 (by decide) ch' (fun k hk => by rw [hmo k hk]; exact hch k hk) (Nat.zero_le _) p hp
  rw [nvF_mo (npV (vT T)) hmo] at h
  exact h
theorem rt_sp {T : Tst} {V0 : Vil} {o : Ovr} {L' : Nat → Int32} {S' : Scn} (h : Rv (vT T) V0 o (lT T) L' (oT T) S') (hbd : ∀ W p, p < npV (vT T) → Ib (ltS (gon (vT T) (lT T) W (oT T)) p) (-128) 127) (N : Nat) (hN : N = 7776) {G' : Nat → Int32} (hG' : ∀ x p, x < rwN V0 → p < npV V0 → G' (5 * x + p) = gwR V0 o L' S' x p) (k : Int32) : (∃ x, x < rwN V0 ∧ irB V0 (psS S') G' x = true ∧ nI (rsN V0 (psS S') G' x) = k ∧ (rtF N T k).1 = rsN V0 (psS S') G' x + 1 ∧ ∀ p, p < npV (vT T) → (rtF N T k).2.2 p = wsR V0 x p) ∨ ((rtF N T k).1 = rsN V0 (psS S') G' (rwN V0) ∧ ∀ x, x < rwN V0 → irB V0 (psS S') G' x = true → ¬ nI (rsN V0 (psS S') G' x) = k) := by
  have hmo := bgR_mo (fgT N T)
  obtain ⟨u, hu⟩ := bgR_w (fgT N T)
  have hz : ∀ k, k < npV (vT T) → pre (fun _ => 0) (cT (fgT N T)) (npV (vT T)) k = 0 := fun k hk => pre_n hk
  have hv : ∀ k, k < npV (vT T) → pre (fun _ => 0) (cT (fgT N T)) (npV (vT T)) k < mst (vT T) (psS (oT T)) k := fun k hk => by rw [hz k hk]; exact mst_pos _ _ _
  have hrw : rwN V0 = rwN (vT T) := by unfold rwN; rw [h.nh, h.np]
  have htt := mst_tt h.1 (psS (oT T))
  have hg := gap_rows (F := rsN V0 (psS S') G') (Q := irB V0 (psS S') G') (n := npV (vT T)) (N := rwN V0) (mo := mst (vT T) (psS (oT T))) (X := xRe (vT T) (psS (oT T))) (fun x hx => by rw [rsN_s, if_neg hx]) (fun x hx hq => re_sur h hx hq) (fun a b ha hb => (xRe_ord ha hb).1) (fun a ha => by rw [hrw]; exact xRe_lt ha) hv
  have hn0 := nvF_zero (mst (vT T) (psS (oT T))) _ hz
  have hs := fs_sp h (mo := (bgR (fgT N T)).1) (K := (bgR (fgT N T)).2.1) (u := u) hmo hu (fgT_tab N hN T h.1 hbd) hG' k N 0 0 (pre (fun _ => 0) (cT (fgT N T)) (npV (vT T))) 0 (wT (fgT N T)) (fun _ => ⟨hv, hn0.symm, by omega, by rw [hg.1 hn0]; rfl⟩) (fun z => absurd (by decide) z)
  rcases hs with hA | ⟨hB1, hB2⟩
  · exact Or.inl hA
  · refine Or.inr ⟨hB1, fun x hx hq => hB2 (by decide) x ?_ hx hq⟩
    obtain ⟨c', hc', e⟩ := re_sur h hx hq
    by_cases e2 : xRe (vT T) (psS (oT T)) (pre (fun _ => 0) (cT (fgT N T)) (npV (vT T))) ≤ x
    · exact e2
    · have := (xRe_ord hc' hv).1.mpr (by omega)
      omega
theorem rests_eq {T : Tst} {V0 : Vil} {o : Ovr} {L' : Nat → Int32} {S' : Scn} (h : Rv (vT T) V0 o (lT T) L' (oT T) S') (hbd : ∀ W p, p < npV (vT T) → Ib (ltS (gon (vT T) (lT T) W (oT T)) p) (-128) 127) (N : Nat) (hN : N = 7776) (P' : Nat → Nat) (a : Nat) (q : Fgt) : (rtF N T (-1)).1 = rsN V0 (psS S') (ggF V0 o S' P' L' a q (rwN V0)).2.2.2 (rwN V0) := by
  have hp5 : npV V0 ≤ 5 := by rw [h.np]; exact h.1.2.1
  have hrw : rwN V0 ≤ 7776 := by unfold rwN; rw [h.nh, h.np]; exact pw6 h.1.1 h.1.2.1
  rcases rt_sp h hbd N hN (gg_tab V0 o S' P' L' a q hp5 (rwN V0)) (-1) with ⟨x, h1, h2, h3, h4⟩ | ⟨h1, h2⟩
  · exact absurd h3 (nI_nm1 (by have := rsN_le V0 (psS S') (ggF V0 o S' P' L' a q (rwN V0)).2.2.2 x; omega))
  · exact h1
theorem rest_eq {T : Tst} {V0 : Vil} {o : Ovr} {L' : Nat → Int32} {S' : Scn} (h : Rv (vT T) V0 o (lT T) L' (oT T) S') (hbd : ∀ W p, p < npV (vT T) → Ib (ltS (gon (vT T) (lT T) W (oT T)) p) (-128) 127) (N : Nat) (hN : N = 7776) (P' : Nat → Nat) (a : Nat) (q : Fgt) {k : Int32} (hk : ¬ k < 0) {p : Nat} (hp : p < npV (vT T)) : (if k < nI (rtF N T k).1 then cl (wT (rtT N T k) p) else -2) = rrA V0 p (rrF V0 (psS S') (ggF V0 o S' P' L' a q (rwN V0)).2.2.2 k (rwN V0) 0 0) := by
  have hp5 : npV V0 ≤ 5 := by rw [h.np]; exact h.1.2.1
  have hrw : rwN V0 ≤ 7776 := by unfold rwN; rw [h.nh, h.np]; exact pw6 h.1.1 h.1.2.1
  have hG' := gg_tab V0 o S' P' L' a q hp5 (rwN V0)
  have hle := rsN_le V0 (psS S') (ggF V0 o S' P' L' a q (rwN V0)).2.2.2
  have hr := rr_sp V0 (psS S') (ggF V0 o S' P' L' a q (rwN V0)).2.2.2 k (rwN V0) 0
  have hw : wT (rtT N T k) = (rtF N T k).2.2 := rfl
  have hs := rt_sp h hbd N hN hG' k
  have hex := rsN_ex V0 (psS S') (ggF V0 o S' P' L' a q (rwN V0)).2.2.2
  have hst := fun a' b' => rsN_str (V0 := V0) (t := psS S') (G := (ggF V0 o S' P' L' a q (rwN V0)).2.2.2) (a := a') (b := b')
  have h0 : rsN V0 (psS S') (ggF V0 o S' P' L' a q (rwN V0)).2.2.2 0 = 0 := rfl
  rw [h0] at hr
  rw [hw]
  generalize (ggF V0 o S' P' L' a q (rwN V0)).2.2.2 = G' at *
  obtain ⟨e1, e2⟩ := nN_e hk
  rcases hs with ⟨x, h1, h2, h3, h4, h5⟩ | ⟨h1, h2⟩
  · have hx := hle x
    rcases hr with ⟨y, r1, r2, r3, r4, r5⟩ | ⟨r1, r2⟩
    · have hy := hle y
      have hxy : rsN V0 (psS S') G' x = rsN V0 (psS S') G' y := nI_inj (by omega) (by omega) (h3.trans r5.symm)
      have e : x = y := by
        rcases Nat.lt_trichotomy x y with z | z | z
        · have := hst x y h2 z; omega
        · exact z
        · have := hst y x r4 z; omega
      rw [r1, h4, if_pos (by rw [← h3, nI_lt_iff (by omega) (by omega)]; omega), h5 p hp, e]
      rfl
    · exact absurd h3 (r2 x (Nat.zero_le _) (by omega) h2)
  · rcases hr with ⟨y, r1, r2, r3, r4, r5⟩ | ⟨r1, r2⟩
    · exact absurd r5 (h2 y (by omega) r4)
    · rw [r1, h1, if_neg (fun z => ?_)]
      · rfl
      · have hN2 := hle (rwN V0)
        rw [e1, nI_lt_iff e2 (by omega)] at z
        obtain ⟨y, y1, y2, y3⟩ := hex (nN k) (rwN V0) z
        exact h2 y y1 y2 (by rw [y3]; exact e1.symm)
