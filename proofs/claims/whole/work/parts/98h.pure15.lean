/-! RINGS COUNTED -/
theorem rgFo_s (V0 : Vil) (P : Nat → Nat) (t : Nat) (G : Nat → Int32) (x : Nat) : rgFo V0 P t G (x + 1) = if igB V0 P t x && hrB V0 G x then ((rgFo V0 P t G x).1 + 1, if (rgFo V0 P t G x).2 = -1 ∨ rdD V0 x (npV V0) < (rgFo V0 P t G x).2 then rdD V0 x (npV V0) else (rgFo V0 P t G x).2) else rgFo V0 P t G x := rfl
theorem rgFo_inv (V0 : Vil) (P : Nat → Nat) (t : Nat) (G : Nat → Int32) : ∀ x, (rgFo V0 P t G x).1 ≤ x ∧ (((rgFo V0 P t G x).1 = 0 ∧ (rgFo V0 P t G x).2 = -1) ∨ (0 < (rgFo V0 P t G x).1 ∧ ∃ y, y < x ∧ (igB V0 P t y && hrB V0 G y) = true ∧ (rgFo V0 P t G x).2 = rdD V0 y (npV V0))) := by
  intro x
  induction x with
  | zero => exact ⟨Nat.le_refl _, Or.inl ⟨rfl, rfl⟩⟩
  | succ x ih =>
    rw [rgFo_s]
    generalize rgFo V0 P t G x = q at *
    by_cases c : (igB V0 P t x && hrB V0 G x) = true
    · rw [if_pos c]
      refine ⟨by show q.1 + 1 ≤ _; omega, Or.inr ⟨by show 0 < q.1 + 1; omega, ?_⟩⟩
      by_cases c2 : q.2 = -1 ∨ rdD V0 x (npV V0) < q.2
      · exact ⟨x, by omega, c, if_pos c2⟩
      · rcases ih.2 with ⟨a1, a2⟩ | ⟨a1, y, a2, a3, a4⟩
        · exact absurd (Or.inl a2) c2
        · exact ⟨y, by omega, a3, (if_neg c2).trans a4⟩
    · rw [if_neg c]
      refine ⟨by omega, ?_⟩
      rcases ih.2 with a | ⟨a1, y, a2, a3, a4⟩
      · exact Or.inl a
      · exact Or.inr ⟨a1, y, by omega, a3, a4⟩
theorem rdD_n {V V0 : Vil} {o : Ovr} {P P' : Nat → Nat} {L L' : Nat → Int32} {S S' : Scn} (h : Rg V V0 o P P' L L' S S') {ch : Nat → Nat} (hch : ∀ k, k < npV V → ch k < mrg V k) : ∀ n, n ≤ npV V → rdD V0 (xRg V P (psS S) ch) n = rnF V ch n := by
  intro n
  induction n with
  | zero => intro _; rfl
  | succ n ih =>
    intro hn
    show nI 10 * rdD V0 (xRg V P (psS S) ch) n + (if hoV V0 n < 5 then nI (wsR V0 (xRg V P (psS S) ch) n) else nI 9) = rnF V ch n * nI 10 + (if hoV V n < 5 then nI (ch n) else nI 9)
    rw [ih (by omega), h.ho (show n < npV V by omega), h.wn hch (show n < npV V by omega), Int32.mul_comm]
    by_cases c : hoV V n < 5
    · rw [if_pos c, if_pos c, if_pos c]
    · rw [if_neg c, if_neg c]
theorem mrg_pos {V : Vil} (hO : Vok V) {k : Nat} (hk : k < npV V) : 0 < mrg V k := by
  unfold mrg
  by_cases c : hoV V k < 5
  · rw [if_pos c]
    have := hO.2.2.2.1 k hk
    omega
  · rw [if_neg c]; omega
theorem mrg_tt {V : Vil} (hO : Vok V) : ttF (mrg V) (npV V) ≤ 7776 := by
  have h5 := hO.1
  refine Nat.le_trans (ttF_le6 (npV V) (fun k _ => ?_)) (Nat.le_trans (Nat.pow_le_pow_right (by decide) hO.2.1) (by decide))
  unfold mrg
  split <;> omega
theorem frM_at (V : Vil) (mo : Nat → Nat) : ∀ n k, k < n → frM V mo n k = if hoV V k < 5 then mo k else 1 := by
  have hge : ∀ n k, n ≤ k → frM V mo n k = mo k := by
    intro n
    induction n with
    | zero => intro k _; rfl
    | succ n ih =>
      intro k hk
      show (if hoV V n < 5 then frM V mo n else upN (frM V mo n) n 1) k = _
      by_cases c : hoV V n < 5
      · rw [if_pos c]; exact ih k (by omega)
      · rw [if_neg c, upN_ne _ _ (by omega)]; exact ih k (by omega)
  intro n
  induction n with
  | zero => intro k hk; exact absurd hk (by omega)
  | succ n ih =>
    intro k hk
    show (if hoV V n < 5 then frM V mo n else upN (frM V mo n) n 1) k = _
    by_cases e : k = n
    · subst e
      by_cases c : hoV V k < 5
      · rw [if_pos c, if_pos c]; exact hge k k (Nat.le_refl _)
      · rw [if_neg c, if_neg c, upN_self]
    · by_cases c : hoV V n < 5
      · rw [if_pos c]; exact ih k (by omega)
      · rw [if_neg c, upN_ne _ _ e]; exact ih k (by omega)
theorem frO_mo (T : Tst) : ∀ k, k < npV (vT T) → frO T k = mrg (vT T) k := by
  intro k hk
  unfold frO mrg
  rw [frM_at _ _ _ _ hk, pre_n hk]
theorem fr_sp {V V0 : Vil} {o : Ovr} {P P' : Nat → Nat} {L L' : Nat → Int32} {S S' : Scn} {G' : Nat → Int32} {mo : Nat → Nat} (h : Rg V V0 o P P' L L' S S') (hG' : ∀ x p, x < rwN V0 → p < npV V0 → G' (5 * x + p) = gwR V0 o L' S' x p) (hcr : crB V (psS S) = true) (hmo : ∀ k, k < npV V → mo k = mrg V k) : ∀ (n c : Nat) (ch : Nat → Nat) (q : (Nat → Nat) × Scn × Int32 × Int32), (c < 5 → (∀ k, k < npV V → ch k < mrg V k) ∧ ttF (mrg V) (npV V) ≤ nvF (mrg V) (npV V) ch + n ∧ q.2.2.1 = nI (rgFo V0 P' (psS S') G' (xRg V P (psS S) ch)).1 ∧ q.2.2.2 = (rgFo V0 P' (psS S') G' (xRg V P (psS S) ch)).2) → (¬ c < 5 → q.2.2.1 = nI (rgFo V0 P' (psS S') G' (rwN V0)).1 ∧ q.2.2.2 = (rgFo V0 P' (psS S') G' (rwN V0)).2) → (frF V P L S mo (npV V) n c ch q).2.2.2.1 = nI (rgFo V0 P' (psS S') G' (rwN V0)).1 ∧ (frF V P L S mo (npV V) n c ch q).2.2.2.2 = (rgFo V0 P' (psS S') G' (rwN V0)).2 := by
  have hp5 := h.1.1.2.1
  have hh5 := h.1.1.1
  have hnw := (Bool.and_eq_true_iff.mp hcr).1
  have hrw : rwN V0 = rwN V := by unfold rwN; rw [h.1.nh, h.1.np]
  have hrl : rwN V ≤ 7776 := rwN_le h.1.1
  intro n
  induction n with
  | zero =>
    intro c ch q h1 h2
    by_cases hc : c < 5
    · have a := h1 hc
      have b := nvF_lt (mrg V) (npV V) a.1
      omega
    · exact h2 hc
  | succ n ih =>
    intro c ch q h1 h2
    by_cases hc : c < 5
    · obtain ⟨v1, v2, v3, v4⟩ := h1 hc
      have hu1 : frF V P L S mo (npV V) (n + 1) c ch q = frF V P L S mo (npV V) n (gcF mo (npV V) ch).2 (gcF mo (npV V) ch).1 (frS V P L S ch q) := if_pos hc
      have hsp := gcF_sp mo (npV V) ch (fun k hk => by rw [hmo k hk]; exact v1 k hk)
      rw [nvF_mo (npV V) hmo, ttF_mo (npV V) hmo, nvF_mo (npV V) hmo] at hsp
      obtain ⟨g1, g2, g3⟩ := gap_rows (F := rgFo V0 P' (psS S') G') (Q := fun x => igB V0 P' (psS S') x && hrB V0 G' x) (n := npV V) (N := rwN V0) (mo := mrg V) (X := xRg V P (psS S)) (fun x hx => by rw [rgFo_s, if_neg hx]) (fun x hx hq => (ig_sur h hx (Bool.and_eq_true_iff.mp hq).1).2) (fun a b ha hb => xRg_ord h.2.2 ha hb) (fun a ha => by rw [hrw]; exact xRg_lt h.2.2 ha) v1
      have hxl : xRg V P (psS S) ch < rwN V := xRg_lt h.2.2 v1
      have hstep : (frS V P L S ch q).2.2.1 = nI (rgFo V0 P' (psS S') G' (xRg V P (psS S) ch + 1)).1 ∧ (frS V P L S ch q).2.2.2 = (rgFo V0 P' (psS S') G' (xRg V P (psS S) ch + 1)).2 := by
        have hi := ig_eq h hcr v1
        have hr := hr_iff h hG' hnw v1
        have ho := ro_iff (V := V) (P := P) (L := L) (O := S) (ch := ch) (q.1, q.2.1) (npV V) (Nat.le_refl _)
        have hinv := rgFo_inv V0 P' (psS S') G' (xRg V P (psS S) ch)
        rw [rgFo_s, hi]
        unfold frS
        by_cases c1 : (itB (grS V ch) (nI 0) (npV V)).1 = true
        · rw [if_pos c1, c1, Bool.true_and]
          by_cases c2 : (itB (roS V P L S ch) (q.1, q.2.1) (npV V)).1 = true
          · have hq : hrB V0 G' (xRg V P (psS S) ch) = true := hr.mpr (ho.mp c2)
            rw [if_pos c2, if_pos hq]
            show q.2.2.1 + nI 1 = nI ((rgFo V0 P' (psS S') G' (xRg V P (psS S) ch)).1 + 1) ∧ (if q.2.2.1 + nI 1 = nI 1 then rnF V ch (npV V) else q.2.2.2) = if (rgFo V0 P' (psS S') G' (xRg V P (psS S) ch)).2 = -1 ∨ rdD V0 (xRg V P (psS S) ch) (npV V0) < (rgFo V0 P' (psS S') G' (xRg V P (psS S) ch)).2 then rdD V0 (xRg V P (psS S) ch) (npV V0) else (rgFo V0 P' (psS S') G' (xRg V P (psS S) ch)).2
            rw [v3, v4, nI_add]
            refine ⟨rfl, ?_⟩
            rw [h.1.np, rdD_n h v1 (npV V) (Nat.le_refl _)]
            rcases hinv with ⟨b0, ⟨b1, b2⟩ | ⟨b1, y, b2, b3, b4⟩⟩
            · rw [b1, if_pos rfl, if_pos (Or.inl b2)]
            · rw [if_neg (fun z => by have := nI_inj (by omega) (by decide) z; omega)]
              obtain ⟨-, b, hb, eb⟩ := ig_sur h (x := y) (by omega) (Bool.and_eq_true_iff.mp b3).1
              have hlt := (xRg_ord h.2.2 hb v1).mpr (by rw [eb]; exact b2)
              have hn := (nRg_ord hh5 hb v1).mp hlt
              have l1 := nRg_lt hh5 hp5 hb
              have l2 := nRg_lt hh5 hp5 v1
              rw [b4, ← eb, h.1.np, rdD_n h hb (npV V) (Nat.le_refl _), rnF_n, rnF_n]
              rw [if_neg (fun z => by
                rcases z with z | z
                · exact nI_nm1 (by omega) z
                · have := (nI_lt_iff (by omega) (by omega)).mp z; omega)]
          · have hq : ¬ hrB V0 G' (xRg V P (psS S) ch) = true := fun z => c2 (ho.mpr (hr.mp z))
            rw [if_neg c2, if_neg hq]
            exact ⟨v3, v4⟩
        · rw [if_neg c1]
          have hf : (itB (grS V ch) (nI 0) (npV V)).1 = false := by cases hx : (itB (grS V ch) (nI 0) (npV V)).1 with | true => exact absurd hx c1 | false => rfl
          rw [hf, Bool.false_and, if_neg nft]
          exact ⟨v3, v4⟩
      rw [hu1]
      rcases hsp with ⟨a1, a2⟩ | ⟨a1, a2, a3, a4, a5⟩
      · refine ih _ _ _ (fun z => by omega) (fun _ => ?_)
        rw [g2 a2]
        exact hstep
      · have a2' : ∀ k, k < npV V → (gcF mo (npV V) ch).1 k < mrg V k := fun k hk => by rw [← hmo k hk]; exact a2 k hk
        refine ih _ _ _ (fun _ => ⟨a2', by omega, ?_⟩) (fun z => by omega)
        rw [g3 _ a2' a4]
        exact hstep
    · have hu1 : frF V P L S mo (npV V) (n + 1) c ch q = (ch, q) := if_neg hc
      rw [hu1]
      exact h2 hc
theorem rings_eq {T : Tst} {V0 : Vil} {o : Ovr} {P' : Nat → Nat} {L' : Nat → Int32} {S' : Scn} (h : Rg (vT T) V0 o (pT T) P' (lT T) L' (oT T) S') (N : Nat) (hN : N = 7776) (a : Nat) (q : Fgt) : rgT (frT N T) = nI (rgFo V0 P' (psS S') (ggF V0 o S' P' L' a q (rwN V0)).2.2.2 (rwN V0)).1 ∧ lrT (frT N T) = (rgFo V0 P' (psS S') (ggF V0 o S' P' L' a q (rwN V0)).2.2.2 (rwN V0)).2 := by
  have hp5 : npV V0 ≤ 5 := by rw [h.1.np]; exact h.1.1.2.1
  have hG' := gg_tab V0 o S' P' L' a q hp5 (rwN V0)
  generalize (ggF V0 o S' P' L' a q (rwN V0)).2.2.2 = G' at *
  have hrw : rwN V0 = rwN (vT T) := by unfold rwN; rw [h.1.nh, h.1.np]
  unfold frT
  by_cases hcr : crB (vT T) (psS (oT T)) = true
  · rw [if_pos hcr]
    have hmo := frO_mo T
    have hz : ∀ k, k < npV (vT T) → pre (fun _ => 0) (cT T) (npV (vT T)) k = 0 := fun k hk => pre_n hk
    have hv : ∀ k, k < npV (vT T) → pre (fun _ => 0) (cT T) (npV (vT T)) k < mrg (vT T) k := fun k hk => by rw [hz k hk]; exact mrg_pos h.1.1 hk
    have htt := mrg_tt h.1.1
    have hn0 := nvF_zero (mrg (vT T)) _ hz
    have hg := gap_rows (F := rgFo V0 P' (psS S') G') (Q := fun x => igB V0 P' (psS S') x && hrB V0 G' x) (n := npV (vT T)) (N := rwN V0) (mo := mrg (vT T)) (X := xRg (vT T) (pT T) (psS (oT T))) (fun x hx => by rw [rgFo_s, if_neg hx]) (fun x hx hq => (ig_sur h hx (Bool.and_eq_true_iff.mp hq).1).2) (fun a b ha hb => xRg_ord h.2.2 ha hb) (fun a ha => by rw [hrw]; exact xRg_lt h.2.2 ha) hv
    have h0 : rgFo V0 P' (psS S') G' 0 = (0, -1) := rfl
    exact fr_sp h hG' hcr hmo N 0 (pre (fun _ => 0) (cT T) (npV (vT T))) (wT T, sT T, nI 0, -1) (fun _ => ⟨hv, by omega, by rw [hg.1 hn0, h0], by rw [hg.1 hn0, h0]⟩) (fun z => absurd (by decide) z)
  · rw [if_neg hcr]
    have hno : ∀ x, x < rwN V0 → ¬ (igB V0 P' (psS S') x && hrB V0 G' x) = true := fun x hx hq => hcr (ig_sur h hx (Bool.and_eq_true_iff.mp hq).1).1
    have hall : ∀ n, n ≤ rwN V0 → rgFo V0 P' (psS S') G' n = (0, -1) := by
      intro n
      induction n with
      | zero => intro _; rfl
      | succ n ih => intro hn; rw [rgFo_s, if_neg (hno n (by omega))]; exact ih (by omega)
    rw [hall _ (Nat.le_refl _)]
    exact ⟨rfl, rfl⟩
