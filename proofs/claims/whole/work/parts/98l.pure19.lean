/-! BOOKS HELD AGAINST THE VILLAGE -/
theorem ib_iff {b : Bki} {i : Nat} : ∀ j, j ≤ i → (∀ k, k + 1 < j → b.2.1 k ≤ b.2.1 (k + 1)) → (∀ k, k < j → b.2.1 k ≤ b.2.1 i) → (ibF b i j = true ↔ ∀ k, k < j → ¬ (b.2.1 k = b.2.1 i ∧ b.2.2.1 k = b.2.2.1 i)) := by
  intro j
  induction j with
  | zero => intro _ _ _; exact ⟨fun _ k hk => absurd hk (by omega), fun _ => rfl⟩
  | succ j ih =>
    intro hj hs hle
    have ih := ih (by omega) (fun k hk => hs k (by omega)) (fun k hk => hle k (by omega))
    have hu : ibF b i (j + 1) = if b.2.1 j = b.2.1 i then (if b.2.2.1 j = b.2.2.1 i then false else ibF b i j) else true := rfl
    rw [hu]
    by_cases c : b.2.1 j = b.2.1 i
    · rw [if_pos c]
      by_cases c2 : b.2.2.1 j = b.2.2.1 i
      · rw [if_pos c2]
        exact ⟨fun z => absurd z nft, fun z => absurd ⟨c, c2⟩ (z j (by omega))⟩
      · rw [if_neg c2, ih]
        constructor
        · intro h k hk
          by_cases e : k = j
          · subst e; exact fun z => c2 z.2
          · exact h k (by omega)
        · intro h k hk; exact h k (by omega)
    · rw [if_neg c]
      have hlt : b.2.1 j < b.2.1 i := by have := hle j (by omega); omega
      have hmono : ∀ d k, k + d = j → b.2.1 k ≤ b.2.1 j := by
        intro d
        induction d with
        | zero => intro k hk; have : k = j := by omega
                  subst this; exact Nat.le_refl _
        | succ d ihd =>
          intro k hk
          exact Nat.le_trans (hs k (by omega)) (ihd (k + 1) (by omega))
      refine ⟨fun _ k hk z => ?_, fun _ => rfl⟩
      have := hmono (j - k) k (by omega)
      omega
theorem in_io {V V0 : Vil} {b b' : Bki} {i n : Nat} (hV : Veq V V0) (hi : i < n) (hb : ∀ k, k < n → b.2.1 k = b'.2.1 k ∧ b.2.2.1 k = b'.2.2.1 k ∧ b.2.2.2 k = b'.2.2.2 k) (hs : ∀ k, k + 1 < i → b.2.1 k ≤ b.2.1 (k + 1)) : inC V b i = ioB V0 b' i := by
  have hmono : ∀ d k j, k + d = j → j < i → b.2.1 k ≤ b.2.1 j := by
    intro d
    induction d with
    | zero => intro k j hk _; have : k = j := by omega
              subst this; exact Nat.le_refl _
    | succ d ihd =>
      intro k j hk hj
      exact Nat.le_trans (hs k (by omega)) (ihd (k + 1) j (by omega) hj)
  have hoo : (!ooB b i) = ((decide (i = 0) || !decide (b'.2.1 i < b'.2.1 (i - 1))) && ibF b' i i) := by
    unfold ooB
    rw [Bool.not_not]
    have e : (itB (ooS b i) () i).1 = true ↔ ((decide (i = 0) || !decide (b'.2.1 i < b'.2.1 (i - 1))) && ibF b' i i) = true := by
      rw [itB_all, Bool.and_eq_true_iff, Bool.or_eq_true_iff, decide_eq_true_iff, bnot_dec]
      have hq : ∀ k, (ooS b i k ()).1 = true ↔ ¬ b.2.1 i < b.2.1 k ∧ ¬ (b.2.1 k = b.2.1 i ∧ b.2.2.1 k = b.2.2.1 i) := fun k => by
        show (!(decide (b.2.1 i < b.2.1 k) || (decide (b.2.1 k = b.2.1 i) && decide (b.2.2.1 k = b.2.2.1 i)))) = true ↔ _
        rw [Bool.not_or, Bool.and_eq_true_iff, bnot_dec, ← Bool.decide_and, bnot_dec]
      constructor
      · intro h
        have hle : ∀ k, k < i → b.2.1 k ≤ b.2.1 i := fun k hk => by have := ((hq k).mp (h k hk)).1; omega
        refine ⟨?_, ?_⟩
        · by_cases e : i = 0
          · exact Or.inl e
          · refine Or.inr ?_
            rw [← (hb i hi).1, ← (hb (i - 1) (by omega)).1]
            have := hle (i - 1) (by omega)
            omega
        · refine (ib_iff i (Nat.le_refl _) (fun k hk => ?_) (fun k hk => ?_)).mpr (fun k hk => ?_)
          · rw [← (hb k (by omega)).1, ← (hb (k + 1) (by omega)).1]; exact hs k hk
          · rw [← (hb k (by omega)).1, ← (hb i hi).1]; exact hle k hk
          · rw [← (hb k (by omega)).1, ← (hb i hi).1, ← (hb k (by omega)).2.1, ← (hb i hi).2.1]
            exact ((hq k).mp (h k hk)).2
      · rintro ⟨h1, h2⟩ k hk
        have hle : ∀ k, k < i → b.2.1 k ≤ b.2.1 i := fun k hk => by
          rcases h1 with h1 | h1
          · omega
          · rw [← (hb i hi).1, ← (hb (i - 1) (by omega)).1] at h1
            have := hmono (i - 1 - k) k (i - 1) (by omega) (by omega)
            omega
        refine (hq k).mpr ⟨by have := hle k hk; omega, ?_⟩
        have h3 := (ib_iff i (Nat.le_refl _) (fun k hk => by rw [← (hb k (by omega)).1, ← (hb (k + 1) (by omega)).1]; exact hs k hk) (fun k hk => by rw [← (hb k (by omega)).1, ← (hb i hi).1]; exact hle k hk)).mp h2 k hk
        rw [← (hb k (by omega)).1, ← (hb i hi).1, ← (hb k (by omega)).2.1, ← (hb i hi).2.1] at h3
        exact h3
    cases h1 : (itB (ooS b i) () i).1 <;> cases h2 : ((decide (i = 0) || !decide (b'.2.1 i < b'.2.1 (i - 1))) && ibF b' i i)
    · rfl
    · exact absurd (e.mpr h2) (by rw [h1]; exact nft)
    · exact absurd (e.mp h1) (by rw [h2]; exact nft)
    · rfl
  unfold inC ioB
  rw [hoo, (hb i hi).2.1, (hb i hi).2.2, hV.1, hV.2.1]
theorem gd_go {V V0 : Vil} {b b' : Bki} {N : Nat} (hV : Veq V V0) (hb : ∀ k, k < N → b.2.1 k = b'.2.1 k ∧ b.2.2.1 k = b'.2.2.1 k ∧ b.2.2.2 k = b'.2.2.2 k) : ∀ n i, i + n = N → (∀ k, k + 1 < i → b.2.1 k ≤ b.2.1 (k + 1)) → gdF V b n i = goF V0 b' n i := by
  intro n
  induction n with
  | zero => intro i _ _; rfl
  | succ n ih =>
    intro i hi hs
    show (if inC V b i then gdF V b n (i + 1) else i) = (if ioB V0 b' i then goF V0 b' n (i + 1) else i)
    have he := in_io (V := V) (V0 := V0) (b := b) (b' := b') (i := i) (n := N) hV (by omega) hb hs
    rw [he]
    by_cases c : ioB V0 b' i = true
    · rw [if_pos c, if_pos c]
      refine ih (i + 1) (by omega) (fun k hk => ?_)
      by_cases e : k + 1 = i
      · have h3 := (ioB_all c).2.2.1
        subst e
        rw [show k + 1 - 1 = k from rfl, ← (hb k (by omega)).1, ← (hb (k + 1) (by omega)).1] at h3
        omega
      · exact hs k (by omega)
    · rw [if_neg c, if_neg c]
theorem pr_eq {V : Vil} {t g : Nat} {b b' : Bki} (hb : ∀ k, k < g → b.2.1 k = b'.2.1 k ∧ b.2.2.1 k = b'.2.2.1 k ∧ b.2.2.2 k = b'.2.2.2 k) : ∀ n d (W W' : Nat → Nat), d + n = g → (∀ p, p < npV V → W p = W' p) → (prF t b n d W).1 = (prF t b' n d W').1 ∧ ∀ p, p < npV V → (prF t b n d W).2 p = (prF t b' n d W').2 p := by
  intro n
  induction n with
  | zero => intro d W W' _ hW; exact ⟨rfl, hW⟩
  | succ n ih =>
    intro d W W' hd hW
    obtain ⟨h1, h2, h3⟩ := hb d (by omega)
    show (if b.2.1 d = t then prF t b n (d + 1) (upN W (b.2.2.1 d) (b.2.2.2 d)) else (d, W)).1 = (if b'.2.1 d = t then prF t b' n (d + 1) (upN W' (b'.2.2.1 d) (b'.2.2.2 d)) else (d, W')).1 ∧ ∀ p, p < npV V → (if b.2.1 d = t then prF t b n (d + 1) (upN W (b.2.2.1 d) (b.2.2.2 d)) else (d, W)).2 p = (if b'.2.1 d = t then prF t b' n (d + 1) (upN W' (b'.2.2.1 d) (b'.2.2.2 d)) else (d, W')).2 p
    rw [h1, h2, h3]
    by_cases c : b'.2.1 d = t
    · rw [if_pos c, if_pos c]
      exact ih (d + 1) _ _ (by omega) (up_eq hW rfl)
    · rw [if_neg c, if_neg c]
      exact ⟨rfl, hW⟩
theorem wk_eq {V V0 : Vil} {t : Nat} {W W' : Nat → Nat} (hV : Veq V V0) (hW : ∀ p, p < npV V → W p = W' p) : ∀ n, n ≤ npV V → ∀ p, p < npV V → wkF V t W n p = wkF V0 t W' n p := by
  intro n
  induction n with
  | zero => intro _; exact hW
  | succ n ih =>
    intro hn
    show ∀ p, p < npV V → (if wkB V n t then upN (wkF V t W n) n 5 else wkF V t W n) p = (if wkB V0 n t then upN (wkF V0 t W' n) n 5 else wkF V0 t W' n) p
    rw [wkB_eq hV (show n < npV V by omega)]
    by_cases c : wkB V0 n t = true
    · rw [if_pos c, if_pos c]; exact up_eq (ih (by omega)) rfl
    · rw [if_neg c, if_neg c]; exact ih (by omega)
theorem pqR_eq {V V0 : Vil} {b b' : Bki} {S S' : Scn} {W W' : Nat → Nat} {d g : Nat} (hV : Veq V V0) (hS : Seq V S S') (hb : ∀ k, k < g → b.2.1 k = b'.2.1 k ∧ b.2.2.1 k = b'.2.2.1 k ∧ b.2.2.2 k = b'.2.2.2 k) (hd : d ≤ g) : (pqR V b S W d g).1 = (pqR V0 b' S' W' d g).1 ∧ ∀ p, p < npV V → (pqR V b S W d g).2 p = (pqR V0 b' S' W' d g).2 p := by
  have h1 := pr_eq (V := V) (t := psS S) hb (g - d) d (pre (whS S) W (npV V)) (pre (whS S') W' (npV V0)) (by omega) (fun p hp => by rw [pre_n hp, pre_n (show p < npV V0 by rw [← hV.2.1]; exact hp)]; exact hS.2.1 p hp)
  unfold pqR
  rw [← hS.1]
  refine ⟨h1.1, fun p hp => ?_⟩
  have h2 := wk_eq (t := psS S) hV h1.2 (npV V) (Nat.le_refl _) p hp
  rw [hV.2.1] at h2 ⊢
  exact h2
theorem ck_eq {V : Vil} {S S' : Scn} {b b' : Bki} {g : Nat} (hS : Seq V S S') (hb : ∀ k, k < g → b.2.1 k = b'.2.1 k ∧ b.2.2.1 k = b'.2.2.1 k ∧ b.2.2.2 k = b'.2.2.2 k) (hn : ∀ k, k < g → b.2.2.1 k < npV V) : ∀ n k, k + n ≤ g → ckF S b n k = ckF S' b' n k := by
  intro n
  induction n with
  | zero => intro k _; rfl
  | succ n ih =>
    intro k hk
    obtain ⟨h1, h2, h3⟩ := hb k (by omega)
    show (if whS S (b.2.2.1 k) = b.2.2.2 k then ckF S b n (k + 1) else k) = (if whS S' (b'.2.2.1 k) = b'.2.2.2 k then ckF S' b' n (k + 1) else k)
    rw [hS.2.1 _ (hn k (by omega)), h2, h3, ih (k + 1) (by omega)]
theorem fc_eq {V V0 V2 : Vil} {L L' : Nat → Int32} {b b' : Bki} {g : Nat} (hO : Vok V) (hV : Veq V V0) (hV2 : Veq V V2) (hL : ∀ p, p < npV V → L p = L' p) (hb : ∀ k, k < g → b.2.1 k = b'.2.1 k ∧ b.2.2.1 k = b'.2.2.1 k ∧ b.2.2.2 k = b'.2.2.2 k) (hn : ∀ k, k < g → b.2.2.1 k < npV V) : ∀ n d (S S' : Scn) (W W' : Nat → Nat) (B : Nat → Int32), d ≤ g → Seq V S S' → (fcF V L b g n d S W).1 = (fcG V0 V2 L' b' g n d S' W' B).1 := by
  intro n
  induction n with
  | zero => intro d S S' W W' B _ _; rfl
  | succ n ih =>
    intro d S S' W W' B hd hS
    have hq := pqR_eq (W := W) (W' := W') (d := d) (g := g) hV hS hb hd
    have hS2 : Seq V (gon V L (pqR V b S W d g).2 S) (gon V2 L' (pqR V0 b' S' W' d g).2 S') := gon_eq hO hV2 hL hq.2 hS
    have hrg := prF_rg (t := psS S) (b := b) (g - d) d (pre (whS S) W (npV V))
    have hr1 : d ≤ (pqR V b S W d g).1 := hrg.1
    have hr2 : (pqR V b S W d g).1 ≤ g := by have := hrg.2; show (prF (psS S) b (g - d) d (pre (whS S) W (npV V))).1 ≤ g; omega
    have hu : fcF V L b g (n + 1) d S W = if d < g then (if ckF (gon V L (pqR V b S W d g).2 S) b ((pqR V b S W d g).1 - d) d < (pqR V b S W d g).1 then (ckF (gon V L (pqR V b S W d g).2 S) b ((pqR V b S W d g).1 - d) d, gon V L (pqR V b S W d g).2 S, (pqR V b S W d g).2) else fcF V L b g n (pqR V b S W d g).1 (gon V L (pqR V b S W d g).2 S) (pqR V b S W d g).2) else (1000, S, W) := rfl
    have hw : fcG V0 V2 L' b' g (n + 1) d S' W' B = if d < g then (if ckF (gon V2 L' (pqR V0 b' S' W' d g).2 S') b' ((pqR V0 b' S' W' d g).1 - d) d < (pqR V0 b' S' W' d g).1 then (ckF (gon V2 L' (pqR V0 b' S' W' d g).2 S') b' ((pqR V0 b' S' W' d g).1 - d) d, gon V2 L' (pqR V0 b' S' W' d g).2 S', (pqR V0 b' S' W' d g).2, lbF (pqR V0 b' S' W' d g).2 S' B (npV V0)) else fcG V0 V2 L' b' g n (pqR V0 b' S' W' d g).1 (gon V2 L' (pqR V0 b' S' W' d g).2 S') (pqR V0 b' S' W' d g).2 (lbF (pqR V0 b' S' W' d g).2 S' B (npV V0))) else (1000, S', W', B) := rfl
    rw [hu, hw, ← hq.1]
    have hck := ck_eq hS2 hb hn ((pqR V b S W d g).1 - d) d (by omega)
    rw [← hck]
    by_cases c : d < g
    · rw [if_pos c, if_pos c]
      by_cases c2 : ckF (gon V L (pqR V b S W d g).2 S) b ((pqR V b S W d g).1 - d) d < (pqR V b S W d g).1
      · rw [if_pos c2, if_pos c2]
      · rw [if_neg c2, if_neg c2]
        exact ih _ _ _ _ _ _ hr2 hS2
    · rw [if_neg c, if_neg c]
/-! the beginning -/
theorem bh_at (so st : Nat → Int32) (S : Scn) : ∀ n h, h < n → soS (bhS so st S n) h = so h ∧ stS (bhS so st S n) h = st h := by
  intro n
  induction n with
  | zero => intro h hh; exact absurd hh (by omega)
  | succ n ih =>
    intro h hh
    show upd (soS (bhS so st S n)) n (so n) h = so h ∧ upd (stS (bhS so st S n)) n (st n) h = st h
    by_cases e : h = n
    · subst e; rw [upd_self, upd_self]; exact ⟨rfl, rfl⟩
    · rw [upd_ne _ _ e, upd_ne _ _ e]; exact ih h (by omega)
theorem beg_eq {V V0 : Vil} {X : Vix} {so st : Nat → Int32} (hO : Vok V) (hV : Veq V V0) (hso : ∀ h, h < nhV V → X.2.2.2.2.1 h = so h) (hst : ∀ h, h < nhV V → X.2.2.2.2.2.1 h = st h) : Seq V (sBeg V X) (bgS (nhV V0) (npV V0) so st (hoV V0)) := by
  refine ⟨rfl, fun p hp => ?_, fun _ _ => rfl, fun _ _ => rfl, fun _ _ => rfl, fun h hh => ?_, fun h hh => ?_⟩
  · rw [bgS_wh (by rw [← hV.2.1]; exact hO.2.1) (by rw [← hV.2.1]; exact hp)]
    exact hV.2.2.2.2.2.2.1 p hp
  · show X.2.2.2.2.1 h = soS (bhS so st z0S (nhV V0)) h
    rw [(bh_at so st z0S (nhV V0) h (by rw [← hV.1]; exact hh)).1, hso h hh]
  · show X.2.2.2.2.2.1 h = stS (bhS so st z0S (nhV V0)) h
    rw [(bh_at so st z0S (nhV V0) h (by rw [← hV.1]; exact hh)).2, hst h hh]
theorem bpL_at (L : Nat → Int32) : ∀ n p, p < n → bpL L n p = nI 31 := by
  intro n
  induction n with
  | zero => intro p h; exact absurd h (by omega)
  | succ n ih =>
    intro p h
    show upd (bpL L n) n (nI 31) p = _
    by_cases e : p = n
    · subst e; rw [upd_self]
    · rw [upd_ne _ _ e]; exact ih p (by omega)
theorem peB_at (P : Nat → Nat) (p c : Nat) : ∀ n j, peB P p c n j = if p * 4 ≤ j ∧ j < p * 4 + n then c else P j := by
  intro n
  induction n with
  | zero => intro j; rw [if_neg (by omega)]; rfl
  | succ n ih =>
    intro j
    show upN (peB P p c n) (p * 4 + n) c j = _
    by_cases e : j = p * 4 + n
    · subst e; rw [upN_self, if_pos (by omega)]
    · rw [upN_ne _ _ e, ih j]
      by_cases c2 : p * 4 ≤ j ∧ j < p * 4 + n
      · rw [if_pos c2, if_pos (by omega)]
      · rw [if_neg c2, if_neg (by omega)]
theorem bpP_at (np : Nat) (ho P : Nat → Nat) : ∀ n p q, p < n → q < 4 → bpP np ho P n (p * 4 + q) = if p < np then ho p else 5 := by
  intro n
  induction n with
  | zero => intro p q h; exact absurd h (by omega)
  | succ n ih =>
    intro p q h hq
    show peB (bpP np ho P n) n (if n < np then ho n else 5) 4 (p * 4 + q) = _
    rw [peB_at]
    by_cases e : p = n
    · subst e; rw [if_pos (by omega)]
    · rw [if_neg (by omega)]; exact ih p q (by omega) hq
theorem pbeg_eq {V V0 : Vil} (hO : Vok V) (hV : Veq V V0) : ∀ p q, p < npV V → q < 4 → pBeg V (p * 4 + q) = bpP (npV V0) (hoV V0) (fun _ => 0) 5 (p * 4 + q) := by
  intro p q hp hq
  have h5 := hO.2.1
  rw [bpP_at _ _ _ 5 p q (by omega) hq, if_pos (by rw [← hV.2.1]; exact hp)]
  show hoV V ((p * 4 + q) / 4) = _
  rw [show (p * 4 + q) / 4 = p by omega]
  exact hV.2.2.2.2.2.2.1 p hp
