/-! LEDGER: the first row that can't be; OwnedByGuests.book -/
def ckF (S : Scn) (b : Bki) : Nat → Nat → Nat
  | 0, k => k
  | n + 1, k => if whS S (b.2.2.1 k) = b.2.2.2 k then ckF S b n (k + 1) else k
def fcF (V : Vil) (L : Nat → Int32) (b : Bki) (g : Nat) : Nat → Nat → Scn → (Nat → Nat) → Nat × Scn × (Nat → Nat)
  | 0, _, S, W => (1000, S, W)
  | n + 1, d, S, W => if d < g then (if ckF (gon V L (pqR V b S W d g).2 S) b ((pqR V b S W d g).1 - d) d < (pqR V b S W d g).1 then (ckF (gon V L (pqR V b S W d g).2 S) b ((pqR V b S W d g).1 - d) d, gon V L (pqR V b S W d g).2 S, (pqR V b S W d g).2) else fcF V L b g n (pqR V b S W d g).1 (gon V L (pqR V b S W d g).2 S) (pqR V b S W d g).2) else (1000, S, W)
def fcA (b : Bki) (g c : Nat) : Int32 := if c < 1000 then nI c else if g < b.1 then nI g else -1
def fcY (V : Vil) (X : Vix) (L : Nat → Int32) (b : Bki) (W : Nat → Nat) : Nat × Scn × (Nat → Nat) := fcF V L b (gdF V b b.1 0) 100 0 (sBeg V X) W
theorem ckF_le (S : Scn) (b : Bki) : ∀ n k, k ≤ ckF S b n k ∧ ckF S b n k ≤ k + n := by
  intro n
  induction n with
  | zero => intro k; exact ⟨Nat.le_refl _, Nat.le_refl _⟩
  | succ n ih =>
    intro k
    unfold ckF
    split
    · have := ih (k + 1); exact ⟨by omega, by omega⟩
    · exact ⟨Nat.le_refl _, by omega⟩
theorem gdF_le (V : Vil) (b : Bki) : ∀ n i, i ≤ gdF V b n i ∧ gdF V b n i ≤ i + n := by
  intro n
  induction n with
  | zero => intro k; exact ⟨Nat.le_refl _, Nat.le_refl _⟩
  | succ n ih =>
    intro k
    unfold gdF
    split
    · have := ih (k + 1); exact ⟨by omega, by omega⟩
    · exact ⟨Nat.le_refl _, by omega⟩
theorem gdF_in (V : Vil) (b : Bki) : ∀ n i k, i ≤ k → k < gdF V b n i → inC V b k = true := by
  intro n
  induction n with
  | zero => intro i k h1 h2; exact absurd (show k < i from h2) (by omega)
  | succ n ih =>
    intro i k h1 h2
    unfold gdF at h2
    split at h2
    · rename_i c
      by_cases e : i = k
      · rw [← e]; exact c
      · exact ih (i + 1) k (by omega) h2
    · omega
theorem inC_p {V : Vil} {b : Bki} {k : Nat} (h : inC V b k = true) : b.2.2.1 k < npV V := by
  unfold inC at h
  by_cases c : b.2.2.1 k < npV V
  · exact c
  · rw [decide_eq_false c, Bool.false_and] at h; exact absurd h nft
theorem pqR_le {V : Vil} {b : Bki} {S : Scn} {W : Nat → Nat} {d g : Nat} (hb : ∀ k, b.2.2.2 k ≤ 5) (hS : Sle V S) (hW : ∀ k, W k ≤ 5) (hd : d ≤ g) : (∀ k, (pqR V b S W d g).2 k ≤ 5) ∧ d ≤ (pqR V b S W d g).1 ∧ (pqR V b S W d g).1 ≤ g := by
  have h1 : ∀ k, pre (whS S) W (npV V) k ≤ 5 := pre_le hS hW
  have h2 := prF_le (t := psS S) hb (g - d) d (pre (whS S) W (npV V)) h1
  exact ⟨fun k => wkF_le h2.1 (npV V) k, h2.2.1, by have := h2.2.2; show _ ≤ _; unfold pqR; show (prF (psS S) b (g - d) d (pre (whS S) W (npV V))).1 ≤ g; omega⟩
set_option maxHeartbeats 4000000 in
set_option maxRecDepth 100000 in
theorem g_ckL (E : EnvT) (ad : Nat → Nat) (b : Bki) (V : Vil) (X : Vix) (L : Nat → Int32) (S : Scn) (W : Nat → Nat) (g q d2 : Nat) (r0 : Option Value) (w0 : List va_E) (hb : ∀ k, b.2.1 k < 1000 ∧ b.2.2.1 k < 5 ∧ b.2.2.2 k ≤ 5) (hS : Sle V S) (hg : ∀ k, k < d2 → b.2.2.1 k < npV V) (hp5 : npV V ≤ 5) (h2 : d2 ≤ 150) : ∀ (n k : Nat), k + n = d2 → (ckF S b n k = d2 → Tr (E, mX2_firstThatCannot, ad, r0, w0) 0 0 85 [some (.ref (ad 0)), some (.ref (ad 12)), some (.ref (ad 23)), some (.int (nI g)), some (.int (nI d2)), some (.int (nI q)), none] [] (lgC E ad b S W V X L)) → (ckF S b n k < d2 → some (.int (nI (ckF S b n k))) = r0 ∧ (lgC E ad b S W V X L) = w0) → Tr (E, mX2_firstThatCannot, ad, r0, w0) 0 0 44 [some (.ref (ad 0)), some (.ref (ad 12)), some (.ref (ad 23)), some (.int (nI g)), some (.int (nI k)), some (.int (nI q)), some (.int (nI d2))] [] (lgC E ad b S W V X L) := by
  intro n
  induction n with
  | zero =>
    intro k h hx hy
    have hk : k = d2 := by omega
    rw [hk]
    have hx := hx (by rw [hk]; rfl)
    refine Tr.iload dX2_firstThatCannot_44 rfl (Eq.refl 46) ?_
    refine Tr.iload dX2_firstThatCannot_46 rfl (Eq.refl 48) ?_
    refine Tr.icmp_geN (tgt := 85) dX2_firstThatCannot_48 (by decide) (Eq.refl 51) (by omega) (by omega) (fun h48 => ?_) (fun h48 => ?_)
    · refine Tr.mask [true, true, true, true, true, true, false] (lv' := [some (.ref (ad 0)), some (.ref (ad 12)), some (.ref (ad 23)), some (.int (nI g)), some (.int (nI d2)), some (.int (nI q)), none]) rfl ?_
      exact Tr.eqs rfl rfl rfl hx
    · exact absurd h48 (by omega)
  | succ n ih =>
    intro k h hx hy
    have b1 := hb k
    have b2 := hg k (by omega)
    have b3 := hS _ b2
    have hu : ckF S b (n + 1) k = if whS S (b.2.2.1 k) = b.2.2.2 k then ckF S b n (k + 1) else k := rfl
    rw [hu] at hx hy
    clear hu
    refine Tr.iload dX2_firstThatCannot_44 rfl (Eq.refl 46) ?_
    refine Tr.iload dX2_firstThatCannot_46 rfl (Eq.refl 48) ?_
    refine Tr.icmp_geN (tgt := 85) dX2_firstThatCannot_48 (by decide) (Eq.refl 51) (by omega) (by omega) (fun h48 => ?_) (fun h48 => ?_)
    · exact absurd h48 (by omega)
    · refine Tr.aload_n (i := 0) dX2_firstThatCannot_51 rfl rfl (Eq.refl 52) ?_
      refine Tr.getf dX2_firstThatCannot_52 fX2_24 rfl rfl (Eq.refl 55) ?_
      refine Tr.getf dX2_firstThatCannot_55 fX2_69 rfl rfl (Eq.refl 58) ?_
      refine Tr.aload_n (i := 0) dX2_firstThatCannot_58 rfl rfl (Eq.refl 59) ?_
      refine Tr.getf dX2_firstThatCannot_59 fX2_15 rfl rfl (Eq.refl 62) ?_
      refine Tr.iload dX2_firstThatCannot_62 rfl (Eq.refl 64) ?_
      refine Tr.ialdN dX2_firstThatCannot_64 rfl (by omega) (by decide) (Eq.refl 65) ?_
      refine Tr.ialdN dX2_firstThatCannot_65 rfl (by omega) (by decide) (Eq.refl 66) ?_
      refine Tr.aload_n (i := 0) dX2_firstThatCannot_66 rfl rfl (Eq.refl 67) ?_
      refine Tr.getf dX2_firstThatCannot_67 fX2_18 rfl rfl (Eq.refl 70) ?_
      refine Tr.iload dX2_firstThatCannot_70 rfl (Eq.refl 72) ?_
      refine Tr.ialdN dX2_firstThatCannot_72 rfl (by omega) (by decide) (Eq.refl 73) ?_
      refine Tr.icmp_eq (tgt := 79) dX2_firstThatCannot_73 (by decide) (Eq.refl 76) (fun h73 => ?_) (fun h73 => ?_)
      · rw [cl_inj b3 b1.2.2] at h73
        rw [if_pos h73] at hx hy
        refine Tr.iincN dX2_firstThatCannot_79 rfl rfl rfl (Eq.refl 82) ?_
        refine Tr.goto (pc' := 44) dX2_firstThatCannot_82 (by decide) ?_
        exact Tr.eqs rfl rfl rfl (ih (k + 1) (by omega) hx hy)
      · rw [cl_inj b3 b1.2.2] at h73
        rw [if_neg h73] at hx hy
        have hy := hy (by omega)
        refine Tr.iload dX2_firstThatCannot_76 rfl (Eq.refl 78) ?_
        refine Tr.iret dX2_firstThatCannot_78 rfl (by first | rfl | exact bI_nar _) ?_ ?_
        · exact hy.1.symm
        · exact hy.2
set_option maxHeartbeats 4000000 in
set_option maxRecDepth 100000 in
theorem g_fcL (E : EnvT) (ad : Nat → Nat) (b : Bki) (V : Vil) (X : Vix) (L : Nat → Int32) (g : Nat) (hb : ∀ k, b.2.1 k < 1000 ∧ b.2.2.1 k < 5 ∧ b.2.2.2 k ≤ 5) (hV : Vok V) (hg : g ≤ b.1) (hs : b.1 ≤ 150) (hi : ∀ k, k < g → b.2.2.1 k < npV V) : ∀ (n q d : Nat) (S : Scn) (W : Nat → Nat), q + n = 100 → psS S = q → d ≤ g → Sle V S → (∀ k, W k ≤ 5) → Tr (E, mX2_firstThatCannot, ad, some (.int (fcA b g (fcF V L b g n d S W).1)), (lgC E ad b (fcF V L b g n d S W).2.1 (fcF V L b g n d S W).2.2 V X L)) 0 0 20 [some (.ref (ad 0)), some (.ref (ad 12)), some (.ref (ad 23)), some (.int (nI g)), some (.int (nI d)), some (.int (nI q)), none] [] (lgC E ad b S W V X L) := by
  have hp5 := hV.2.1
  intro n
  induction n with
  | zero =>
    intro q d S W h hq hd hS hW
    have hu : fcF V L b g 0 d S W = (1000, S, W) := rfl
    rw [hu]
    clear hu
    refine Tr.iload dX2_firstThatCannot_20 rfl (Eq.refl 22) ?_
    refine Tr.bipush (v := nI 99) dX2_firstThatCannot_22 (by decide +kernel) (Eq.refl 24) ?_
    refine Tr.icmp_gtN (tgt := 91) dX2_firstThatCannot_24 (by decide) (Eq.refl 27) (by omega) (by omega) (fun h24 => ?_) (fun h24 => ?_)
    · refine Tr.iload_n (i := 3) dX2_firstThatCannot_91 rfl rfl (Eq.refl 92) ?_
      refine Tr.aload_n (i := 0) dX2_firstThatCannot_92 rfl rfl (Eq.refl 93) ?_
      refine Tr.getf dX2_firstThatCannot_93 fX2_31 rfl rfl (Eq.refl 96) ?_
      refine Tr.icmp_geN (tgt := 103) dX2_firstThatCannot_96 (by decide) (Eq.refl 99) (by omega) (by omega) (fun h96 => ?_) (fun h96 => ?_)
      · rw [show fcA b g 1000 = -1 by unfold fcA; rw [if_neg (by decide), if_neg (by omega)]]
        refine Tr.iconst (v := (-1)) dX2_firstThatCannot_103 (by decide +kernel) (Eq.refl 104) ?_
        refine Tr.iret dX2_firstThatCannot_104 rfl (by first | rfl | exact bI_nar _) ?_ ?_
        · rfl
        · rfl
      · rw [show fcA b g 1000 = nI g by unfold fcA; rw [if_neg (by decide), if_pos (by omega)]]
        refine Tr.iload_n (i := 3) dX2_firstThatCannot_99 rfl rfl (Eq.refl 100) ?_
        refine Tr.goto (pc' := 104) dX2_firstThatCannot_100 (by decide) ?_
        refine Tr.iret dX2_firstThatCannot_104 rfl (by first | rfl | exact bI_nar _) ?_ ?_
        · rfl
        · rfl
    · exact absurd h24 (by omega)
  | succ n ih =>
    intro q d S W h hq hd hS hW
    have hu : fcF V L b g (n + 1) d S W = if d < g then (if ckF (gon V L (pqR V b S W d g).2 S) b ((pqR V b S W d g).1 - d) d < (pqR V b S W d g).1 then (ckF (gon V L (pqR V b S W d g).2 S) b ((pqR V b S W d g).1 - d) d, gon V L (pqR V b S W d g).2 S, (pqR V b S W d g).2) else fcF V L b g n (pqR V b S W d g).1 (gon V L (pqR V b S W d g).2 S) (pqR V b S W d g).2) else (1000, S, W) := rfl
    rw [hu]
    clear hu
    have hl := pqR_le (V := V) (b := b) (S := S) (W := W) (d := d) (g := g) (fun k => (hb k).2.2) hS hW hd
    have hS2 : Sle V (gon V L (pqR V b S W d g).2 S) := gon_le hS (fun p _ => hl.1 p)
    have hp2 : psS (gon V L (pqR V b S W d g).2 S) = q + 1 := by rw [gon_ps, hq]
    refine Tr.iload dX2_firstThatCannot_20 rfl (Eq.refl 22) ?_
    refine Tr.bipush (v := nI 99) dX2_firstThatCannot_22 (by decide +kernel) (Eq.refl 24) ?_
    refine Tr.icmp_gtN (tgt := 91) dX2_firstThatCannot_24 (by decide) (Eq.refl 27) (by omega) (by omega) (fun h24 => ?_) (fun h24 => ?_)
    · exact absurd h24 (by omega)
    · refine Tr.iload dX2_firstThatCannot_27 rfl (Eq.refl 29) ?_
      refine Tr.iload_n (i := 3) dX2_firstThatCannot_29 rfl rfl (Eq.refl 30) ?_
      refine Tr.icmp_geN (tgt := 91) dX2_firstThatCannot_30 (by decide) (Eq.refl 33) (by omega) (by omega) (fun h30 => ?_) (fun h30 => ?_)
      · rw [if_neg (by omega)]
        refine Tr.iload_n (i := 3) dX2_firstThatCannot_91 rfl rfl (Eq.refl 92) ?_
        refine Tr.aload_n (i := 0) dX2_firstThatCannot_92 rfl rfl (Eq.refl 93) ?_
        refine Tr.getf dX2_firstThatCannot_93 fX2_31 rfl rfl (Eq.refl 96) ?_
        refine Tr.icmp_geN (tgt := 103) dX2_firstThatCannot_96 (by decide) (Eq.refl 99) (by omega) (by omega) (fun h96 => ?_) (fun h96 => ?_)
        · rw [show fcA b g 1000 = -1 by unfold fcA; rw [if_neg (by decide), if_neg (by omega)]]
          refine Tr.iconst (v := (-1)) dX2_firstThatCannot_103 (by decide +kernel) (Eq.refl 104) ?_
          refine Tr.iret dX2_firstThatCannot_104 rfl (by first | rfl | exact bI_nar _) ?_ ?_
          · rfl
          · rfl
        · rw [show fcA b g 1000 = nI g by unfold fcA; rw [if_neg (by decide), if_pos (by omega)]]
          refine Tr.iload_n (i := 3) dX2_firstThatCannot_99 rfl rfl (Eq.refl 100) ?_
          refine Tr.goto (pc' := 104) dX2_firstThatCannot_100 (by decide) ?_
          refine Tr.iret dX2_firstThatCannot_104 rfl (by first | rfl | exact bI_nar _) ?_ ?_
          · rfl
          · rfl
      · rw [if_pos (by omega)]
        refine Tr.aload_n (i := 0) dX2_firstThatCannot_33 rfl rfl (Eq.refl 34) ?_
        refine Tr.aload_n (i := 1) dX2_firstThatCannot_34 rfl rfl (Eq.refl 35) ?_
        refine Tr.aload_n (i := 2) dX2_firstThatCannot_35 rfl rfl (Eq.refl 36) ?_
        refine Tr.iload dX2_firstThatCannot_36 rfl (Eq.refl 38) ?_
        refine Tr.iload_n (i := 3) dX2_firstThatCannot_38 rfl rfl (Eq.refl 39) ?_
        refine Tr.callV (L := [0, 1, 2, 3, 4, 5, 6, 7, 8, 9, 10, 11, 12, 13, 14, 15, 16, 17, 18, 19, 20, 21, 22, 23]) (g_pass E _ b S W V X L d g hb hV hS hW (by omega) (by omega) hd) dX2_firstThatCannot_39 (kX2_65 (Nat.le_of_ble_eq_true rfl)) iX2_passRows rfl rfl rfl rfl rfl rfl rfl rfl rfl rfl (Eq.refl 42) ?_
        refine Tr.pic (w' := (lgC E ad b (gon V L (pqR V b S W d g).2 S) (pqR V b S W d g).2 V X L)) (putB_eq (Lc := []) 24 rfl rfl rfl rfl trivial (by decide) rfl) ?_
        generalize gon V L (pqR V b S W d g).2 S = S2 at *
        generalize pqR V b S W d g = y at *
        refine Tr.istore dX2_firstThatCannot_42 rfl rfl (Eq.refl 44) ?_
        have hc := ckF_le S2 b (y.1 - d) d
        refine g_ckL E ad b V X L S2 y.2 g q y.1 _ _ hb hS2 (fun k hk => hi k (by omega)) hp5 (by omega) (y.1 - d) d (by omega) (fun he => ?_) (fun he => by rw [if_pos he]; exact ⟨by unfold fcA; rw [if_pos (by omega)], rfl⟩)
        rw [if_neg (by omega)]
        refine Tr.iincN dX2_firstThatCannot_85 rfl rfl rfl (Eq.refl 88) ?_
        refine Tr.goto (pc' := 20) dX2_firstThatCannot_88 (by decide) ?_
        exact Tr.eqs rfl rfl rfl (ih (q + 1) y.1 S2 y.2 (by omega) hp2 hl.2.2 hS2 hl.1)
set_option maxHeartbeats 4000000 in
set_option maxRecDepth 100000 in
theorem g_first (E : EnvT) (ad : Nat → Nat) (b : Bki) (V : Vil) (X : Vix) (L : Nat → Int32) (S : Scn) (W : Nat → Nat) (hb : ∀ k, b.2.1 k < 1000 ∧ b.2.2.1 k < 5 ∧ b.2.2.2 k ≤ 5) (hV : Vok V) (hs : b.1 ≤ 150) (hW : ∀ k, W k ≤ 5) : Md E mX2_firstThatCannot ad [.ref (ad 0), .ref (ad 12), .ref (ad 23)] (lgC E ad b S W V X L) (some (.int (fcA b (gdF V b b.1 0) (fcY V X L b W).1))) (lgC E ad b (fcY V X L b W).2.1 (fcY V X L b W).2.2 V X L) := by
  have hg := gdF_le V b b.1 0
  have hi : ∀ k, k < gdF V b b.1 0 → b.2.2.1 k < npV V := fun k hk => inC_p (gdF_in V b b.1 0 k (Nat.zero_le _) hk)
  have hh5 := hV.1
  have hSb : Sle V (sBeg V X) := fun p hp => by show hoV V p ≤ 5; have := hV.2.2.2.1 p hp; omega
  have hL := g_fcL E ad b V X L (gdF V b b.1 0) hb hV (by omega) hs hi 100 0 0 (sBeg V X) W rfl rfl (Nat.zero_le _) hSb hW
  unfold fcY
  generalize fcF V L b (gdF V b b.1 0) 100 0 (sBeg V X) W = y at *
  refine Md.of 4 (by decide) rfl rfl ?_
  refine Tr.aload_n (i := 0) dX2_firstThatCannot_0 rfl rfl (Eq.refl 1) ?_
  refine Tr.aload_n (i := 1) dX2_firstThatCannot_1 rfl rfl (Eq.refl 2) ?_
  refine Tr.callVr (L := [0, 1, 2, 3, 12, 13, 14, 15, 16, 17, 18, 19, 20, 21, 22]) (g_rows E _ (fun k => ad (4 + 7 * k)) b V X hb hV hs) dX2_firstThatCannot_2 (kX2_57 (Nat.le_of_ble_eq_true rfl)) iX2_rowsInOrder rfl rfl rfl rfl rfl rfl rfl rfl rfl (Eq.refl 5) ?_
  refine Tr.istore_n (i := 3) dX2_firstThatCannot_5 rfl rfl rfl (Eq.refl 6) ?_
  refine Tr.iconst (v := nI 0) dX2_firstThatCannot_6 (icN 0) (Eq.refl 7) ?_
  refine Tr.istore dX2_firstThatCannot_7 rfl rfl (Eq.refl 9) ?_
  refine Tr.aload_n (i := 0) dX2_firstThatCannot_9 rfl rfl (Eq.refl 10) ?_
  refine Tr.getf dX2_firstThatCannot_10 fX2_24 rfl rfl (Eq.refl 13) ?_
  refine Tr.aload_n (i := 1) dX2_firstThatCannot_13 rfl rfl (Eq.refl 14) ?_
  refine Tr.callV (L := [4, 5, 6, 7, 8, 9, 10, 12, 13, 14, 15, 16, 17, 18, 19, 20, 21, 22]) (c_scBegin E _ S V X) dX2_firstThatCannot_14 (kX2_61 (Nat.le_of_ble_eq_true rfl)) iX3_begin rfl rfl rfl rfl rfl rfl rfl rfl rfl rfl (Eq.refl 17) ?_
  refine Tr.pic (w' := (lgC E ad b (sBeg V X) W V X L)) (putB_eq (Lc := [0, 1, 2, 3, 11, 23]) 24 rfl rfl rfl rfl ⟨⟨_, rfl, rfl⟩, ⟨_, rfl, rfl⟩, ⟨_, rfl, rfl⟩, ⟨_, rfl, rfl⟩, ⟨_, rfl, rfl⟩, ⟨_, rfl, rfl⟩, trivial⟩ (by decide) rfl) ?_
  refine Tr.iconst (v := nI 0) dX2_firstThatCannot_17 (icN 0) (Eq.refl 18) ?_
  refine Tr.istore dX2_firstThatCannot_18 rfl rfl (Eq.refl 20) ?_
  generalize gdF V b b.1 0 = g at *
  exact Tr.eqs rfl rfl rfl hL
