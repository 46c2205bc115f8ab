/-! Trial: the rings -/
def frS (V : Vil) (P : Nat → Nat) (L : Nat → Int32) (O : Scn) (ch : Nat → Nat) (q : (Nat → Nat) × Scn × Int32 × Int32) : (Nat → Nat) × Scn × Int32 × Int32 :=
  if (itB (grS V ch) (nI 0) (npV V)).1 then
    (if (itB (roS V P L O ch) (q.1, q.2.1) (npV V)).1 then ((itB (roS V P L O ch) (q.1, q.2.1) (npV V)).2.1, (itB (roS V P L O ch) (q.1, q.2.1) (npV V)).2.2, q.2.2.1 + nI 1, if q.2.2.1 + nI 1 = nI 1 then rnF V ch (npV V) else q.2.2.2)
      else ((itB (roS V P L O ch) (q.1, q.2.1) (npV V)).2.1, (itB (roS V P L O ch) (q.1, q.2.1) (npV V)).2.2, q.2.2.1, q.2.2.2))
  else q
def frF (V : Vil) (P : Nat → Nat) (L : Nat → Int32) (O : Scn) (mo : Nat → Nat) (z : Nat) : Nat → Nat → (Nat → Nat) → (Nat → Nat) × Scn × Int32 × Int32 → (Nat → Nat) × (Nat → Nat) × Scn × Int32 × Int32
  | 0, _, ch, q => (ch, q)
  | n + 1, c, ch, q => if c < 5 then frF V P L O mo z n (gcF mo z ch).2 (gcF mo z ch).1 (frS V P L O ch q) else (ch, q)
theorem gcF_lt5 (mo : Nat → Nat) : ∀ (n : Nat) (ch : Nat → Nat), (∀ k, k < n → mo k ≤ 5) → ∀ (N : Nat), (∀ k, k < N → ch k < 5) → n ≤ N → ∀ k, k < N → (gcF mo n ch).1 k < 5 := by
  intro n
  induction n with
  | zero => intro ch _ N hN _; exact hN
  | succ n ih =>
    intro ch hm N hN hle
    unfold gcF
    split
    · intro k hk
      have h9 := hm n (Nat.lt_succ_self n)
      by_cases h : k = n
      · subst h; show upN ch k _ k < 5; rw [upN_self]; omega
      · show upN ch n _ k < 5; rw [upN_ne _ _ h]; exact hN k hk
    · exact ih (upN ch n 0) (fun k hk => hm k (by omega)) N (fun k hk => by
        by_cases h : k = n
        · subst h; rw [upN_self]; omega
        · rw [upN_ne _ _ h]; exact hN k hk) (by omega)
set_option maxHeartbeats 4000000 in
set_option maxRecDepth 100000 in
theorem c_findRings_loop (E : EnvT) (ad : Nat → Nat) (V : Vil) (X : Vix) (P : Nat → Nat) (L : Nat → Int32) (O : Scn) (mo : Nat → Nat) (G : Nat → Int32) (K : Nat → Nat) (bs br : Int32) (D : Nat → Scn) (hV : Vok V) (hP : Ple P) (hO : Sle V O) (ht : psS O < 2 ^ 30) (hm : ∀ k, k < npV V → mo k ≤ 5) : ∀ (n i c : Nat) (ch : Nat → Nat) (q : (Nat → Nat) × Scn × Int32 × Int32), i + n = 7776 → (∀ k, k < npV V → ch k < 5) → Tr (E, mX6_findRings, ad, none, trX E ad 0 V X P L O (frF V P L O mo (npV V) n c ch q).2.2.1 (frF V P L O mo (npV V) n c ch q).2.1 (frF V P L O mo (npV V) n c ch q).1 mo (npV V) G K bs br (frF V P L O mo (npV V) n c ch q).2.2.2.1 (frF V P L O mo (npV V) n c ch q).2.2.2.2 (D 0) (D 1) (D 2) (D 3) (D 4)) 0 0 85 [some (.ref (ad 0)), some (.int (cl c)), some (.int (nI i))] [] (trX E ad 0 V X P L O q.2.1 q.1 ch mo (npV V) G K bs br q.2.2.1 q.2.2.2 (D 0) (D 1) (D 2) (D 3) (D 4)) := by
  intro n
  have v1 := hV.1
  have v2 := hV.2.1
  induction n with
  | zero =>
    intro i c ch q hi hc
    refine Tr.iload_n (i := 2) dX6_findRings_85 rfl rfl (Eq.refl 86) ?_
    refine Tr.sipush (v := nI 7776) dX6_findRings_86 (by decide +kernel) (Eq.refl 89) ?_
    refine Tr.icmp_geN (tgt := 151) dX6_findRings_89 (by decide) (Eq.refl 92) (by omega) (by omega) (fun h89 => ?_) (fun h89 => ?_)
    · refine Tr.ret dX6_findRings_151 rfl rfl ?_
      · rfl
    · exact absurd h89 (by omega)
  | succ n ih =>
    intro i c ch q hi hc
    obtain ⟨W, S, rg, lr⟩ := q
    have hc2 : ∀ k, k < npV V → (gcF mo (npV V) ch).1 k < 5 := gcF_lt5 mo (npV V) ch hm (npV V) hc (Nat.le_refl _)
    have ih2 := ih (i + 1) (gcF mo (npV V) ch).2 (gcF mo (npV V) ch).1 (frS V P L O ch (W, S, rg, lr)) (by omega) hc2
    have hst : frF V P L O mo (npV V) (n + 1) c ch (W, S, rg, lr) = if c < 5 then frF V P L O mo (npV V) n (gcF mo (npV V) ch).2 (gcF mo (npV V) ch).1 (frS V P L O ch (W, S, rg, lr)) else (ch, (W, S, rg, lr)) := rfl
    have hK : ∀ W S (rg lr : Int32), Tok (V, X, P, L, O, S, W, ch, mo, npV V, G, K, bs, br, rg, lr, D) := fun _ _ _ _ => ⟨hV, hP, hO, ht⟩
    have hu : frS V P L O ch (W, S, rg, lr) = if (itB (grS V ch) (nI 0) (npV V)).1 then (if (itB (roS V P L O ch) (W, S) (npV V)).1 then ((itB (roS V P L O ch) (W, S) (npV V)).2.1, (itB (roS V P L O ch) (W, S) (npV V)).2.2, rg + nI 1, if rg + nI 1 = nI 1 then rnF V ch (npV V) else lr) else ((itB (roS V P L O ch) (W, S) (npV V)).2.1, (itB (roS V P L O ch) (W, S) (npV V)).2.2, rg, lr)) else (W, S, rg, lr) := rfl
    show Tr _ 0 0 85 _ _ (trX E ad 0 V X P L O S W ch mo (npV V) G K bs br rg lr (D 0) (D 1) (D 2) (D 3) (D 4))
    refine Tr.iload_n (i := 2) dX6_findRings_85 rfl rfl (Eq.refl 86) ?_
    refine Tr.sipush (v := nI 7776) dX6_findRings_86 (by decide +kernel) (Eq.refl 89) ?_
    refine Tr.icmp_geN (tgt := 151) dX6_findRings_89 (by decide) (Eq.refl 92) (by omega) (by omega) (fun h89 => ?_) (fun h89 => ?_)
    · exact absurd h89 (by omega)
    · refine Tr.iload_n (i := 1) dX6_findRings_92 rfl rfl (Eq.refl 93) ?_
      refine Tr.iconst (v := (-1)) dX6_findRings_93 (by decide +kernel) (Eq.refl 94) ?_
      refine Tr.icmp_eq (tgt := 151) dX6_findRings_94 (by decide) (Eq.refl 97) (fun h94 => ?_) (fun h94 => ?_)
      · rw [cl_none] at h94
        rw [if_neg h94] at hst
        refine Tr.ret dX6_findRings_151 rfl rfl ?_
        · rw [hst]; rfl
      · rw [cl_none] at h94
        rw [if_pos (by omega)] at hst
        rw [hst]
        clear hst ih
        refine Tr.aload_n (i := 0) dX6_findRings_97 rfl rfl (Eq.refl 98) ?_
        refine Tr.callVs (c_goRound E ad (V, X, P, L, O, S, W, ch, mo, npV V, G, K, bs, br, rg, lr, D) hV hc) dX6_findRings_98 (kX6_190 (Nat.le_of_ble_eq_true rfl)) iX6_goRound rfl rfl rfl rfl rfl (trC_le _ _ _ ((V, X, P, L, O, S, W, ch, mo, z, G, K, bs, br, rg, lr, D) : Tst) ((V, X, P, L, O, S, W, ch, mo, z, G, K, bs, br, rg, lr, D) : Tst)) rfl rfl (Eq.refl 101) ?_
        refine Tr.top (y := bI (itB (grS V ch) (nI 0) (npV V)).1) rfl ?_
        refine Tr.pic (w' := trX E ad 0 V X P L O S W ch mo (npV V) G K bs br rg lr (D 0) (D 1) (D 2) (D 3) (D 4)) rfl ?_
        refine Tr.if_eqB (tgt := 137) dX6_findRings_101 (by decide) (Eq.refl 104) (fun h101 => ?_) (fun h101 => ?_)
        · rw [if_neg (by rw [h101]; decide)] at hu
          generalize frS V P L O ch (W, S, rg, lr) = Y at *
          refine Tr.pic (w' := trX E ad 0 V X P L O Y.2.1 Y.1 ch mo (npV V) G K bs br Y.2.2.1 Y.2.2.2 (D 0) (D 1) (D 2) (D 3) (D 4)) (by rw [hu]; first | done | rfl) ?_
          refine Tr.aload_n (i := 0) dX6_findRings_137 rfl rfl (Eq.refl 138) ?_
          refine Tr.getf dX6_findRings_138 fX6_46 rfl rfl (Eq.refl 141) ?_
          refine Tr.callV (L := [31, 32, 33]) (c_chGoOn E _ ch mo (npV V) v2 (fun k hk => ⟨Nat.lt_of_lt_of_le (hc k hk) (by decide), Nat.lt_of_le_of_lt (hm k hk) (by decide)⟩)) dX6_findRings_141 (kX6_113 (Nat.le_of_ble_eq_true rfl)) iX0_goOn rfl rfl rfl rfl rfl rfl rfl rfl rfl rfl (Eq.refl 144) ?_
          refine Tr.pic (w' := trX E ad 0 V X P L O Y.2.1 Y.1 (gcF mo (npV V) ch).1 mo (npV V) G K bs br Y.2.2.1 Y.2.2.2 (D 0) (D 1) (D 2) (D 3) (D 4)) (putB_eq (Lc := [0, 1, 2, 3, 4, 5, 6, 7, 8, 9, 10, 11, 12, 13, 14, 15, 16, 17, 18, 19, 20, 21, 22, 23, 24, 25, 26, 27, 28, 29, 30, 34, 35, 36, 37, 38, 39, 40, 41, 42, 43, 44, 45, 46, 47, 48, 49, 50, 51, 52, 53, 54, 55, 56, 57, 58, 59, 60, 61, 62, 63, 64, 65, 66, 67, 68, 69, 70]) 71 rfl rfl rfl rfl ⟨⟨_, rfl, rfl⟩, ⟨_, rfl, rfl⟩, ⟨_, rfl, rfl⟩, ⟨_, rfl, rfl⟩, ⟨_, rfl, rfl⟩, ⟨_, rfl, rfl⟩, ⟨_, rfl, rfl⟩, ⟨_, rfl, rfl⟩, ⟨_, rfl, rfl⟩, ⟨_, rfl, rfl⟩, ⟨_, rfl, rfl⟩, ⟨_, rfl, rfl⟩, ⟨_, rfl, rfl⟩, ⟨_, rfl, rfl⟩, ⟨_, rfl, rfl⟩, ⟨_, rfl, rfl⟩, ⟨_, rfl, rfl⟩, ⟨_, rfl, rfl⟩, ⟨_, rfl, rfl⟩, ⟨_, rfl, rfl⟩, ⟨_, rfl, rfl⟩, ⟨_, rfl, rfl⟩, ⟨_, rfl, rfl⟩, ⟨_, rfl, rfl⟩, ⟨_, rfl, rfl⟩, ⟨_, rfl, rfl⟩, ⟨_, rfl, rfl⟩, ⟨_, rfl, rfl⟩, ⟨_, rfl, rfl⟩, ⟨_, rfl, rfl⟩, ⟨_, rfl, rfl⟩, ⟨_, rfl, rfl⟩, ⟨_, rfl, rfl⟩, ⟨_, rfl, rfl⟩, ⟨_, rfl, rfl⟩, ⟨_, rfl, rfl⟩, ⟨_, rfl, rfl⟩, ⟨_, rfl, rfl⟩, ⟨_, rfl, rfl⟩, ⟨_, rfl, rfl⟩, ⟨_, rfl, rfl⟩, ⟨_, rfl, rfl⟩, ⟨_, rfl, rfl⟩, ⟨_, rfl, rfl⟩, ⟨_, rfl, rfl⟩, ⟨_, rfl, rfl⟩, ⟨_, rfl, rfl⟩, ⟨_, rfl, rfl⟩, ⟨_, rfl, rfl⟩, ⟨_, rfl, rfl⟩, ⟨_, rfl, rfl⟩, ⟨_, rfl, rfl⟩, ⟨_, rfl, rfl⟩, ⟨_, rfl, rfl⟩, ⟨_, rfl, rfl⟩, ⟨_, rfl, rfl⟩, ⟨_, rfl, rfl⟩, ⟨_, rfl, rfl⟩, ⟨_, rfl, rfl⟩, ⟨_, rfl, rfl⟩, ⟨_, rfl, rfl⟩, ⟨_, rfl, rfl⟩, ⟨_, rfl, rfl⟩, ⟨_, rfl, rfl⟩, ⟨_, rfl, rfl⟩, ⟨_, rfl, rfl⟩, ⟨_, rfl, rfl⟩, ⟨_, rfl, rfl⟩, trivial⟩ (by decide) rfl) ?_
          refine Tr.istore_n (i := 1) dX6_findRings_144 rfl rfl rfl (Eq.refl 145) ?_
          refine Tr.iincN dX6_findRings_145 rfl rfl rfl (Eq.refl 148) ?_
          refine Tr.goto (pc' := 85) dX6_findRings_148 (by decide) ?_
          exact Tr.eqs rfl rfl rfl ih2
        · rw [if_pos h101] at hu
          refine Tr.aload_n (i := 0) dX6_findRings_104 rfl rfl (Eq.refl 105) ?_
          refine Tr.callVs (c_isRing E ad (V, X, P, L, O, S, W, ch, mo, npV V, G, K, bs, br, rg, lr, D) (hK _ _ _ _) hc) dX6_findRings_105 (kX6_193 (Nat.le_of_ble_eq_true rfl)) iX6_isRing rfl rfl rfl rfl rfl (trC_le _ _ _ ((V, X, P, L, O, S, W, ch, mo, z, G, K, bs, br, rg, lr, D) : Tst) ((V, X, P, L, O, S, W, ch, mo, z, G, K, bs, br, rg, lr, D) : Tst)) rfl rfl (Eq.refl 108) ?_
          refine Tr.top (y := bI (itB (roS V P L O ch) (W, S) (npV V)).1) rfl ?_
          refine Tr.pic (w' := trX E ad 0 V X P L O (itB (roS V P L O ch) (W, S) (npV V)).2.2 (itB (roS V P L O ch) (W, S) (npV V)).2.1 ch mo (npV V) G K bs br rg lr (D 0) (D 1) (D 2) (D 3) (D 4)) rfl ?_
          generalize itB (roS V P L O ch) (W, S) (npV V) = R at *
          refine Tr.if_eqB (tgt := 137) dX6_findRings_108 (by decide) (Eq.refl 111) (fun h108 => ?_) (fun h108 => ?_)
          · rw [if_neg (by rw [h108]; decide)] at hu
            generalize frS V P L O ch (W, S, rg, lr) = Y at *
            refine Tr.pic (w' := trX E ad 0 V X P L O Y.2.1 Y.1 ch mo (npV V) G K bs br Y.2.2.1 Y.2.2.2 (D 0) (D 1) (D 2) (D 3) (D 4)) (by rw [hu]; first | done | rfl) ?_
            refine Tr.aload_n (i := 0) dX6_findRings_137 rfl rfl (Eq.refl 138) ?_
            refine Tr.getf dX6_findRings_138 fX6_46 rfl rfl (Eq.refl 141) ?_
            refine Tr.callV (L := [31, 32, 33]) (c_chGoOn E _ ch mo (npV V) v2 (fun k hk => ⟨Nat.lt_of_lt_of_le (hc k hk) (by decide), Nat.lt_of_le_of_lt (hm k hk) (by decide)⟩)) dX6_findRings_141 (kX6_113 (Nat.le_of_ble_eq_true rfl)) iX0_goOn rfl rfl rfl rfl rfl rfl rfl rfl rfl rfl (Eq.refl 144) ?_
            refine Tr.pic (w' := trX E ad 0 V X P L O Y.2.1 Y.1 (gcF mo (npV V) ch).1 mo (npV V) G K bs br Y.2.2.1 Y.2.2.2 (D 0) (D 1) (D 2) (D 3) (D 4)) (putB_eq (Lc := [0, 1, 2, 3, 4, 5, 6, 7, 8, 9, 10, 11, 12, 13, 14, 15, 16, 17, 18, 19, 20, 21, 22, 23, 24, 25, 26, 27, 28, 29, 30, 34, 35, 36, 37, 38, 39, 40, 41, 42, 43, 44, 45, 46, 47, 48, 49, 50, 51, 52, 53, 54, 55, 56, 57, 58, 59, 60, 61, 62, 63, 64, 65, 66, 67, 68, 69, 70]) 71 rfl rfl rfl rfl ⟨⟨_, rfl, rfl⟩, ⟨_, rfl, rfl⟩, ⟨_, rfl, rfl⟩, ⟨_, rfl, rfl⟩, ⟨_, rfl, rfl⟩, ⟨_, rfl, rfl⟩, ⟨_, rfl, rfl⟩, ⟨_, rfl, rfl⟩, ⟨_, rfl, rfl⟩, ⟨_, rfl, rfl⟩, ⟨_, rfl, rfl⟩, ⟨_, rfl, rfl⟩, ⟨_, rfl, rfl⟩, ⟨_, rfl, rfl⟩, ⟨_, rfl, rfl⟩, ⟨_, rfl, rfl⟩, ⟨_, rfl, rfl⟩, ⟨_, rfl, rfl⟩, ⟨_, rfl, rfl⟩, ⟨_, rfl, rfl⟩, ⟨_, rfl, rfl⟩, ⟨_, rfl, rfl⟩, ⟨_, rfl, rfl⟩, ⟨_, rfl, rfl⟩, ⟨_, rfl, rfl⟩, ⟨_, rfl, rfl⟩, ⟨_, rfl, rfl⟩, ⟨_, rfl, rfl⟩, ⟨_, rfl, rfl⟩, ⟨_, rfl, rfl⟩, ⟨_, rfl, rfl⟩, ⟨_, rfl, rfl⟩, ⟨_, rfl, rfl⟩, ⟨_, rfl, rfl⟩, ⟨_, rfl, rfl⟩, ⟨_, rfl, rfl⟩, ⟨_, rfl, rfl⟩, ⟨_, rfl, rfl⟩, ⟨_, rfl, rfl⟩, ⟨_, rfl, rfl⟩, ⟨_, rfl, rfl⟩, ⟨_, rfl, rfl⟩, ⟨_, rfl, rfl⟩, ⟨_, rfl, rfl⟩, ⟨_, rfl, rfl⟩, ⟨_, rfl, rfl⟩, ⟨_, rfl, rfl⟩, ⟨_, rfl, rfl⟩, ⟨_, rfl, rfl⟩, ⟨_, rfl, rfl⟩, ⟨_, rfl, rfl⟩, ⟨_, rfl, rfl⟩, ⟨_, rfl, rfl⟩, ⟨_, rfl, rfl⟩, ⟨_, rfl, rfl⟩, ⟨_, rfl, rfl⟩, ⟨_, rfl, rfl⟩, ⟨_, rfl, rfl⟩, ⟨_, rfl, rfl⟩, ⟨_, rfl, rfl⟩, ⟨_, rfl, rfl⟩, ⟨_, rfl, rfl⟩, ⟨_, rfl, rfl⟩, ⟨_, rfl, rfl⟩, ⟨_, rfl, rfl⟩, ⟨_, rfl, rfl⟩, ⟨_, rfl, rfl⟩, ⟨_, rfl, rfl⟩, trivial⟩ (by decide) rfl) ?_
            refine Tr.istore_n (i := 1) dX6_findRings_144 rfl rfl rfl (Eq.refl 145) ?_
            refine Tr.iincN dX6_findRings_145 rfl rfl rfl (Eq.refl 148) ?_
            refine Tr.goto (pc' := 85) dX6_findRings_148 (by decide) ?_
            exact Tr.eqs rfl rfl rfl ih2
          · rw [if_pos h108] at hu
            refine Tr.aload_n (i := 0) dX6_findRings_111 rfl rfl (Eq.refl 112) ?_
            refine Tr.dup dX6_findRings_112 rfl (Eq.refl 113) ?_
            refine Tr.getf dX6_findRings_113 fX6_177 rfl rfl (Eq.refl 116) ?_
            refine Tr.iconst (v := nI 1) dX6_findRings_116 (icN 1) (Eq.refl 117) ?_
            refine Tr.iadd dX6_findRings_117 (Eq.refl 118) ?_
            refine Tr.putf dX6_findRings_118 pX6_177 rfl (rfl) (rfl) rfl (Eq.refl 121) ?_
            refine Tr.pic (w' := trX E ad 0 V X P L O R.2.2 R.2.1 ch mo (npV V) G K bs br (rg + nI 1) lr (D 0) (D 1) (D 2) (D 3) (D 4)) rfl ?_
            refine Tr.aload_n (i := 0) dX6_findRings_121 rfl rfl (Eq.refl 122) ?_
            refine Tr.getf dX6_findRings_122 fX6_177 rfl rfl (Eq.refl 125) ?_
            refine Tr.iconst (v := nI 1) dX6_findRings_125 (icN 1) (Eq.refl 126) ?_
            refine Tr.icmp_ne (tgt := 137) dX6_findRings_126 (by decide) (Eq.refl 129) (fun h126 => ?_) (fun h126 => ?_)
            · rw [if_neg h126] at hu
              generalize frS V P L O ch (W, S, rg, lr) = Y at *
              refine Tr.pic (w' := trX E ad 0 V X P L O Y.2.1 Y.1 ch mo (npV V) G K bs br Y.2.2.1 Y.2.2.2 (D 0) (D 1) (D 2) (D 3) (D 4)) (by rw [hu]; first | done | rfl) ?_
              refine Tr.aload_n (i := 0) dX6_findRings_137 rfl rfl (Eq.refl 138) ?_
              refine Tr.getf dX6_findRings_138 fX6_46 rfl rfl (Eq.refl 141) ?_
              refine Tr.callV (L := [31, 32, 33]) (c_chGoOn E _ ch mo (npV V) v2 (fun k hk => ⟨Nat.lt_of_lt_of_le (hc k hk) (by decide), Nat.lt_of_le_of_lt (hm k hk) (by decide)⟩)) dX6_findRings_141 (kX6_113 (Nat.le_of_ble_eq_true rfl)) iX0_goOn rfl rfl rfl rfl rfl rfl rfl rfl rfl rfl (Eq.refl 144) ?_
              refine Tr.pic (w' := trX E ad 0 V X P L O Y.2.1 Y.1 (gcF mo (npV V) ch).1 mo (npV V) G K bs br Y.2.2.1 Y.2.2.2 (D 0) (D 1) (D 2) (D 3) (D 4)) (putB_eq (Lc := [0, 1, 2, 3, 4, 5, 6, 7, 8, 9, 10, 11, 12, 13, 14, 15, 16, 17, 18, 19, 20, 21, 22, 23, 24, 25, 26, 27, 28, 29, 30, 34, 35, 36, 37, 38, 39, 40, 41, 42, 43, 44, 45, 46, 47, 48, 49, 50, 51, 52, 53, 54, 55, 56, 57, 58, 59, 60, 61, 62, 63, 64, 65, 66, 67, 68, 69, 70]) 71 rfl rfl rfl rfl ⟨⟨_, rfl, rfl⟩, ⟨_, rfl, rfl⟩, ⟨_, rfl, rfl⟩, ⟨_, rfl, rfl⟩, ⟨_, rfl, rfl⟩, ⟨_, rfl, rfl⟩, ⟨_, rfl, rfl⟩, ⟨_, rfl, rfl⟩, ⟨_, rfl, rfl⟩, ⟨_, rfl, rfl⟩, ⟨_, rfl, rfl⟩, ⟨_, rfl, rfl⟩, ⟨_, rfl, rfl⟩, ⟨_, rfl, rfl⟩, ⟨_, rfl, rfl⟩, ⟨_, rfl, rfl⟩, ⟨_, rfl, rfl⟩, ⟨_, rfl, rfl⟩, ⟨_, rfl, rfl⟩, ⟨_, rfl, rfl⟩, ⟨_, rfl, rfl⟩, ⟨_, rfl, rfl⟩, ⟨_, rfl, rfl⟩, ⟨_, rfl, rfl⟩, ⟨_, rfl, rfl⟩, ⟨_, rfl, rfl⟩, ⟨_, rfl, rfl⟩, ⟨_, rfl, rfl⟩, ⟨_, rfl, rfl⟩, ⟨_, rfl, rfl⟩, ⟨_, rfl, rfl⟩, ⟨_, rfl, rfl⟩, ⟨_, rfl, rfl⟩, ⟨_, rfl, rfl⟩, ⟨_, rfl, rfl⟩, ⟨_, rfl, rfl⟩, ⟨_, rfl, rfl⟩, ⟨_, rfl, rfl⟩, ⟨_, rfl, rfl⟩, ⟨_, rfl, rfl⟩, ⟨_, rfl, rfl⟩, ⟨_, rfl, rfl⟩, ⟨_, rfl, rfl⟩, ⟨_, rfl, rfl⟩, ⟨_, rfl, rfl⟩, ⟨_, rfl, rfl⟩, ⟨_, rfl, rfl⟩, ⟨_, rfl, rfl⟩, ⟨_, rfl, rfl⟩, ⟨_, rfl, rfl⟩, ⟨_, rfl, rfl⟩, ⟨_, rfl, rfl⟩, ⟨_, rfl, rfl⟩, ⟨_, rfl, rfl⟩, ⟨_, rfl, rfl⟩, ⟨_, rfl, rfl⟩, ⟨_, rfl, rfl⟩, ⟨_, rfl, rfl⟩, ⟨_, rfl, rfl⟩, ⟨_, rfl, rfl⟩, ⟨_, rfl, rfl⟩, ⟨_, rfl, rfl⟩, ⟨_, rfl, rfl⟩, ⟨_, rfl, rfl⟩, ⟨_, rfl, rfl⟩, ⟨_, rfl, rfl⟩, ⟨_, rfl, rfl⟩, ⟨_, rfl, rfl⟩, trivial⟩ (by decide) rfl) ?_
              refine Tr.istore_n (i := 1) dX6_findRings_144 rfl rfl rfl (Eq.refl 145) ?_
              refine Tr.iincN dX6_findRings_145 rfl rfl rfl (Eq.refl 148) ?_
              refine Tr.goto (pc' := 85) dX6_findRings_148 (by decide) ?_
              exact Tr.eqs rfl rfl rfl ih2
            · rw [if_pos h126] at hu
              refine Tr.aload_n (i := 0) dX6_findRings_129 rfl rfl (Eq.refl 130) ?_
              refine Tr.aload_n (i := 0) dX6_findRings_130 rfl rfl (Eq.refl 131) ?_
              refine Tr.callVs (c_ringNumber E ad (V, X, P, L, O, R.2.2, R.2.1, ch, mo, npV V, G, K, bs, br, rg + nI 1, lr, D) hV) dX6_findRings_131 (kX6_196 (Nat.le_of_ble_eq_true rfl)) iX6_ringNumber rfl rfl rfl rfl rfl (trC_le _ _ _ ((V, X, P, L, O, S, W, ch, mo, z, G, K, bs, br, rg, lr, D) : Tst) ((V, X, P, L, O, S, W, ch, mo, z, G, K, bs, br, rg, lr, D) : Tst)) rfl rfl (Eq.refl 134) ?_
              refine Tr.top (y := rnF V ch (npV V)) rfl ?_
              refine Tr.putf dX6_findRings_134 pX6_180 rfl (rfl) (rfl) rfl (Eq.refl 137) ?_
              generalize frS V P L O ch (W, S, rg, lr) = Y at *
              refine Tr.pic (w' := trX E ad 0 V X P L O Y.2.1 Y.1 ch mo (npV V) G K bs br Y.2.2.1 Y.2.2.2 (D 0) (D 1) (D 2) (D 3) (D 4)) (by rw [hu]; first | done | rfl) ?_
              refine Tr.aload_n (i := 0) dX6_findRings_137 rfl rfl (Eq.refl 138) ?_
              refine Tr.getf dX6_findRings_138 fX6_46 rfl rfl (Eq.refl 141) ?_
              refine Tr.callV (L := [31, 32, 33]) (c_chGoOn E _ ch mo (npV V) v2 (fun k hk => ⟨Nat.lt_of_lt_of_le (hc k hk) (by decide), Nat.lt_of_le_of_lt (hm k hk) (by decide)⟩)) dX6_findRings_141 (kX6_113 (Nat.le_of_ble_eq_true rfl)) iX0_goOn rfl rfl rfl rfl rfl rfl rfl rfl rfl rfl (Eq.refl 144) ?_
              refine Tr.pic (w' := trX E ad 0 V X P L O Y.2.1 Y.1 (gcF mo (npV V) ch).1 mo (npV V) G K bs br Y.2.2.1 Y.2.2.2 (D 0) (D 1) (D 2) (D 3) (D 4)) (putB_eq (Lc := [0, 1, 2, 3, 4, 5, 6, 7, 8, 9, 10, 11, 12, 13, 14, 15, 16, 17, 18, 19, 20, 21, 22, 23, 24, 25, 26, 27, 28, 29, 30, 34, 35, 36, 37, 38, 39, 40, 41, 42, 43, 44, 45, 46, 47, 48, 49, 50, 51, 52, 53, 54, 55, 56, 57, 58, 59, 60, 61, 62, 63, 64, 65, 66, 67, 68, 69, 70]) 71 rfl rfl rfl rfl ⟨⟨_, rfl, rfl⟩, ⟨_, rfl, rfl⟩, ⟨_, rfl, rfl⟩, ⟨_, rfl, rfl⟩, ⟨_, rfl, rfl⟩, ⟨_, rfl, rfl⟩, ⟨_, rfl, rfl⟩, ⟨_, rfl, rfl⟩, ⟨_, rfl, rfl⟩, ⟨_, rfl, rfl⟩, ⟨_, rfl, rfl⟩, ⟨_, rfl, rfl⟩, ⟨_, rfl, rfl⟩, ⟨_, rfl, rfl⟩, ⟨_, rfl, rfl⟩, ⟨_, rfl, rfl⟩, ⟨_, rfl, rfl⟩, ⟨_, rfl, rfl⟩, ⟨_, rfl, rfl⟩, ⟨_, rfl, rfl⟩, ⟨_, rfl, rfl⟩, ⟨_, rfl, rfl⟩, ⟨_, rfl, rfl⟩, ⟨_, rfl, rfl⟩, ⟨_, rfl, rfl⟩, ⟨_, rfl, rfl⟩, ⟨_, rfl, rfl⟩, ⟨_, rfl, rfl⟩, ⟨_, rfl, rfl⟩, ⟨_, rfl, rfl⟩, ⟨_, rfl, rfl⟩, ⟨_, rfl, rfl⟩, ⟨_, rfl, rfl⟩, ⟨_, rfl, rfl⟩, ⟨_, rfl, rfl⟩, ⟨_, rfl, rfl⟩, ⟨_, rfl, rfl⟩, ⟨_, rfl, rfl⟩, ⟨_, rfl, rfl⟩, ⟨_, rfl, rfl⟩, ⟨_, rfl, rfl⟩, ⟨_, rfl, rfl⟩, ⟨_, rfl, rfl⟩, ⟨_, rfl, rfl⟩, ⟨_, rfl, rfl⟩, ⟨_, rfl, rfl⟩, ⟨_, rfl, rfl⟩, ⟨_, rfl, rfl⟩, ⟨_, rfl, rfl⟩, ⟨_, rfl, rfl⟩, ⟨_, rfl, rfl⟩, ⟨_, rfl, rfl⟩, ⟨_, rfl, rfl⟩, ⟨_, rfl, rfl⟩, ⟨_, rfl, rfl⟩, ⟨_, rfl, rfl⟩, ⟨_, rfl, rfl⟩, ⟨_, rfl, rfl⟩, ⟨_, rfl, rfl⟩, ⟨_, rfl, rfl⟩, ⟨_, rfl, rfl⟩, ⟨_, rfl, rfl⟩, ⟨_, rfl, rfl⟩, ⟨_, rfl, rfl⟩, ⟨_, rfl, rfl⟩, ⟨_, rfl, rfl⟩, ⟨_, rfl, rfl⟩, ⟨_, rfl, rfl⟩, trivial⟩ (by decide) rfl) ?_
              refine Tr.istore_n (i := 1) dX6_findRings_144 rfl rfl rfl (Eq.refl 145) ?_
              refine Tr.iincN dX6_findRings_145 rfl rfl rfl (Eq.refl 148) ?_
              refine Tr.goto (pc' := 85) dX6_findRings_148 (by decide) ?_
              exact Tr.eqs rfl rfl rfl ih2
