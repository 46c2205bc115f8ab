/-! Trial: the rings -/
def frS (V : Vil) (P : Nat → Nat) (L : Nat → Int32) (O : Scn) (ch : Nat → Nat) (q : (Nat → Nat) × Scn × Int32 × Int32) : (Nat → Nat) × Scn × Int32 × Int32 :=
  if (itB (grS V ch) (nI 0) (npV V)).1 then
    (if (itB (roS V P L O ch) (q.1, q.2.1) (npV V)).1 then ((itB (roS V P L O ch) (q.1, q.2.1) (npV V)).2.1, (itB (roS V P L O ch) (q.1, q.2.1) (npV V)).2.2, q.2.2.1 + nI 1, if q.2.2.1 + nI 1 = nI 1 then rnF V ch (npV V) else q.2.2.2)
      else ((itB (roS V P L O ch) (q.1, q.2.1) (npV V)).2.1, (itB (roS V P L O ch) (q.1, q.2.1) (npV V)).2.2, q.2.2.1, q.2.2.2))
  else q
def frF (V : Vil) (P : Nat → Nat) (L : Nat → Int32) (O : Scn) (mo : Nat → Nat) (z : Nat) : Nat → Nat → (Nat → Nat) → (Nat → Nat) × Scn × Int32 × Int32 → (Nat → Nat) × (Nat → Nat) × Scn × Int32 × Int32
  | 0, _, ch, q => (ch, q)
  | n + 1, c, ch, q => if c < 5 then frF V P L O mo z n (gcF mo z ch).2 (gcF mo z ch).1 (frS V P L O ch q) else (ch, q)
theorem gcF_lt5 (mo : Nat → Nat) : ∀ (n : Nat) (ch : Nat → Nat), (∀ k, k < n → mo k ≤ 5) → ∀ (N : Nat), (∀ k, k < N → ch k < 5) → n ≤ N → ∀ k, k < N → (gcF mo n ch).1 k < 5 := by
  intro n
  induction n with
  | zero => intro ch _ N hN _; exact hN
  | succ n ih =>
    intro ch hm N hN hle
    unfold gcF
    split
    · intro k hk
      have h9 := hm n (Nat.lt_succ_self n)
      by_cases h : k = n
      · subst h; show upN ch k _ k < 5; rw [upN_self]; omega
      · show upN ch n _ k < 5; rw [upN_ne _ _ h]; exact hN k hk
    · exact ih (upN ch n 0) (fun k hk => hm k (by omega)) N (fun k hk => by
        by_cases h : k = n
        · subst h; rw [upN_self]; omega
        · rw [upN_ne _ _ h]; exact hN k hk) (by omega)
set_option maxHeartbeats 4000000 in
set_option maxRecDepth 100000 in
theorem c_findRings_loop (E : EnvT) (ad : Nat → Nat) (V : Vil) (X : Vix) (P : Nat → Nat) (L : Nat → Int32) (O : Scn) (mo : Nat → Nat) (G : Nat → Int64) (K : Nat → Nat) (bs br : Int32) (D : Nat → Scn) (hV : Vok V) (hP : Ple P) (hO : Sle V O) (ht : psS O < 2 ^ 30) (hm : ∀ k, k < npV V → mo k ≤ 5) : ∀ (n i c : Nat) (ch : Nat → Nat) (q : (Nat → Nat) × Scn × Int32 × Int32), i + n = 7776 → (∀ k, k < npV V → ch k < 5) → Tr (E, mX6_findRings, ad, none, trX E ad 0 V X P L O (frF V P L O mo (npV V) n c ch q).2.2.1 (frF V P L O mo (npV V) n c ch q).2.1 (frF V P L O mo (npV V) n c ch q).1 mo (npV V) G K bs br (frF V P L O mo (npV V) n c ch q).2.2.2.1 (frF V P L O mo (npV V) n c ch q).2.2.2.2 (D 0) (D 1) (D 2) (D 3) (D 4)) 0 0 85 [some (.ref (ad 0)), some (.int (cl c)), some (.int (nI i))] [] (trX E ad 0 V X P L O q.2.1 q.1 ch mo (npV V) G K bs br q.2.2.1 q.2.2.2 (D 0) (D 1) (D 2) (D 3) (D 4)) := by
  intro n
  have v1 := hV.1
  have v2 := hV.2.1
  induction n with
  | zero =>
    intro i c ch q hi hc
    refine Tr.iload_n (i := 2) dX6_findRings_85 rfl rfl (Eq.refl 86) ?_
    refine Tr.sipush (v := nI 7776) dX6_findRings_86 (by decide +kernel) (Eq.refl 89) ?_
    refine Tr.icmp_geN (tgt := 151) dX6_findRings_89 (by decide) (Eq.refl 92) (by omega) (by omega) (fun h89 => ?_) (fun h89 => ?_)
    · refine Tr.ret dX6_findRings_151 rfl rfl ?_
      · rfl
    · exact absurd h89 (by omega)
  | succ n ih =>
    intro i c ch q hi hc
    obtain ⟨W, S, rg, lr⟩ := q
    have hc2 : ∀ k, k < npV V → (gcF mo (npV V) ch).1 k < 5 := gcF_lt5 mo (npV V) ch hm (npV V) hc (Nat.le_refl _)
    have ih2 := ih (i + 1) (gcF mo (npV V) ch).2 (gcF mo (npV V) ch).1 (frS V P L O ch (W, S, rg, lr)) (by omega) hc2
    have hst : frF V P L O mo (npV V) (n + 1) c ch (W, S, rg, lr) = if c < 5 then frF V P L O mo (npV V) n (gcF mo (npV V) ch).2 (gcF mo (npV V) ch).1 (frS V P L O ch (W, S, rg, lr)) else (ch, (W, S, rg, lr)) := rfl
    have hK : ∀ W S (rg lr : Int32), Tok (V, X, P, L, O, S, W, ch, mo, npV V, G, K, bs, br, rg, lr, D) := fun _ _ _ _ => ⟨hV, hP, hO, ht⟩
    have hu : frS V P L O ch (W, S, rg, lr) = if (itB (grS V ch) (nI 0) (npV V)).1 then (if (itB (roS V P L O ch) (W, S) (npV V)).1 then ((itB (roS V P L O ch) (W, S) (npV V)).2.1, (itB (roS V P L O ch) (W, S) (npV V)).2.2, rg + nI 1, if rg + nI 1 = nI 1 then rnF V ch (npV V) else lr) else ((itB (roS V P L O ch) (W, S) (npV V)).2.1, (itB (roS V P L O ch) (W, S) (npV V)).2.2, rg, lr)) else (W, S, rg, lr) := rfl
    show Tr _ 0 0 85 _ _ (trX E ad 0 V X P L O S W ch mo (npV V) G K bs br rg lr (D 0) (D 1) (D 2) (D 3) (D 4))
    refine Tr.iload_n (i := 2) dX6_findRings_85 rfl rfl (Eq.refl 86) ?_
    refine Tr.sipush (v := nI 7776) dX6_findRings_86 (by decide +kernel) (Eq.refl 89) ?_
    refine Tr.icmp_geN (tgt := 151) dX6_findRings_89 (by decide) (Eq.refl 92) (by omega) (by omega) (fun h89 => ?_) (fun h89 => ?_)
    · exact absurd h89 (by omega)
    · refine Tr.iload_n (i := 1) dX6_findRings_92 rfl rfl (Eq.refl 93) ?_
      refine Tr.iconst (v := (-1)) dX6_findRings_93 (by decide +kernel) (Eq.refl 94) ?_
      refine Tr.icmp_eq (tgt := 151) dX6_findRings_94 (by decide) (Eq.refl 97) (fun h94 => ?_) (fun h94 => ?_)
      · rw [cl_none] at h94
        rw [if_neg h94] at hst
        refine Tr.ret dX6_findRings_151 rfl rfl ?_
        · rw [hst]; first | done | rfl
      · rw [cl_none] at h94
        rw [if_pos (by omega)] at hst
        rw [hst]
        clear hst ih
        refine Tr.aload_n (i := 0) dX6_findRings_97 rfl rfl (Eq.refl 98) ?_
        refine Tr.callVs (c_goRound E ad (V, X, P, L, O, S, W, ch, mo, npV V, G, K, bs, br, rg, lr, D) hV hc) dX6_findRings_98 (kX6_190 (Nat.le_of_ble_eq_true rfl)) iX6_goRound rfl rfl rfl rfl rfl (trXC_le) rfl rfl (Eq.refl 101) ?_
        refine Tr.top (y := bI (itB (grS V ch) (nI 0) (npV V)).1) rfl ?_
        refine Tr.pic (w' := trX E ad 0 V X P L O S W ch mo (npV V) G K bs br rg lr (D 0) (D 1) (D 2) (D 3) (D 4)) rfl ?_
        refine Tr.if_eqB (tgt := 137) dX6_findRings_101 (by decide) (Eq.refl 104) (fun h101 => ?_) (fun h101 => ?_)
        · rw [if_neg (by rw [h101]; decide)] at hu
          generalize frS V P L O ch (W, S, rg, lr) = Y at *
          refine Tr.pic (w' := trX E ad 0 V X P L O Y.2.1 Y.1 ch mo (npV V) G K bs br Y.2.2.1 Y.2.2.2 (D 0) (D 1) (D 2) (D 3) (D 4)) (by rw [hu]; first | done | rfl) ?_
          refine Tr.aload_n (i := 0) dX6_findRings_137 rfl rfl (Eq.refl 138) ?_
          refine Tr.getf dX6_findRings_138 fX6_46 rfl rfl (Eq.refl 141) ?_
          refine Tr.callV (L := [31, 32, 33]) (c_chGoOn E _ ch mo (npV V) v2 (fun k hk => ⟨Nat.lt_of_lt_of_le (hc k hk) (by decide), Nat.lt_of_le_of_lt (hm k hk) (by decide)⟩)) dX6_findRings_141 (kX6_113 (Nat.le_of_ble_eq_true rfl)) iX0_goOn rfl rfl rfl rfl rfl rfl rfl rfl rfl rfl (Eq.refl 144) ?_
          refine Tr.pic (w' := trX E ad 0 V X P L O Y.2.1 Y.1 (gcF mo (npV V) ch).1 mo (npV V) G K bs br Y.2.2.1 Y.2.2.2 (D 0) (D 1) (D 2) (D 3) (D 4)) (putB_eq (Lc := [0, 1, 2, 3, 4, 5, 6, 7, 8, 9, 10, 11, 12, 13, 14, 15, 16, 17, 18, 19, 20, 21, 22, 23, 24, 25, 26, 27, 28, 29, 30, 34, 35, 36, 37, 38, 39, 40, 41, 42, 43, 44, 45, 46, 47, 48, 49, 50, 51, 52, 53, 54, 55, 56, 57, 58, 59, 60, 61, 62, 63, 64, 65, 66, 67, 68, 69, 70]) 71 rfl rfl rfl rfl ⟨⟨_, rfl, rfl⟩, ⟨_, rfl, rfl⟩, ⟨_, rfl, rfl⟩, ⟨_, rfl, rfl⟩, ⟨_, rfl, rfl⟩, ⟨_, rfl, rfl⟩, ⟨_, rfl, rfl⟩, ⟨_, rfl, rfl⟩, ⟨_, rfl, rfl⟩, ⟨_, rfl, rfl⟩, ⟨_, rfl, rfl⟩, ⟨_, rfl, rfl⟩, ⟨_, rfl, rfl⟩, ⟨_, rfl, rfl⟩, ⟨_, rfl, rfl⟩, ⟨_, rfl, rfl⟩, ⟨_, rfl, rfl⟩, ⟨_, rfl, rfl⟩, ⟨_, rfl, rfl⟩, ⟨_, rfl, rfl⟩, ⟨_, rfl, rfl⟩, ⟨_, rfl, rfl⟩, ⟨_, rfl, rfl⟩, ⟨_, rfl, rfl⟩, ⟨_, rfl, rfl⟩, ⟨_, rfl, rfl⟩, ⟨_, rfl, rfl⟩, ⟨_, rfl, rfl⟩, ⟨_, rfl, rfl⟩, ⟨_, rfl, rfl⟩, ⟨_, rfl, rfl⟩, ⟨_, rfl, rfl⟩, ⟨_, rfl, rfl⟩, ⟨_, rfl, rfl⟩, ⟨_, rfl, rfl⟩, ⟨_, rfl, rfl⟩, ⟨_, rfl, rfl⟩, ⟨_, rfl, rfl⟩, ⟨_, rfl, rfl⟩, ⟨_, rfl, rfl⟩, ⟨_, rfl, rfl⟩, ⟨_, rfl, rfl⟩, ⟨_, rfl, rfl⟩, ⟨_, rfl, rfl⟩, ⟨_, rfl, rfl⟩, ⟨_, rfl, rfl⟩, ⟨_, rfl, rfl⟩, ⟨_, rfl, rfl⟩, ⟨_, rfl, rfl⟩, ⟨_, rfl, rfl⟩, ⟨_, rfl, rfl⟩, ⟨_, rfl, rfl⟩, ⟨_, rfl, rfl⟩, ⟨_, rfl, rfl⟩, ⟨_, rfl, rfl⟩, ⟨_, rfl, rfl⟩, ⟨_, rfl, rfl⟩, ⟨_, rfl, rfl⟩, ⟨_, rfl, rfl⟩, ⟨_, rfl, rfl⟩, ⟨_, rfl, rfl⟩, ⟨_, rfl, rfl⟩, ⟨_, rfl, rfl⟩, ⟨_, rfl, rfl⟩, ⟨_, rfl, rfl⟩, ⟨_, rfl, rfl⟩, ⟨_, rfl, rfl⟩, ⟨_, rfl, rfl⟩, trivial⟩ (by decide) rfl) ?_
          refine Tr.istore_n (i := 1) dX6_findRings_144 rfl rfl rfl (Eq.refl 145) ?_
          refine Tr.iincN dX6_findRings_145 rfl rfl rfl (Eq.refl 148) ?_
          refine Tr.goto (pc' := 85) dX6_findRings_148 (by decide) ?_
          exact Tr.eqs rfl rfl rfl ih2
        · rw [if_pos h101] at hu
          refine Tr.aload_n (i := 0) dX6_findRings_104 rfl rfl (Eq.refl 105) ?_
          refine Tr.callVs (c_isRing E ad (V, X, P, L, O, S, W, ch, mo, npV V, G, K, bs, br, rg, lr, D) (hK _ _ _ _) hc) dX6_findRings_105 (kX6_193 (Nat.le_of_ble_eq_true rfl)) iX6_isRing rfl rfl rfl rfl rfl (trXC_le) rfl rfl (Eq.refl 108) ?_
          refine Tr.top (y := bI (itB (roS V P L O ch) (W, S) (npV V)).1) rfl ?_
          refine Tr.pic (w' := trX E ad 0 V X P L O (itB (roS V P L O ch) (W, S) (npV V)).2.2 (itB (roS V P L O ch) (W, S) (npV V)).2.1 ch mo (npV V) G K bs br rg lr (D 0) (D 1) (D 2) (D 3) (D 4)) rfl ?_
          generalize itB (roS V P L O ch) (W, S) (npV V) = R at *
          refine Tr.if_eqB (tgt := 137) dX6_findRings_108 (by decide) (Eq.refl 111) (fun h108 => ?_) (fun h108 => ?_)
          · rw [if_neg (by rw [h108]; decide)] at hu
            generalize frS V P L O ch (W, S, rg, lr) = Y at *
            refine Tr.pic (w' := trX E ad 0 V X P L O Y.2.1 Y.1 ch mo (npV V) G K bs br Y.2.2.1 Y.2.2.2 (D 0) (D 1) (D 2) (D 3) (D 4)) (by rw [hu]; first | done | rfl) ?_
            refine Tr.aload_n (i := 0) dX6_findRings_137 rfl rfl (Eq.refl 138) ?_
            refine Tr.getf dX6_findRings_138 fX6_46 rfl rfl (Eq.refl 141) ?_
            refine Tr.callV (L := [31, 32, 33]) (c_chGoOn E _ ch mo (npV V) v2 (fun k hk => ⟨Nat.lt_of_lt_of_le (hc k hk) (by decide), Nat.lt_of_le_of_lt (hm k hk) (by decide)⟩)) dX6_findRings_141 (kX6_113 (Nat.le_of_ble_eq_true rfl)) iX0_goOn rfl rfl rfl rfl rfl rfl rfl rfl rfl rfl (Eq.refl 144) ?_
            refine Tr.pic (w' := trX E ad 0 V X P L O Y.2.1 Y.1 (gcF mo (npV V) ch).1 mo (npV V) G K bs br Y.2.2.1 Y.2.2.2 (D 0) (D 1) (D 2) (D 3) (D 4)) (putB_eq (Lc := [0, 1, 2, 3, 4, 5, 6, 7, 8, 9, 10, 11, 12, 13, 14, 15, 16, 17, 18, 19, 20, 21, 22, 23, 24, 25, 26, 27, 28, 29, 30, 34, 35, 36, 37, 38, 39, 40, 41, 42, 43, 44, 45, 46, 47, 48, 49, 50, 51, 52, 53, 54, 55, 56, 57, 58, 59, 60, 61, 62, 63, 64, 65, 66, 67, 68, 69, 70]) 71 rfl rfl rfl rfl ⟨⟨_, rfl, rfl⟩, ⟨_, rfl, rfl⟩, ⟨_, rfl, rfl⟩, ⟨_, rfl, rfl⟩, ⟨_, rfl, rfl⟩, ⟨_, rfl, rfl⟩, ⟨_, rfl, rfl⟩, ⟨_, rfl, rfl⟩, ⟨_, rfl, rfl⟩, ⟨_, rfl, rfl⟩, ⟨_, rfl, rfl⟩, ⟨_, rfl, rfl⟩, ⟨_, rfl, rfl⟩, ⟨_, rfl, rfl⟩, ⟨_, rfl, rfl⟩, ⟨_, rfl, rfl⟩, ⟨_, rfl, rfl⟩, ⟨_, rfl, rfl⟩, ⟨_, rfl, rfl⟩, ⟨_, rfl, rfl⟩, ⟨_, rfl, rfl⟩, ⟨_, rfl, rfl⟩, ⟨_, rfl, rfl⟩, ⟨_, rfl, rfl⟩, ⟨_, rfl, rfl⟩, ⟨_, rfl, rfl⟩, ⟨_, rfl, rfl⟩, ⟨_, rfl, rfl⟩, ⟨_, rfl, rfl⟩, ⟨_, rfl, rfl⟩, ⟨_, rfl, rfl⟩, ⟨_, rfl, rfl⟩, ⟨_, rfl, rfl⟩, ⟨_, rfl, rfl⟩, ⟨_, rfl, rfl⟩, ⟨_, rfl, rfl⟩, ⟨_, rfl, rfl⟩, ⟨_, rfl, rfl⟩, ⟨_, rfl, rfl⟩, ⟨_, rfl, rfl⟩, ⟨_, rfl, rfl⟩, ⟨_, rfl, rfl⟩, ⟨_, rfl, rfl⟩, ⟨_, rfl, rfl⟩, ⟨_, rfl, rfl⟩, ⟨_, rfl, rfl⟩, ⟨_, rfl, rfl⟩, ⟨_, rfl, rfl⟩, ⟨_, rfl, rfl⟩, ⟨_, rfl, rfl⟩, ⟨_, rfl, rfl⟩, ⟨_, rfl, rfl⟩, ⟨_, rfl, rfl⟩, ⟨_, rfl, rfl⟩, ⟨_, rfl, rfl⟩, ⟨_, rfl, rfl⟩, ⟨_, rfl, rfl⟩, ⟨_, rfl, rfl⟩, ⟨_, rfl, rfl⟩, ⟨_, rfl, rfl⟩, ⟨_, rfl, rfl⟩, ⟨_, rfl, rfl⟩, ⟨_, rfl, rfl⟩, ⟨_, rfl, rfl⟩, ⟨_, rfl, rfl⟩, ⟨_, rfl, rfl⟩, ⟨_, rfl, rfl⟩, ⟨_, rfl, rfl⟩, trivial⟩ (by decide) rfl) ?_
            refine Tr.istore_n (i := 1) dX6_findRings_144 rfl rfl rfl (Eq.refl 145) ?_
            refine Tr.iincN dX6_findRings_145 rfl rfl rfl (Eq.refl 148) ?_
            refine Tr.goto (pc' := 85) dX6_findRings_148 (by decide) ?_
            exact Tr.eqs rfl rfl rfl ih2
          · rw [if_pos h108] at hu
            refine Tr.aload_n (i := 0) dX6_findRings_111 rfl rfl (Eq.refl 112) ?_
            refine Tr.dup dX6_findRings_112 rfl (Eq.refl 113) ?_
            refine Tr.getf dX6_findRings_113 fX6_177 rfl rfl (Eq.refl 116) ?_
            refine Tr.iconst (v := nI 1) dX6_findRings_116 (icN 1) (Eq.refl 117) ?_
            refine Tr.iadd dX6_findRings_117 (Eq.refl 118) ?_
            refine Tr.putf dX6_findRings_118 pX6_177 rfl (rfl) (rfl) rfl (Eq.refl 121) ?_
            refine Tr.pic (w' := trX E ad 0 V X P L O R.2.2 R.2.1 ch mo (npV V) G K bs br (rg + nI 1) lr (D 0) (D 1) (D 2) (D 3) (D 4)) rfl ?_
            refine Tr.aload_n (i := 0) dX6_findRings_121 rfl rfl (Eq.refl 122) ?_
            refine Tr.getf dX6_findRings_122 fX6_177 rfl rfl (Eq.refl 125) ?_
            refine Tr.iconst (v := nI 1) dX6_findRings_125 (icN 1) (Eq.refl 126) ?_
            refine Tr.icmp_ne (tgt := 137) dX6_findRings_126 (by decide) (Eq.refl 129) (fun h126 => ?_) (fun h126 => ?_)
            · rw [if_neg h126] at hu
              generalize frS V P L O ch (W, S, rg, lr) = Y at *
              refine Tr.pic (w' := trX E ad 0 V X P L O Y.2.1 Y.1 ch mo (npV V) G K bs br Y.2.2.1 Y.2.2.2 (D 0) (D 1) (D 2) (D 3) (D 4)) (by rw [hu]; first | done | rfl) ?_
              refine Tr.aload_n (i := 0) dX6_findRings_137 rfl rfl (Eq.refl 138) ?_
              refine Tr.getf dX6_findRings_138 fX6_46 rfl rfl (Eq.refl 141) ?_
              refine Tr.callV (L := [31, 32, 33]) (c_chGoOn E _ ch mo (npV V) v2 (fun k hk => ⟨Nat.lt_of_lt_of_le (hc k hk) (by decide), Nat.lt_of_le_of_lt (hm k hk) (by decide)⟩)) dX6_findRings_141 (kX6_113 (Nat.le_of_ble_eq_true rfl)) iX0_goOn rfl rfl rfl rfl rfl rfl rfl rfl rfl rfl (Eq.refl 144) ?_
              refine Tr.pic (w' := trX E ad 0 V X P L O Y.2.1 Y.1 (gcF mo (npV V) ch).1 mo (npV V) G K bs br Y.2.2.1 Y.2.2.2 (D 0) (D 1) (D 2) (D 3) (D 4)) (putB_eq (Lc := [0, 1, 2, 3, 4, 5, 6, 7, 8, 9, 10, 11, 12, 13, 14, 15, 16, 17, 18, 19, 20, 21, 22, 23, 24, 25, 26, 27, 28, 29, 30, 34, 35, 36, 37, 38, 39, 40, 41, 42, 43, 44, 45, 46, 47, 48, 49, 50, 51, 52, 53, 54, 55, 56, 57, 58, 59, 60, 61, 62, 63, 64, 65, 66, 67, 68, 69, 70]) 71 rfl rfl rfl rfl ⟨⟨_, rfl, rfl⟩, ⟨_, rfl, rfl⟩, ⟨_, rfl, rfl⟩, ⟨_, rfl, rfl⟩, ⟨_, rfl, rfl⟩, ⟨_, rfl, rfl⟩, ⟨_, rfl, rfl⟩, ⟨_, rfl, rfl⟩, ⟨_, rfl, rfl⟩, ⟨_, rfl, rfl⟩, ⟨_, rfl, rfl⟩, ⟨_, rfl, rfl⟩, ⟨_, rfl, rfl⟩, ⟨_, rfl, rfl⟩, ⟨_, rfl, rfl⟩, ⟨_, rfl, rfl⟩, ⟨_, rfl, rfl⟩, ⟨_, rfl, rfl⟩, ⟨_, rfl, rfl⟩, ⟨_, rfl, rfl⟩, ⟨_, rfl, rfl⟩, ⟨_, rfl, rfl⟩, ⟨_, rfl, rfl⟩, ⟨_, rfl, rfl⟩, ⟨_, rfl, rfl⟩, ⟨_, rfl, rfl⟩, ⟨_, rfl, rfl⟩, ⟨_, rfl, rfl⟩, ⟨_, rfl, rfl⟩, ⟨_, rfl, rfl⟩, ⟨_, rfl, rfl⟩, ⟨_, rfl, rfl⟩, ⟨_, rfl, rfl⟩, ⟨_, rfl, rfl⟩, ⟨_, rfl, rfl⟩, ⟨_, rfl, rfl⟩, ⟨_, rfl, rfl⟩, ⟨_, rfl, rfl⟩, ⟨_, rfl, rfl⟩, ⟨_, rfl, rfl⟩, ⟨_, rfl, rfl⟩, ⟨_, rfl, rfl⟩, ⟨_, rfl, rfl⟩, ⟨_, rfl, rfl⟩, ⟨_, rfl, rfl⟩, ⟨_, rfl, rfl⟩, ⟨_, rfl, rfl⟩, ⟨_, rfl, rfl⟩, ⟨_, rfl, rfl⟩, ⟨_, rfl, rfl⟩, ⟨_, rfl, rfl⟩, ⟨_, rfl, rfl⟩, ⟨_, rfl, rfl⟩, ⟨_, rfl, rfl⟩, ⟨_, rfl, rfl⟩, ⟨_, rfl, rfl⟩, ⟨_, rfl, rfl⟩, ⟨_, rfl, rfl⟩, ⟨_, rfl, rfl⟩, ⟨_, rfl, rfl⟩, ⟨_, rfl, rfl⟩, ⟨_, rfl, rfl⟩, ⟨_, rfl, rfl⟩, ⟨_, rfl, rfl⟩, ⟨_, rfl, rfl⟩, ⟨_, rfl, rfl⟩, ⟨_, rfl, rfl⟩, ⟨_, rfl, rfl⟩, trivial⟩ (by decide) rfl) ?_
              refine Tr.istore_n (i := 1) dX6_findRings_144 rfl rfl rfl (Eq.refl 145) ?_
              refine Tr.iincN dX6_findRings_145 rfl rfl rfl (Eq.refl 148) ?_
              refine Tr.goto (pc' := 85) dX6_findRings_148 (by decide) ?_
              exact Tr.eqs rfl rfl rfl ih2
            · rw [if_pos h126] at hu
              refine Tr.aload_n (i := 0) dX6_findRings_129 rfl rfl (Eq.refl 130) ?_
              refine Tr.aload_n (i := 0) dX6_findRings_130 rfl rfl (Eq.refl 131) ?_
              refine Tr.callVs (c_ringNumber E ad (V, X, P, L, O, R.2.2, R.2.1, ch, mo, npV V, G, K, bs, br, rg + nI 1, lr, D) hV) dX6_findRings_131 (kX6_196 (Nat.le_of_ble_eq_true rfl)) iX6_ringNumber rfl rfl rfl rfl rfl (trXC_le) rfl rfl (Eq.refl 134) ?_
              refine Tr.top (y := rnF V ch (npV V)) rfl ?_
              refine Tr.putf dX6_findRings_134 pX6_180 rfl (rfl) (rfl) rfl (Eq.refl 137) ?_
              generalize frS V P L O ch (W, S, rg, lr) = Y at *
              refine Tr.pic (w' := trX E ad 0 V X P L O Y.2.1 Y.1 ch mo (npV V) G K bs br Y.2.2.1 Y.2.2.2 (D 0) (D 1) (D 2) (D 3) (D 4)) (by rw [hu]; first | done | rfl) ?_
              refine Tr.aload_n (i := 0) dX6_findRings_137 rfl rfl (Eq.refl 138) ?_
              refine Tr.getf dX6_findRings_138 fX6_46 rfl rfl (Eq.refl 141) ?_
              refine Tr.callV (L := [31, 32, 33]) (c_chGoOn E _ ch mo (npV V) v2 (fun k hk => ⟨Nat.lt_of_lt_of_le (hc k hk) (by decide), Nat.lt_of_le_of_lt (hm k hk) (by decide)⟩)) dX6_findRings_141 (kX6_113 (Nat.le_of_ble_eq_true rfl)) iX0_goOn rfl rfl rfl rfl rfl rfl rfl rfl rfl rfl (Eq.refl 144) ?_
              refine Tr.pic (w' := trX E ad 0 V X P L O Y.2.1 Y.1 (gcF mo (npV V) ch).1 mo (npV V) G K bs br Y.2.2.1 Y.2.2.2 (D 0) (D 1) (D 2) (D 3) (D 4)) (putB_eq (Lc := [0, 1, 2, 3, 4, 5, 6, 7, 8, 9, 10, 11, 12, 13, 14, 15, 16, 17, 18, 19, 20, 21, 22, 23, 24, 25, 26, 27, 28, 29, 30, 34, 35, 36, 37, 38, 39, 40, 41, 42, 43, 44, 45, 46, 47, 48, 49, 50, 51, 52, 53, 54, 55, 56, 57, 58, 59, 60, 61, 62, 63, 64, 65, 66, 67, 68, 69, 70]) 71 rfl rfl rfl rfl ⟨⟨_, rfl, rfl⟩, ⟨_, rfl, rfl⟩, ⟨_, rfl, rfl⟩, ⟨_, rfl, rfl⟩, ⟨_, rfl, rfl⟩, ⟨_, rfl, rfl⟩, ⟨_, rfl, rfl⟩, ⟨_, rfl, rfl⟩, ⟨_, rfl, rfl⟩, ⟨_, rfl, rfl⟩, ⟨_, rfl, rfl⟩, ⟨_, rfl, rfl⟩, ⟨_, rfl, rfl⟩, ⟨_, rfl, rfl⟩, ⟨_, rfl, rfl⟩, ⟨_, rfl, rfl⟩, ⟨_, rfl, rfl⟩, ⟨_, rfl, rfl⟩, ⟨_, rfl, rfl⟩, ⟨_, rfl, rfl⟩, ⟨_, rfl, rfl⟩, ⟨_, rfl, rfl⟩, ⟨_, rfl, rfl⟩, ⟨_, rfl, rfl⟩, ⟨_, rfl, rfl⟩, ⟨_, rfl, rfl⟩, ⟨_, rfl, rfl⟩, ⟨_, rfl, rfl⟩, ⟨_, rfl, rfl⟩, ⟨_, rfl, rfl⟩, ⟨_, rfl, rfl⟩, ⟨_, rfl, rfl⟩, ⟨_, rfl, rfl⟩, ⟨_, rfl, rfl⟩, ⟨_, rfl, rfl⟩, ⟨_, rfl, rfl⟩, ⟨_, rfl, rfl⟩, ⟨_, rfl, rfl⟩, ⟨_, rfl, rfl⟩, ⟨_, rfl, rfl⟩, ⟨_, rfl, rfl⟩, ⟨_, rfl, rfl⟩, ⟨_, rfl, rfl⟩, ⟨_, rfl, rfl⟩, ⟨_, rfl, rfl⟩, ⟨_, rfl, rfl⟩, ⟨_, rfl, rfl⟩, ⟨_, rfl, rfl⟩, ⟨_, rfl, rfl⟩, ⟨_, rfl, rfl⟩, ⟨_, rfl, rfl⟩, ⟨_, rfl, rfl⟩, ⟨_, rfl, rfl⟩, ⟨_, rfl, rfl⟩, ⟨_, rfl, rfl⟩, ⟨_, rfl, rfl⟩, ⟨_, rfl, rfl⟩, ⟨_, rfl, rfl⟩, ⟨_, rfl, rfl⟩, ⟨_, rfl, rfl⟩, ⟨_, rfl, rfl⟩, ⟨_, rfl, rfl⟩, ⟨_, rfl, rfl⟩, ⟨_, rfl, rfl⟩, ⟨_, rfl, rfl⟩, ⟨_, rfl, rfl⟩, ⟨_, rfl, rfl⟩, ⟨_, rfl, rfl⟩, trivial⟩ (by decide) rfl) ?_
              refine Tr.istore_n (i := 1) dX6_findRings_144 rfl rfl rfl (Eq.refl 145) ?_
              refine Tr.iincN dX6_findRings_145 rfl rfl rfl (Eq.refl 148) ?_
              refine Tr.goto (pc' := 85) dX6_findRings_148 (by decide) ?_
              exact Tr.eqs rfl rfl rfl ih2
def frM (V : Vil) (mo : Nat → Nat) : Nat → (Nat → Nat)
  | 0 => mo
  | p + 1 => if hoV V p < 5 then frM V mo p else upN (frM V mo p) p 1
theorem frM_le {V : Vil} {mo : Nat → Nat} {N : Nat} (h : ∀ k, k < N → mo k ≤ 5) : ∀ n k, k < N → frM V mo n k ≤ 5 := by
  intro n
  induction n with
  | zero => exact h
  | succ n ih =>
    intro k hk
    unfold frM
    split
    · exact ih k hk
    · by_cases e : k = n
      · rw [e, upN_self]; decide
      · rw [upN_ne _ _ e]; exact ih k hk
def frO (T : Tst) : Nat → Nat := frM (vT T) (pre (fun _ => nhV (vT T)) (mT T) (npV (vT T))) (npV (vT T))
def frR (N : Nat) (T : Tst) : (Nat → Nat) × (Nat → Nat) × Scn × Int32 × Int32 := frF (vT T) (pT T) (lT T) (oT T) (frO T) (npV (vT T)) N 0 (pre (fun _ => 0) (cT T) (npV (vT T))) (wT T, sT T, nI 0, -1)
def frT (N : Nat) (T : Tst) : Tst := if crB (vT T) (psS (oT T)) then (vT T, xT T, pT T, lT T, oT T, (frR N T).2.2.1, (frR N T).2.1, (frR N T).1, frO T, npV (vT T), gT T, kT T, bsT T, brT T, (frR N T).2.2.2.1, (frR N T).2.2.2.2, dT T) else uLr (uRg T (nI 0)) (-1)
set_option maxHeartbeats 4000000 in
set_option maxRecDepth 100000 in
theorem c_findRings (E : EnvT) (ad : Nat → Nat) (N : Nat) (hN : N = 7776) (T : Tst) (hT : Tok T) : Md E mX6_findRings ad [.ref (ad 0)] (trC E ad 0 T) none (trC E ad 0 (frT N T)) := by
  obtain ⟨V, X, P, L, O, S, W, ch, mo, z, G, K, bs, br, rg, lr, D⟩ := T
  have hV : Vok V := hT.1
  have hP : Ple P := hT.2.1
  have hO : Sle V O := hT.2.2.1
  have ht : psS O < 2 ^ 30 := hT.2.2.2
  have v1 := hV.1
  have v2 := hV.2.1
  have hF : frT N (V, X, P, L, O, S, W, ch, mo, z, G, K, bs, br, rg, lr, D) = if crB V (psS O) then (V, X, P, L, O, (frR N (V, X, P, L, O, S, W, ch, mo, z, G, K, bs, br, rg, lr, D)).2.2.1, (frR N (V, X, P, L, O, S, W, ch, mo, z, G, K, bs, br, rg, lr, D)).2.1, (frR N (V, X, P, L, O, S, W, ch, mo, z, G, K, bs, br, rg, lr, D)).1, frO (V, X, P, L, O, S, W, ch, mo, z, G, K, bs, br, rg, lr, D), npV V, G, K, bs, br, (frR N (V, X, P, L, O, S, W, ch, mo, z, G, K, bs, br, rg, lr, D)).2.2.2.1, (frR N (V, X, P, L, O, S, W, ch, mo, z, G, K, bs, br, rg, lr, D)).2.2.2.2, D) else (V, X, P, L, O, S, W, ch, mo, z, G, K, bs, br, nI 0, -1, D) := rfl
  have hM : frO (V, X, P, L, O, S, W, ch, mo, z, G, K, bs, br, rg, lr, D) = frM V (pre (fun _ => nhV V) mo (npV V)) (npV V) := rfl
  have hm : ∀ k, k < npV V → frO (V, X, P, L, O, S, W, ch, mo, z, G, K, bs, br, rg, lr, D) k ≤ 5 := by rw [hM]; exact frM_le (fun k hk => by rw [pre_n hk]; exact v1) _
  have hR : frR N (V, X, P, L, O, S, W, ch, mo, z, G, K, bs, br, rg, lr, D) = frF V P L O (frO (V, X, P, L, O, S, W, ch, mo, z, G, K, bs, br, rg, lr, D)) (npV V) N 0 (pre (fun _ => 0) ch (npV V)) (W, S, nI 0, -1) := rfl
  have hL := c_findRings_loop E ad V X P L O (frO (V, X, P, L, O, S, W, ch, mo, z, G, K, bs, br, rg, lr, D)) G K bs br D hV hP hO ht hm N 0 0 (pre (fun _ => 0) ch (npV V)) (W, S, nI 0, -1) (by omega) (fun k hk => by rw [pre_n hk]; decide)
  rw [← hR] at hL
  clear hR
  generalize frR N (V, X, P, L, O, S, W, ch, mo, z, G, K, bs, br, rg, lr, D) = r at *
  generalize frO (V, X, P, L, O, S, W, ch, mo, z, G, K, bs, br, rg, lr, D) = M at *
  show Md E _ ad _ (trX E ad 0 V X P L O S W ch mo z G K bs br rg lr (D 0) (D 1) (D 2) (D 3) (D 4)) none (trC E ad 0 (frT N (V, X, P, L, O, S, W, ch, mo, z, G, K, bs, br, rg, lr, D)))
  rw [hF]
  clear hF
  refine Md.of 2 (by decide) rfl rfl ?_
  refine Tr.aload_n (i := 0) dX6_findRings_0 rfl rfl (Eq.refl 1) ?_
  refine Tr.iconst (v := nI 0) dX6_findRings_1 (icN 0) (Eq.refl 2) ?_
  refine Tr.putf dX6_findRings_2 pX6_177 rfl (rfl) (rfl) rfl (Eq.refl 5) ?_
  refine Tr.aload_n (i := 0) dX6_findRings_5 rfl rfl (Eq.refl 6) ?_
  refine Tr.iconst (v := (-1)) dX6_findRings_6 (by decide +kernel) (Eq.refl 7) ?_
  refine Tr.putf dX6_findRings_7 pX6_180 rfl (rfl) (rfl) rfl (Eq.refl 10) ?_
  refine Tr.pic (w' := trX E ad 0 V X P L O S W ch mo z G K bs br (nI 0) (-1) (D 0) (D 1) (D 2) (D 3) (D 4)) rfl ?_
  refine Tr.aload_n (i := 0) dX6_findRings_10 rfl rfl (Eq.refl 11) ?_
  refine Tr.callVs (c_canRing E ad (V, X, P, L, O, S, W, ch, mo, z, G, K, bs, br, nI 0, -1, D) ⟨hV, hP, hO, ht⟩) dX6_findRings_11 (kX6_183 (Nat.le_of_ble_eq_true rfl)) iX6_canRing rfl rfl rfl rfl rfl (trXC_le) rfl rfl (Eq.refl 14) ?_
  refine Tr.top (y := bI (crB V (psS O))) rfl ?_
  refine Tr.pic (w' := trX E ad 0 V X P L O S W ch mo z G K bs br (nI 0) (-1) (D 0) (D 1) (D 2) (D 3) (D 4)) rfl ?_
  refine Tr.if_neB (tgt := 18) dX6_findRings_14 (by decide) (Eq.refl 17) (fun h14 => ?_) (fun h14 => ?_)
  · rw [if_pos h14]
    refine Tr.aload_n (i := 0) dX6_findRings_18 rfl rfl (Eq.refl 19) ?_
    refine Tr.getf dX6_findRings_19 fX6_46 rfl rfl (Eq.refl 22) ?_
    refine Tr.aload_n (i := 0) dX6_findRings_22 rfl rfl (Eq.refl 23) ?_
    refine Tr.getf dX6_findRings_23 fX6_12 rfl rfl (Eq.refl 26) ?_
    refine Tr.getf dX6_findRings_26 fX6_127 rfl rfl (Eq.refl 29) ?_
    refine Tr.aload_n (i := 0) dX6_findRings_29 rfl rfl (Eq.refl 30) ?_
    refine Tr.getf dX6_findRings_30 fX6_12 rfl rfl (Eq.refl 33) ?_
    refine Tr.getf dX6_findRings_33 fX6_71 rfl rfl (Eq.refl 36) ?_
    refine Tr.callV (L := [31, 32, 33]) (c_chBegin E _ ch mo z (npV V) (nhV V) v2) dX6_findRings_36 (kX6_103 (Nat.le_of_ble_eq_true rfl)) iX0_begin rfl rfl rfl rfl rfl rfl rfl rfl rfl rfl (Eq.refl 39) ?_
    refine Tr.pic (w' := trX E ad 0 V X P L O S W (pre (fun _ => 0) ch (npV V)) (pre (fun _ => nhV V) mo (npV V)) (npV V) G K bs br (nI 0) (-1) (D 0) (D 1) (D 2) (D 3) (D 4)) (putB_eq (Lc := [0, 1, 2, 3, 4, 5, 6, 7, 8, 9, 10, 11, 12, 13, 14, 15, 16, 17, 18, 19, 20, 21, 22, 23, 24, 25, 26, 27, 28, 29, 30, 34, 35, 36, 37, 38, 39, 40, 41, 42, 43, 44, 45, 46, 47, 48, 49, 50, 51, 52, 53, 54, 55, 56, 57, 58, 59, 60, 61, 62, 63, 64, 65, 66, 67, 68, 69, 70]) 71 rfl rfl rfl rfl ⟨⟨_, rfl, rfl⟩, ⟨_, rfl, rfl⟩, ⟨_, rfl, rfl⟩, ⟨_, rfl, rfl⟩, ⟨_, rfl, rfl⟩, ⟨_, rfl, rfl⟩, ⟨_, rfl, rfl⟩, ⟨_, rfl, rfl⟩, ⟨_, rfl, rfl⟩, ⟨_, rfl, rfl⟩, ⟨_, rfl, rfl⟩, ⟨_, rfl, rfl⟩, ⟨_, rfl, rfl⟩, ⟨_, rfl, rfl⟩, ⟨_, rfl, rfl⟩, ⟨_, rfl, rfl⟩, ⟨_, rfl, rfl⟩, ⟨_, rfl, rfl⟩, ⟨_, rfl, rfl⟩, ⟨_, rfl, rfl⟩, ⟨_, rfl, rfl⟩, ⟨_, rfl, rfl⟩, ⟨_, rfl, rfl⟩, ⟨_, rfl, rfl⟩, ⟨_, rfl, rfl⟩, ⟨_, rfl, rfl⟩, ⟨_, rfl, rfl⟩, ⟨_, rfl, rfl⟩, ⟨_, rfl, rfl⟩, ⟨_, rfl, rfl⟩, ⟨_, rfl, rfl⟩, ⟨_, rfl, rfl⟩, ⟨_, rfl, rfl⟩, ⟨_, rfl, rfl⟩, ⟨_, rfl, rfl⟩, ⟨_, rfl, rfl⟩, ⟨_, rfl, rfl⟩, ⟨_, rfl, rfl⟩, ⟨_, rfl, rfl⟩, ⟨_, rfl, rfl⟩, ⟨_, rfl, rfl⟩, ⟨_, rfl, rfl⟩, ⟨_, rfl, rfl⟩, ⟨_, rfl, rfl⟩, ⟨_, rfl, rfl⟩, ⟨_, rfl, rfl⟩, ⟨_, rfl, rfl⟩, ⟨_, rfl, rfl⟩, ⟨_, rfl, rfl⟩, ⟨_, rfl, rfl⟩, ⟨_, rfl, rfl⟩, ⟨_, rfl, rfl⟩, ⟨_, rfl, rfl⟩, ⟨_, rfl, rfl⟩, ⟨_, rfl, rfl⟩, ⟨_, rfl, rfl⟩, ⟨_, rfl, rfl⟩, ⟨_, rfl, rfl⟩, ⟨_, rfl, rfl⟩, ⟨_, rfl, rfl⟩, ⟨_, rfl, rfl⟩, ⟨_, rfl, rfl⟩, ⟨_, rfl, rfl⟩, ⟨_, rfl, rfl⟩, ⟨_, rfl, rfl⟩, ⟨_, rfl, rfl⟩, ⟨_, rfl, rfl⟩, ⟨_, rfl, rfl⟩, trivial⟩ (by decide) rfl) ?_
    refine Tr.iconst (v := nI 0) dX6_findRings_39 (icN 0) (Eq.refl 40) ?_
    refine Tr.istore_n (i := 1) dX6_findRings_40 rfl rfl rfl (Eq.refl 41) ?_
    skip
    refine Tr.mask [true, true, true] (lv' := [some (.ref (ad 0)), some (.int (nI 0)), none]) rfl ?_
    refine Tr.pic (w' := trX E ad 0 V X P L O S W (pre (fun _ => 0) ch (npV V)) (frM V (pre (fun _ => nhV V) mo (npV V)) 0) (npV V) G K bs br (nI 0) (-1) (D 0) (D 1) (D 2) (D 3) (D 4)) rfl ?_
    refine loopD (P := fun i => Tr _ 0 0 41 [some (.ref (ad 0)), some (.int (nI i)), none] [] (trX E ad 0 V X P L O S W (pre (fun _ => 0) ch (npV V)) (frM V (pre (fun _ => nhV V) mo (npV V)) i) (npV V) G K bs br (nI 0) (-1) (D 0) (D 1) (D 2) (D 3) (D 4))) (npV V) ?_ (fun i hi ih => ?_)
    · rw [← hM]
      refine Tr.iload_n (i := 1) dX6_findRings_41 rfl rfl (Eq.refl 42) ?_
      refine Tr.aload_n (i := 0) dX6_findRings_42 rfl rfl (Eq.refl 43) ?_
      refine Tr.getf dX6_findRings_43 fX6_12 rfl rfl (Eq.refl 46) ?_
      refine Tr.getf dX6_findRings_46 fX6_127 rfl rfl (Eq.refl 49) ?_
      refine Tr.icmp_geN (tgt := 81) dX6_findRings_49 (by decide) (Eq.refl 52) (by omega) (by omega) (fun h49 => ?_) (fun h49 => ?_)
      · refine Tr.iconst (v := nI 0) dX6_findRings_81 (icN 0) (Eq.refl 82) ?_
        refine Tr.istore_n (i := 1) dX6_findRings_82 rfl rfl rfl (Eq.refl 83) ?_
        refine Tr.iconst (v := nI 0) dX6_findRings_83 (icN 0) (Eq.refl 84) ?_
        refine Tr.istore_n (i := 2) dX6_findRings_84 rfl rfl rfl (Eq.refl 85) ?_
        exact Tr.eqs rfl rfl rfl hL
      · exact absurd h49 (by omega)
    · have hu : frM V (pre (fun _ => nhV V) mo (npV V)) (i + 1) = if hoV V i < 5 then frM V (pre (fun _ => nhV V) mo (npV V)) i else upN (frM V (pre (fun _ => nhV V) mo (npV V)) i) i 1 := rfl
      rw [hu] at ih
      clear hu
      generalize frM V (pre (fun _ => nhV V) mo (npV V)) i = M2 at *
      refine Tr.iload_n (i := 1) dX6_findRings_41 rfl rfl (Eq.refl 42) ?_
      refine Tr.aload_n (i := 0) dX6_findRings_42 rfl rfl (Eq.refl 43) ?_
      refine Tr.getf dX6_findRings_43 fX6_12 rfl rfl (Eq.refl 46) ?_
      refine Tr.getf dX6_findRings_46 fX6_127 rfl rfl (Eq.refl 49) ?_
      refine Tr.icmp_geN (tgt := 81) dX6_findRings_49 (by decide) (Eq.refl 52) (by omega) (by omega) (fun h49 => ?_) (fun h49 => ?_)
      · exact absurd h49 (by omega)
      · refine Tr.aload_n (i := 0) dX6_findRings_52 rfl rfl (Eq.refl 53) ?_
        refine Tr.getf dX6_findRings_53 fX6_12 rfl rfl (Eq.refl 56) ?_
        refine Tr.getf dX6_findRings_56 fX6_187 rfl rfl (Eq.refl 59) ?_
        refine Tr.iload_n (i := 1) dX6_findRings_59 rfl rfl (Eq.refl 60) ?_
        refine Tr.ialdN dX6_findRings_60 rfl (by omega) (by decide) (Eq.refl 61) ?_
        refine Tr.iconst (v := (-1)) dX6_findRings_61 (by decide +kernel) (Eq.refl 62) ?_
        refine Tr.icmp_ne (tgt := 75) dX6_findRings_62 (by decide) (Eq.refl 65) (fun h62 => ?_) (fun h62 => ?_)
        · rw [cl_none] at h62
          rw [if_pos (by omega)] at ih
          refine Tr.iincN dX6_findRings_75 rfl rfl rfl (Eq.refl 78) ?_
          refine Tr.goto (pc' := 41) dX6_findRings_78 (by decide) ?_
          exact Tr.eqs rfl rfl rfl ih
        · rw [cl_none] at h62
          rw [if_neg h62] at ih
          refine Tr.aload_n (i := 0) dX6_findRings_65 rfl rfl (Eq.refl 66) ?_
          refine Tr.getf dX6_findRings_66 fX6_46 rfl rfl (Eq.refl 69) ?_
          refine Tr.getf dX6_findRings_69 fX6_158 rfl rfl (Eq.refl 72) ?_
          refine Tr.iload_n (i := 1) dX6_findRings_72 rfl rfl (Eq.refl 73) ?_
          refine Tr.iconst (v := nI 1) dX6_findRings_73 (icN 1) (Eq.refl 74) ?_
          refine Tr.iastN dX6_findRings_74 rfl (by omega) (by decide) (Eq.refl 75) ?_
          refine Tr.pic (w' := trX E ad 0 V X P L O S W (pre (fun _ => 0) ch (npV V)) (upN M2 i 1) (npV V) G K bs br (nI 0) (-1) (D 0) (D 1) (D 2) (D 3) (D 4)) (by unfold trX chC; rw [nI_upN]; rfl) ?_
          refine Tr.iincN dX6_findRings_75 rfl rfl rfl (Eq.refl 78) ?_
          refine Tr.goto (pc' := 41) dX6_findRings_78 (by decide) ?_
          exact Tr.eqs rfl rfl rfl ih
  · rw [if_neg (by rw [h14]; decide)]
    refine Tr.ret dX6_findRings_17 rfl rfl ?_
    · rfl
