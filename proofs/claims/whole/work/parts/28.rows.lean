/-! Trial: rows of choices, rests  -/
/-- from the last to the first: most, strides, the next stride -/
def brS (V : Vil) (t : Nat) (q : (Nat → Nat) × (Nat → Nat) × Nat) (p : Nat) : (Nat → Nat) × (Nat → Nat) × Nat :=
  ((if wkB V p t then upN q.1 p 1 else q.1), upN q.2.1 p q.2.2, q.2.2 * (if wkB V p t then upN q.1 p 1 else q.1) p)
def brF (V : Vil) (t : Nat) : Nat → (Nat → Nat) × (Nat → Nat) × Nat → (Nat → Nat) × (Nat → Nat) × Nat
  | 0, q => q
  | n + 1, q => brF V t n (brS V t q n)
theorem trXC_le {E E2 : EnvT} {ad ad2 : Nat → Nat} {b b2 : Nat} {V : Vil} {X : Vix} {P : Nat → Nat} {L : Nat → Int32} {O S : Scn} {W ch mo : Nat → Nat} {z : Nat} {G : Nat → Int64} {K : Nat → Nat} {bs br rg lr : Int32} {D0 D1 D2 D3 D4 : Scn} {T : Tst} : (trX E ad b V X P L O S W ch mo z G K bs br rg lr D0 D1 D2 D3 D4).length ≤ (trC E2 ad2 b2 T).length := Nat.le_refl 71
set_option maxHeartbeats 4000000 in
set_option maxRecDepth 100000 in
theorem c_beginRows_loop (E : EnvT) (ad : Nat → Nat) (V : Vil) (X : Vix) (P : Nat → Nat) (L : Nat → Int32) (O S : Scn) (W ch : Nat → Nat) (z : Nat) (G : Nat → Int64) (bs br rg lr : Int32) (D : Nat → Scn) (hV : Vok V) (ht : psS O < 2 ^ 30) : ∀ (n : Nat) (mo K : Nat → Nat) (s : Nat), n ≤ npV V → Tr (E, mX6_beginRows, ad, none, trX E ad 0 V X P L O S W ch (brF V (psS O) n (mo, K, s)).1 z G (brF V (psS O) n (mo, K, s)).2.1 bs br rg lr (D 0) (D 1) (D 2) (D 3) (D 4)) 0 0 35 [some (.ref (ad 0)), some (.int (nI s)), some (.int (dnI n))] [] (trX E ad 0 V X P L O S W ch mo z G K bs br rg lr (D 0) (D 1) (D 2) (D 3) (D 4)) := by
  intro n
  have v2 := hV.2.1
  induction n with
  | zero =>
    intro mo K s hn
    refine Tr.iload_n (i := 2) dX6_beginRows_35 rfl rfl (Eq.refl 36) ?_
    refine Tr.if_lt (tgt := 92) dX6_beginRows_36 (by decide) (Eq.refl 39) (fun h36 => ?_) (fun h36 => ?_)
    · refine Tr.ret dX6_beginRows_92 rfl rfl ?_
      · rfl
    · exact absurd h36 (by decide)
  | succ n ih =>
    intro mo K s hn
    have hu : brF V (psS O) (n + 1) (mo, K, s) = brF V (psS O) n ((if wkB V n (psS O) then upN mo n 1 else mo), upN K n s, s * (if wkB V n (psS O) then upN mo n 1 else mo) n) := rfl
    rw [hu]
    clear hu
    show Tr _ 0 0 35 [some (.ref (ad 0)), some (.int (nI s)), some (.int (nI n))] [] _
    refine Tr.iload_n (i := 2) dX6_beginRows_35 rfl rfl (Eq.refl 36) ?_
    refine Tr.if_lt (tgt := 92) dX6_beginRows_36 (by decide) (Eq.refl 39) (fun h36 => ?_) (fun h36 => ?_)
    · exact absurd h36 (nI_nneg (by omega))
    · refine Tr.aload_n (i := 0) dX6_beginRows_39 rfl rfl (Eq.refl 40) ?_
      refine Tr.getf dX6_beginRows_40 fX6_12 rfl rfl (Eq.refl 43) ?_
      refine Tr.iload_n (i := 2) dX6_beginRows_43 rfl rfl (Eq.refl 44) ?_
      refine Tr.aload_n (i := 0) dX6_beginRows_44 rfl rfl (Eq.refl 45) ?_
      refine Tr.getf dX6_beginRows_45 fX6_28 rfl rfl (Eq.refl 48) ?_
      refine Tr.getf dX6_beginRows_48 fX6_75 rfl rfl (Eq.refl 51) ?_
      refine Tr.callVr (L := l_vi) (c_mustWork E _ V X n (psS O) hV (by omega) (by omega)) dX6_beginRows_51 (kX6_116 (Nat.le_of_ble_eq_true rfl)) iX7_mustWork rfl rfl rfl rfl rfl rfl rfl rfl rfl (Eq.refl 54) ?_
      refine Tr.if_eqB (tgt := 67) dX6_beginRows_54 (by decide) (Eq.refl 57) (fun h54 => ?_) (fun h54 => ?_)
      · rw [if_neg (by rw [h54]; decide)]
        obtain ⟨M, hM⟩ : ∃ M, M = mo := ⟨_, rfl⟩
        rw [← hM]
        clear hM
        skip
        refine Tr.aload_n (i := 0) dX6_beginRows_67 rfl rfl (Eq.refl 68) ?_
        refine Tr.getf dX6_beginRows_68 fX6_54 rfl rfl (Eq.refl 71) ?_
        refine Tr.iload_n (i := 2) dX6_beginRows_71 rfl rfl (Eq.refl 72) ?_
        refine Tr.iload_n (i := 1) dX6_beginRows_72 rfl rfl (Eq.refl 73) ?_
        refine Tr.iastN dX6_beginRows_73 rfl (by omega) (by decide) (Eq.refl 74) ?_
        refine Tr.pic (w' := trX E ad 0 V X P L O S W ch M z G (upN K n s) bs br rg lr (D 0) (D 1) (D 2) (D 3) (D 4)) (by unfold trX; rw [nI_upN K n s]; rfl) ?_
        refine Tr.iload_n (i := 1) dX6_beginRows_74 rfl rfl (Eq.refl 75) ?_
        refine Tr.aload_n (i := 0) dX6_beginRows_75 rfl rfl (Eq.refl 76) ?_
        refine Tr.getf dX6_beginRows_76 fX6_46 rfl rfl (Eq.refl 79) ?_
        refine Tr.getf dX6_beginRows_79 fX6_158 rfl rfl (Eq.refl 82) ?_
        refine Tr.iload_n (i := 2) dX6_beginRows_82 rfl rfl (Eq.refl 83) ?_
        refine Tr.ialdN dX6_beginRows_83 rfl (by omega) (by decide) (Eq.refl 84) ?_
        refine Tr.imulN dX6_beginRows_84 (Eq.refl 85) ?_
        refine Tr.istore_n (i := 1) dX6_beginRows_85 rfl rfl rfl (Eq.refl 86) ?_
        refine Tr.iinc (v := dnI n) dX6_beginRows_86 rfl (dnI_add n) rfl rfl (Eq.refl 89) ?_
        refine Tr.goto (pc' := 35) dX6_beginRows_89 (by decide) ?_
        exact Tr.eqs rfl rfl rfl (ih M (upN K n s) (s * M n) (by omega))
      · rw [if_pos h54]
        refine Tr.aload_n (i := 0) dX6_beginRows_57 rfl rfl (Eq.refl 58) ?_
        refine Tr.getf dX6_beginRows_58 fX6_46 rfl rfl (Eq.refl 61) ?_
        refine Tr.getf dX6_beginRows_61 fX6_158 rfl rfl (Eq.refl 64) ?_
        refine Tr.iload_n (i := 2) dX6_beginRows_64 rfl rfl (Eq.refl 65) ?_
        refine Tr.iconst (v := nI 1) dX6_beginRows_65 (icN 1) (Eq.refl 66) ?_
        refine Tr.iastN dX6_beginRows_66 rfl (by omega) (by decide) (Eq.refl 67) ?_
        refine Tr.pic (w' := trX E ad 0 V X P L O S W ch (upN mo n 1) z G K bs br rg lr (D 0) (D 1) (D 2) (D 3) (D 4)) (by unfold trX chC; rw [nI_upN]; rfl) ?_
        generalize upN mo n 1 = M at *
        skip
        refine Tr.aload_n (i := 0) dX6_beginRows_67 rfl rfl (Eq.refl 68) ?_
        refine Tr.getf dX6_beginRows_68 fX6_54 rfl rfl (Eq.refl 71) ?_
        refine Tr.iload_n (i := 2) dX6_beginRows_71 rfl rfl (Eq.refl 72) ?_
        refine Tr.iload_n (i := 1) dX6_beginRows_72 rfl rfl (Eq.refl 73) ?_
        refine Tr.iastN dX6_beginRows_73 rfl (by omega) (by decide) (Eq.refl 74) ?_
        refine Tr.pic (w' := trX E ad 0 V X P L O S W ch M z G (upN K n s) bs br rg lr (D 0) (D 1) (D 2) (D 3) (D 4)) (by unfold trX; rw [nI_upN K n s]; rfl) ?_
        refine Tr.iload_n (i := 1) dX6_beginRows_74 rfl rfl (Eq.refl 75) ?_
        refine Tr.aload_n (i := 0) dX6_beginRows_75 rfl rfl (Eq.refl 76) ?_
        refine Tr.getf dX6_beginRows_76 fX6_46 rfl rfl (Eq.refl 79) ?_
        refine Tr.getf dX6_beginRows_79 fX6_158 rfl rfl (Eq.refl 82) ?_
        refine Tr.iload_n (i := 2) dX6_beginRows_82 rfl rfl (Eq.refl 83) ?_
        refine Tr.ialdN dX6_beginRows_83 rfl (by omega) (by decide) (Eq.refl 84) ?_
        refine Tr.imulN dX6_beginRows_84 (Eq.refl 85) ?_
        refine Tr.istore_n (i := 1) dX6_beginRows_85 rfl rfl rfl (Eq.refl 86) ?_
        refine Tr.iinc (v := dnI n) dX6_beginRows_86 rfl (dnI_add n) rfl rfl (Eq.refl 89) ?_
        refine Tr.goto (pc' := 35) dX6_beginRows_89 (by decide) ?_
        exact Tr.eqs rfl rfl rfl (ih M (upN K n s) (s * M n) (by omega))
def bgR (T : Tst) : (Nat → Nat) × (Nat → Nat) × Nat := brF (vT T) (psS (oT T)) (npV (vT T)) (pre (fun _ => nhV (vT T) + 1) (mT T) (npV (vT T)), kT T, 1)
def bgT (T : Tst) : Tst := uK (uZ (uM (uC T (pre (fun _ => 0) (cT T) (npV (vT T)))) (bgR T).1) (npV (vT T))) (bgR T).2.1
set_option maxHeartbeats 4000000 in
set_option maxRecDepth 100000 in
theorem c_beginRows (E : EnvT) (ad : Nat → Nat) (T : Tst) (hT : Tok T) : Md E mX6_beginRows ad [.ref (ad 0)] (trC E ad 0 T) none (trC E ad 0 (bgT T)) := by
  obtain ⟨V, X, P, L, O, S, W, ch, mo, z, G, K, bs, br, rg, lr, D⟩ := T
  have hV : Vok V := hT.1
  have ht : psS O < 2 ^ 30 := hT.2.2.2
  have v1 := hV.1
  have v2 := hV.2.1
  show Md E _ ad _ (trX E ad 0 V X P L O S W ch mo z G K bs br rg lr (D 0) (D 1) (D 2) (D 3) (D 4)) none (trX E ad 0 V X P L O S W (pre (fun _ => 0) ch (npV V)) (brF V (psS O) (npV V) (pre (fun _ => nhV V + 1) mo (npV V), K, 1)).1 (npV V) G (brF V (psS O) (npV V) (pre (fun _ => nhV V + 1) mo (npV V), K, 1)).2.1 bs br rg lr (D 0) (D 1) (D 2) (D 3) (D 4))
  refine Md.of 2 (by decide) rfl rfl ?_
  refine Tr.aload_n (i := 0) dX6_beginRows_0 rfl rfl (Eq.refl 1) ?_
  refine Tr.getf dX6_beginRows_1 fX6_46 rfl rfl (Eq.refl 4) ?_
  refine Tr.aload_n (i := 0) dX6_beginRows_4 rfl rfl (Eq.refl 5) ?_
  refine Tr.getf dX6_beginRows_5 fX6_12 rfl rfl (Eq.refl 8) ?_
  refine Tr.getf dX6_beginRows_8 fX6_127 rfl rfl (Eq.refl 11) ?_
  refine Tr.aload_n (i := 0) dX6_beginRows_11 rfl rfl (Eq.refl 12) ?_
  refine Tr.getf dX6_beginRows_12 fX6_12 rfl rfl (Eq.refl 15) ?_
  refine Tr.getf dX6_beginRows_15 fX6_71 rfl rfl (Eq.refl 18) ?_
  refine Tr.iconst (v := nI 1) dX6_beginRows_18 (icN 1) (Eq.refl 19) ?_
  refine Tr.iaddN dX6_beginRows_19 (Eq.refl 20) ?_
  refine Tr.callV (L := [31, 32, 33]) (c_chBegin E _ ch mo z (npV V) (nhV V + 1) v2) dX6_beginRows_20 (kX6_103 (Nat.le_of_ble_eq_true rfl)) iX0_begin rfl rfl rfl rfl rfl rfl rfl rfl rfl rfl (Eq.refl 23) ?_
  refine Tr.pic (w' := trX E ad 0 V X P L O S W (pre (fun _ => 0) ch (npV V)) (pre (fun _ => nhV V + 1) mo (npV V)) (npV V) G K bs br rg lr (D 0) (D 1) (D 2) (D 3) (D 4)) (putB_eq (Lc := [0, 1, 2, 3, 4, 5, 6, 7, 8, 9, 10, 11, 12, 13, 14, 15, 16, 17, 18, 19, 20, 21, 22, 23, 24, 25, 26, 27, 28, 29, 30, 34, 35, 36, 37, 38, 39, 40, 41, 42, 43, 44, 45, 46, 47, 48, 49, 50, 51, 52, 53, 54, 55, 56, 57, 58, 59, 60, 61, 62, 63, 64, 65, 66, 67, 68, 69, 70]) 71 rfl rfl rfl rfl ⟨⟨_, rfl, rfl⟩, ⟨_, rfl, rfl⟩, ⟨_, rfl, rfl⟩, ⟨_, rfl, rfl⟩, ⟨_, rfl, rfl⟩, ⟨_, rfl, rfl⟩, ⟨_, rfl, rfl⟩, ⟨_, rfl, rfl⟩, ⟨_, rfl, rfl⟩, ⟨_, rfl, rfl⟩, ⟨_, rfl, rfl⟩, ⟨_, rfl, rfl⟩, ⟨_, rfl, rfl⟩, ⟨_, rfl, rfl⟩, ⟨_, rfl, rfl⟩, ⟨_, rfl, rfl⟩, ⟨_, rfl, rfl⟩, ⟨_, rfl, rfl⟩, ⟨_, rfl, rfl⟩, ⟨_, rfl, rfl⟩, ⟨_, rfl, rfl⟩, ⟨_, rfl, rfl⟩, ⟨_, rfl, rfl⟩, ⟨_, rfl, rfl⟩, ⟨_, rfl, rfl⟩, ⟨_, rfl, rfl⟩, ⟨_, rfl, rfl⟩, ⟨_, rfl, rfl⟩, ⟨_, rfl, rfl⟩, ⟨_, rfl, rfl⟩, ⟨_, rfl, rfl⟩, ⟨_, rfl, rfl⟩, ⟨_, rfl, rfl⟩, ⟨_, rfl, rfl⟩, ⟨_, rfl, rfl⟩, ⟨_, rfl, rfl⟩, ⟨_, rfl, rfl⟩, ⟨_, rfl, rfl⟩, ⟨_, rfl, rfl⟩, ⟨_, rfl, rfl⟩, ⟨_, rfl, rfl⟩, ⟨_, rfl, rfl⟩, ⟨_, rfl, rfl⟩, ⟨_, rfl, rfl⟩, ⟨_, rfl, rfl⟩, ⟨_, rfl, rfl⟩, ⟨_, rfl, rfl⟩, ⟨_, rfl, rfl⟩, ⟨_, rfl, rfl⟩, ⟨_, rfl, rfl⟩, ⟨_, rfl, rfl⟩, ⟨_, rfl, rfl⟩, ⟨_, rfl, rfl⟩, ⟨_, rfl, rfl⟩, ⟨_, rfl, rfl⟩, ⟨_, rfl, rfl⟩, ⟨_, rfl, rfl⟩, ⟨_, rfl, rfl⟩, ⟨_, rfl, rfl⟩, ⟨_, rfl, rfl⟩, ⟨_, rfl, rfl⟩, ⟨_, rfl, rfl⟩, ⟨_, rfl, rfl⟩, ⟨_, rfl, rfl⟩, ⟨_, rfl, rfl⟩, ⟨_, rfl, rfl⟩, ⟨_, rfl, rfl⟩, ⟨_, rfl, rfl⟩, trivial⟩ (by decide) rfl) ?_
  refine Tr.iconst (v := nI 1) dX6_beginRows_23 (icN 1) (Eq.refl 24) ?_
  refine Tr.istore_n (i := 1) dX6_beginRows_24 rfl rfl rfl (Eq.refl 25) ?_
  refine Tr.aload_n (i := 0) dX6_beginRows_25 rfl rfl (Eq.refl 26) ?_
  refine Tr.getf dX6_beginRows_26 fX6_12 rfl rfl (Eq.refl 29) ?_
  refine Tr.getf dX6_beginRows_29 fX6_127 rfl rfl (Eq.refl 32) ?_
  refine Tr.iconst (v := nI 1) dX6_beginRows_32 (icN 1) (Eq.refl 33) ?_
  refine Tr.isub dX6_beginRows_33 (Eq.refl 34) ?_
  rw [dnI_sub]
  refine Tr.istore_n (i := 2) dX6_beginRows_34 rfl rfl rfl (Eq.refl 35) ?_
  exact Tr.eqs rfl rfl rfl (c_beginRows_loop E ad V X P L O S W (pre (fun _ => 0) ch (npV V)) (npV V) G bs br rg lr D hV ht (npV V) (pre (fun _ => nhV V + 1) mo (npV V)) K 1 (Nat.le_refl _))
