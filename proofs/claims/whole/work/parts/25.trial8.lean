/-! Trial: rows and rings -/
def wrF (V : Vil) (t : Nat) (ch W : Nat → Nat) : Nat → (Nat → Nat)
  | 0 => W
  | p + 1 => upN (wrF V t ch W p) p (if wkB V p t then 5 else plc V (ch p))
set_option maxHeartbeats 4000000 in
set_option maxRecDepth 100000 in
theorem c_wishRow (E : EnvT) (ad : Nat → Nat) (T : Tst) (hT : Tok T) (hc : ∀ k, k < npV (vT T) → cT T k < 100) : Md E mX6_wishRow ad [.ref (ad 0)] (trC E ad 0 T) none (trC E ad 0 (uW T (wrF (vT T) (psS (oT T)) (cT T) (wT T) (npV (vT T))))) := by
  obtain ⟨V, X, P, L, O, S, W, ch, mo, z, G, K, bs, br, rg, lr, D⟩ := T
  have hV : Vok V := hT.1
  have v1 := hV.1
  have v2 := hV.2.1
  have ht : psS O < 2 ^ 30 := hT.2.2.2
  have hc : ∀ k, k < npV V → ch k < 100 := hc
  show Md E _ ad _ (trX E ad 0 V X P L O S W ch mo z G K bs br rg lr (D 0) (D 1) (D 2) (D 3) (D 4)) none (trX E ad 0 V X P L O S (wrF V (psS O) ch W (npV V)) ch mo z G K bs br rg lr (D 0) (D 1) (D 2) (D 3) (D 4))
  refine Md.of 1 (by decide) rfl rfl ?_
  refine Tr.iconst (v := nI 0) dX6_wishRow_0 (icN 0) (Eq.refl 1) ?_
  refine Tr.istore_n (i := 1) dX6_wishRow_1 rfl rfl rfl (Eq.refl 2) ?_
  refine Tr.mask [true, true] (lv' := [some (.ref (ad 0)), some (.int (nI 0))]) rfl ?_
  refine Tr.pic (w' := trX E ad 0 V X P L O S (wrF V (psS O) ch W 0) ch mo z G K bs br rg lr (D 0) (D 1) (D 2) (D 3) (D 4)) rfl ?_
  refine loopD (P := fun i => Tr _ 0 0 2 [some (.ref (ad 0)), some (.int (nI i))] [] (trX E ad 0 V X P L O S (wrF V (psS O) ch W i) ch mo z G K bs br rg lr (D 0) (D 1) (D 2) (D 3) (D 4))) (npV V) ?_ (fun i hi ih => ?_)
  · refine Tr.iload_n (i := 1) dX6_wishRow_2 rfl rfl (Eq.refl 3) ?_
    refine Tr.aload_n (i := 0) dX6_wishRow_3 rfl rfl (Eq.refl 4) ?_
    refine Tr.getf dX6_wishRow_4 fX6_12 rfl rfl (Eq.refl 7) ?_
    refine Tr.getf dX6_wishRow_7 fX6_127 rfl rfl (Eq.refl 10) ?_
    refine Tr.icmp_geN (tgt := 60) dX6_wishRow_10 (by decide) (Eq.refl 13) (by omega) (by omega) (fun h10 => ?_) (fun h10 => ?_)
    · refine Tr.ret dX6_wishRow_60 rfl rfl ?_
      · rfl
    · exact absurd h10 (by omega)
  · have hu : wrF V (psS O) ch W (i + 1) = upN (wrF V (psS O) ch W i) i (if wkB V i (psS O) then 5 else plc V (ch i)) := rfl
    rw [hu] at ih
    clear hu
    have hci := hc i hi
    generalize wrF V (psS O) ch W i = W2 at *
    refine Tr.iload_n (i := 1) dX6_wishRow_2 rfl rfl (Eq.refl 3) ?_
    refine Tr.aload_n (i := 0) dX6_wishRow_3 rfl rfl (Eq.refl 4) ?_
    refine Tr.getf dX6_wishRow_4 fX6_12 rfl rfl (Eq.refl 7) ?_
    refine Tr.getf dX6_wishRow_7 fX6_127 rfl rfl (Eq.refl 10) ?_
    refine Tr.icmp_geN (tgt := 60) dX6_wishRow_10 (by decide) (Eq.refl 13) (by omega) (by omega) (fun h10 => ?_) (fun h10 => ?_)
    · exact absurd h10 (by omega)
    · refine Tr.aload_n (i := 0) dX6_wishRow_13 rfl rfl (Eq.refl 14) ?_
      refine Tr.getf dX6_wishRow_14 fX6_39 rfl rfl (Eq.refl 17) ?_
      refine Tr.iload_n (i := 1) dX6_wishRow_17 rfl rfl (Eq.refl 18) ?_
      refine Tr.aload_n (i := 0) dX6_wishRow_18 rfl rfl (Eq.refl 19) ?_
      refine Tr.getf dX6_wishRow_19 fX6_12 rfl rfl (Eq.refl 22) ?_
      refine Tr.iload_n (i := 1) dX6_wishRow_22 rfl rfl (Eq.refl 23) ?_
      refine Tr.aload_n (i := 0) dX6_wishRow_23 rfl rfl (Eq.refl 24) ?_
      refine Tr.getf dX6_wishRow_24 fX6_28 rfl rfl (Eq.refl 27) ?_
      refine Tr.getf dX6_wishRow_27 fX6_75 rfl rfl (Eq.refl 30) ?_
      refine Tr.callVr (L := l_vi) (c_mustWork E _ V X i (psS O) hV hi (by omega)) dX6_wishRow_30 (kX6_116 (Nat.le_of_ble_eq_true rfl)) iX7_mustWork rfl rfl rfl rfl rfl rfl rfl rfl rfl (Eq.refl 33) ?_
      refine Tr.if_eqB (tgt := 40) dX6_wishRow_33 (by decide) (Eq.refl 36) (fun h33 => ?_) (fun h33 => ?_)
      · rw [if_neg (by rw [h33]; decide)] at ih
        refine Tr.aload_n (i := 0) dX6_wishRow_40 rfl rfl (Eq.refl 41) ?_
        refine Tr.aload_n (i := 0) dX6_wishRow_41 rfl rfl (Eq.refl 42) ?_
        refine Tr.getf dX6_wishRow_42 fX6_46 rfl rfl (Eq.refl 45) ?_
        refine Tr.getf dX6_wishRow_45 fX6_120 rfl rfl (Eq.refl 48) ?_
        refine Tr.iload_n (i := 1) dX6_wishRow_48 rfl rfl (Eq.refl 49) ?_
        refine Tr.ialdN dX6_wishRow_49 rfl (by omega) (by decide) (Eq.refl 50) ?_
        refine Tr.callVs (c_placeOf E ad (V, X, P, L, O, S, W2, ch, mo, z, G, K, bs, br, rg, lr, D) (ch i) hV (by omega)) dX6_wishRow_50 (kX6_123 (Nat.le_of_ble_eq_true rfl)) iX6_placeOf rfl rfl rfl rfl rfl (Nat.le_refl _) rfl rfl (Eq.refl 53) ?_
        refine Tr.iastN dX6_wishRow_53 rfl (by omega) (by decide) (Eq.refl 54) ?_
        refine Tr.iincN dX6_wishRow_54 rfl rfl rfl (Eq.refl 57) ?_
        refine Tr.goto (pc' := 2) dX6_wishRow_57 (by decide) ?_
        refine Tr.pic ?_ (Tr.eqs rfl rfl rfl ih)
        unfold trX
        rw [cl_upN]
        rfl
      · rw [if_pos h33] at ih
        refine Tr.iconst (v := (-1)) dX6_wishRow_36 (by decide +kernel) (Eq.refl 37) ?_
        refine Tr.goto (pc' := 53) dX6_wishRow_37 (by decide) ?_
        refine Tr.iastN dX6_wishRow_53 rfl (by omega) (by decide) (Eq.refl 54) ?_
        refine Tr.iincN dX6_wishRow_54 rfl rfl rfl (Eq.refl 57) ?_
        refine Tr.goto (pc' := 2) dX6_wishRow_57 (by decide) ?_
        refine Tr.pic ?_ (Tr.eqs rfl rfl rfl ih)
        unfold trX
        rw [cl_upN]
        rfl
set_option maxHeartbeats 4000000 in
set_option maxRecDepth 100000 in
theorem c_gainByWishes (E : EnvT) (ad : Nat → Nat) (T : Tst) (p : Nat) (hT : Tok T) (hW : Wle (vT T) (wT T)) (hp : p < npV (vT T)) : Md E mX6_gainByWishes ad [.ref (ad 0), .int (nI p)] (trC E ad 0 T) (some (.int (ltS (gon (vT T) (lT T) (wT T) (oT T)) p))) (trC E ad 0 (uS T (gon (vT T) (lT T) (wT T) (oT T)))) := by
  obtain ⟨V, X, P, L, O, S, W, ch, mo, z, G, K, bs, br, rg, lr, D⟩ := T
  have hV : Vok V := hT.1
  have v2 := hV.2.1
  have hp : p < npV V := hp
  have hO : Sle V O := hT.2.2.1
  have hW : Wle V W := hW
  show Md E _ ad _ (trX E ad 0 V X P L O S W ch mo z G K bs br rg lr (D 0) (D 1) (D 2) (D 3) (D 4)) (some (.int (ltS (gon V L W O) p))) (trX E ad 0 V X P L O (gon V L W O) W ch mo z G K bs br rg lr (D 0) (D 1) (D 2) (D 3) (D 4))
  refine Md.of 0 (by decide) rfl rfl ?_
  refine Tr.aload_n (i := 0) dX6_gainByWishes_0 rfl rfl (Eq.refl 1) ?_
  refine Tr.getf dX6_gainByWishes_1 fX6_32 rfl rfl (Eq.refl 4) ?_
  refine Tr.aload_n (i := 0) dX6_gainByWishes_4 rfl rfl (Eq.refl 5) ?_
  refine Tr.getf dX6_gainByWishes_5 fX6_28 rfl rfl (Eq.refl 8) ?_
  refine Tr.callV (L := [22, 23, 24, 25, 26, 27, 28, 15, 16, 17, 18, 19, 20, 21]) (c_scCopy E _ S O) dX6_gainByWishes_8 (kX6_68 (Nat.le_of_ble_eq_true rfl)) iX3_copyFrom rfl rfl rfl rfl rfl rfl rfl rfl rfl rfl (Eq.refl 11) ?_
  refine Tr.pic (w' := trX E ad 0 V X P L O O W ch mo z G K bs br rg lr (D 0) (D 1) (D 2) (D 3) (D 4)) (putB_eq (Lc := [0, 1, 2, 3, 4, 5, 6, 7, 8, 9, 10, 11, 12, 13, 14, 29, 30, 31, 32, 33, 34, 35, 36, 37, 38, 39, 40, 41, 42, 43, 44, 45, 46, 47, 48, 49, 50, 51, 52, 53, 54, 55, 56, 57, 58, 59, 60, 61, 62, 63, 64, 65, 66, 67, 68, 69, 70]) 71 rfl rfl rfl rfl ⟨⟨_, rfl, rfl⟩, ⟨_, rfl, rfl⟩, ⟨_, rfl, rfl⟩, ⟨_, rfl, rfl⟩, ⟨_, rfl, rfl⟩, ⟨_, rfl, rfl⟩, ⟨_, rfl, rfl⟩, ⟨_, rfl, rfl⟩, ⟨_, rfl, rfl⟩, ⟨_, rfl, rfl⟩, ⟨_, rfl, rfl⟩, ⟨_, rfl, rfl⟩, ⟨_, rfl, rfl⟩, ⟨_, rfl, rfl⟩, ⟨_, rfl, rfl⟩, ⟨_, rfl, rfl⟩, ⟨_, rfl, rfl⟩, ⟨_, rfl, rfl⟩, ⟨_, rfl, rfl⟩, ⟨_, rfl, rfl⟩, ⟨_, rfl, rfl⟩, ⟨_, rfl, rfl⟩, ⟨_, rfl, rfl⟩, ⟨_, rfl, rfl⟩, ⟨_, rfl, rfl⟩, ⟨_, rfl, rfl⟩, ⟨_, rfl, rfl⟩, ⟨_, rfl, rfl⟩, ⟨_, rfl, rfl⟩, ⟨_, rfl, rfl⟩, ⟨_, rfl, rfl⟩, ⟨_, rfl, rfl⟩, ⟨_, rfl, rfl⟩, ⟨_, rfl, rfl⟩, ⟨_, rfl, rfl⟩, ⟨_, rfl, rfl⟩, ⟨_, rfl, rfl⟩, ⟨_, rfl, rfl⟩, ⟨_, rfl, rfl⟩, ⟨_, rfl, rfl⟩, ⟨_, rfl, rfl⟩, ⟨_, rfl, rfl⟩, ⟨_, rfl, rfl⟩, ⟨_, rfl, rfl⟩, ⟨_, rfl, rfl⟩, ⟨_, rfl, rfl⟩, ⟨_, rfl, rfl⟩, ⟨_, rfl, rfl⟩, ⟨_, rfl, rfl⟩, ⟨_, rfl, rfl⟩, ⟨_, rfl, rfl⟩, ⟨_, rfl, rfl⟩, ⟨_, rfl, rfl⟩, ⟨_, rfl, rfl⟩, ⟨_, rfl, rfl⟩, ⟨_, rfl, rfl⟩, ⟨_, rfl, rfl⟩, trivial⟩ (by decide) rfl) ?_
  refine Tr.aload_n (i := 0) dX6_gainByWishes_11 rfl rfl (Eq.refl 12) ?_
  refine Tr.getf dX6_gainByWishes_12 fX6_32 rfl rfl (Eq.refl 15) ?_
  refine Tr.aload_n (i := 0) dX6_gainByWishes_15 rfl rfl (Eq.refl 16) ?_
  refine Tr.getf dX6_gainByWishes_16 fX6_12 rfl rfl (Eq.refl 19) ?_
  refine Tr.aload_n (i := 0) dX6_gainByWishes_19 rfl rfl (Eq.refl 20) ?_
  refine Tr.getf dX6_gainByWishes_20 fX6_21 rfl rfl (Eq.refl 23) ?_
  refine Tr.getf dX6_gainByWishes_23 fX6_82 rfl rfl (Eq.refl 26) ?_
  refine Tr.aload_n (i := 0) dX6_gainByWishes_26 rfl rfl (Eq.refl 27) ?_
  refine Tr.getf dX6_gainByWishes_27 fX6_39 rfl rfl (Eq.refl 30) ?_
  refine Tr.callV (L := l_go) (c_goOn E _ V X O L W hV hO hW) dX6_gainByWishes_30 (kX6_85 (Nat.le_of_ble_eq_true rfl)) iX3_goOn rfl rfl rfl rfl rfl rfl rfl rfl rfl rfl (Eq.refl 33) ?_
  refine Tr.pic (w' := trX E ad 0 V X P L O (gon V L W O) W ch mo z G K bs br rg lr (D 0) (D 1) (D 2) (D 3) (D 4)) (putB_eq (Lc := [0, 12, 13, 15, 16, 17, 18, 19, 20, 21, 29, 31, 32, 33, 34, 35, 36, 37, 38, 39, 40, 41, 42, 43, 44, 45, 46, 47, 48, 49, 50, 51, 52, 53, 54, 55, 56, 57, 58, 59, 60, 61, 62, 63, 64, 65, 66, 67, 68, 69, 70]) 71 rfl rfl rfl rfl ⟨⟨_, rfl, rfl⟩, ⟨_, rfl, rfl⟩, ⟨_, rfl, rfl⟩, ⟨_, rfl, rfl⟩, ⟨_, rfl, rfl⟩, ⟨_, rfl, rfl⟩, ⟨_, rfl, rfl⟩, ⟨_, rfl, rfl⟩, ⟨_, rfl, rfl⟩, ⟨_, rfl, rfl⟩, ⟨_, rfl, rfl⟩, ⟨_, rfl, rfl⟩, ⟨_, rfl, rfl⟩, ⟨_, rfl, rfl⟩, ⟨_, rfl, rfl⟩, ⟨_, rfl, rfl⟩, ⟨_, rfl, rfl⟩, ⟨_, rfl, rfl⟩, ⟨_, rfl, rfl⟩, ⟨_, rfl, rfl⟩, ⟨_, rfl, rfl⟩, ⟨_, rfl, rfl⟩, ⟨_, rfl, rfl⟩, ⟨_, rfl, rfl⟩, ⟨_, rfl, rfl⟩, ⟨_, rfl, rfl⟩, ⟨_, rfl, rfl⟩, ⟨_, rfl, rfl⟩, ⟨_, rfl, rfl⟩, ⟨_, rfl, rfl⟩, ⟨_, rfl, rfl⟩, ⟨_, rfl, rfl⟩, ⟨_, rfl, rfl⟩, ⟨_, rfl, rfl⟩, ⟨_, rfl, rfl⟩, ⟨_, rfl, rfl⟩, ⟨_, rfl, rfl⟩, ⟨_, rfl, rfl⟩, ⟨_, rfl, rfl⟩, ⟨_, rfl, rfl⟩, ⟨_, rfl, rfl⟩, ⟨_, rfl, rfl⟩, ⟨_, rfl, rfl⟩, ⟨_, rfl, rfl⟩, ⟨_, rfl, rfl⟩, ⟨_, rfl, rfl⟩, ⟨_, rfl, rfl⟩, ⟨_, rfl, rfl⟩, ⟨_, rfl, rfl⟩, ⟨_, rfl, rfl⟩, ⟨_, rfl, rfl⟩, trivial⟩ (by decide) rfl) ?_
  refine Tr.aload_n (i := 0) dX6_gainByWishes_33 rfl rfl (Eq.refl 34) ?_
  refine Tr.getf dX6_gainByWishes_34 fX6_32 rfl rfl (Eq.refl 37) ?_
  refine Tr.getf dX6_gainByWishes_37 fX6_161 rfl rfl (Eq.refl 40) ?_
  refine Tr.iload_n (i := 1) dX6_gainByWishes_40 rfl rfl (Eq.refl 41) ?_
  refine Tr.ialdN dX6_gainByWishes_41 rfl (by omega) (by decide) (Eq.refl 42) ?_
  refine Tr.iret dX6_gainByWishes_42 rfl (by first | rfl | exact bI_nar _) ?_ ?_
  · rfl
  · rfl
theorem nI_nneg {n : Nat} (h : n < 2 ^ 31) : ¬ nI n < 0 := fun z => absurd ((nI_lt_iff (b := 0) h (by decide)).mp z) (by omega)
/-- a gain by row's number -/
def gaN (G : Nat → Int64) (n p : Nat) : Int32 := if n < 7776 then unG (G n) p else -1000000
set_option maxHeartbeats 4000000 in
set_option maxRecDepth 100000 in
theorem c_gainAt (E : EnvT) (ad : Nat → Nat) (T : Tst) (n p : Nat) (hn : n < 2 ^ 31) (hp : p < 5) : Md E mX6_gainAt ad [.ref (ad 0), .int (nI n), .int (nI p)] (trC E ad 0 T) (some (.int (gaN (gT T) n p))) (trC E ad 0 T) := by
  refine Md.of 0 (by decide) rfl rfl ?_
  refine Tr.iload_n (i := 1) dX6_gainAt_0 rfl rfl (Eq.refl 1) ?_
  refine Tr.if_lt (tgt := 11) dX6_gainAt_1 (by decide) (Eq.refl 4) (fun h1 => ?_) (fun h1 => ?_)
  · exact absurd h1 (nI_nneg hn)
  · refine Tr.iload_n (i := 1) dX6_gainAt_4 rfl rfl (Eq.refl 5) ?_
    refine Tr.sipush (v := nI 7776) dX6_gainAt_5 (by decide +kernel) (Eq.refl 8) ?_
    refine Tr.icmp_ltN (tgt := 14) dX6_gainAt_8 (by decide) (Eq.refl 11) (by omega) (by omega) (fun h8 => ?_) (fun h8 => ?_)
    · have hx : gaN (gT T) n p = unG (gT T n) p := if_pos h8
      refine Tr.aload_n (i := 0) dX6_gainAt_14 rfl rfl (Eq.refl 15) ?_
      refine Tr.getf dX6_gainAt_15 fX6_50 rfl rfl (Eq.refl 18) ?_
      refine Tr.iload_n (i := 1) dX6_gainAt_18 rfl rfl (Eq.refl 19) ?_
      refine Tr.laldN dX6_gainAt_19 rfl (by omega) (by decide) (Eq.refl 20) ?_
      refine Tr.bipush (v := nI 8) dX6_gainAt_20 (by decide +kernel) (Eq.refl 22) ?_
      refine Tr.iload_n (i := 2) dX6_gainAt_22 rfl rfl (Eq.refl 23) ?_
      refine Tr.imulN dX6_gainAt_23 (Eq.refl 24) ?_
      refine Tr.lshr dX6_gainAt_24 rfl (Eq.refl 25) ?_
      refine Tr.ldc2 dX6_gainAt_25 qX6_172 (Eq.refl 28) ?_
      refine Tr.land dX6_gainAt_28 (Eq.refl 29) ?_
      refine Tr.l2i dX6_gainAt_29 rfl (Eq.refl 30) ?_
      refine Tr.sipush (v := nI 128) dX6_gainAt_30 (by decide +kernel) (Eq.refl 33) ?_
      refine Tr.isub dX6_gainAt_33 (Eq.refl 34) ?_
      refine Tr.iret dX6_gainAt_34 rfl (by first | rfl | exact bI_nar _) ?_ ?_
      · rw [hx]; rfl
      · rfl
    · have hx : gaN (gT T) n p = -1000000 := if_neg (by omega)
      refine Tr.ldc dX6_gainAt_11 qX6_96 (Eq.refl 13) ?_
      refine Tr.iret dX6_gainAt_13 rfl (by first | rfl | exact bI_nar _) ?_ ?_
      · rw [hx]; try rfl
      · rfl
def rnF (V : Vil) (ch : Nat → Nat) : Nat → Int32
  | 0 => nI 0
  | p + 1 => rnF V ch p * nI 10 + (if hoV V p < 5 then nI (ch p) else nI 9)
set_option maxHeartbeats 4000000 in
set_option maxRecDepth 100000 in
theorem c_ringNumber (E : EnvT) (ad : Nat → Nat) (T : Tst) (hV : Vok (vT T)) : Md E mX6_ringNumber ad [.ref (ad 0)] (trC E ad 0 T) (some (.int (rnF (vT T) (cT T) (npV (vT T))))) (trC E ad 0 T) := by
  have v2 := hV.2.1
  refine Md.of 2 (by decide) rfl rfl ?_
  refine Tr.iconst (v := nI 0) dX6_ringNumber_0 (icN 0) (Eq.refl 1) ?_
  refine Tr.istore_n (i := 1) dX6_ringNumber_1 rfl rfl rfl (Eq.refl 2) ?_
  refine Tr.iconst (v := nI 0) dX6_ringNumber_2 (icN 0) (Eq.refl 3) ?_
  refine Tr.istore_n (i := 2) dX6_ringNumber_3 rfl rfl rfl (Eq.refl 4) ?_
  refine Tr.mask [true, true, true] (lv' := [some (.ref (ad 0)), some (.int (rnF (vT T) (cT T) 0)), some (.int (nI 0))]) rfl ?_
  refine loopD (P := fun i => Tr _ 0 0 4 [some (.ref (ad 0)), some (.int (rnF (vT T) (cT T) i)), some (.int (nI i))] [] (trC E ad 0 T)) (npV (vT T)) ?_ (fun i hi ih => ?_)
  · refine Tr.iload_n (i := 2) dX6_ringNumber_4 rfl rfl (Eq.refl 5) ?_
    refine Tr.aload_n (i := 0) dX6_ringNumber_5 rfl rfl (Eq.refl 6) ?_
    refine Tr.getf dX6_ringNumber_6 fX6_12 rfl rfl (Eq.refl 9) ?_
    refine Tr.getf dX6_ringNumber_9 fX6_127 rfl rfl (Eq.refl 12) ?_
    refine Tr.icmp_geN (tgt := 54) dX6_ringNumber_12 (by decide) (Eq.refl 15) (by omega) (by omega) (fun h12 => ?_) (fun h12 => ?_)
    · refine Tr.iload_n (i := 1) dX6_ringNumber_54 rfl rfl (Eq.refl 55) ?_
      refine Tr.iret dX6_ringNumber_55 rfl (by first | rfl | exact bI_nar _) ?_ ?_
      · rfl
      · rfl
    · exact absurd h12 (by omega)
  · have hu : rnF (vT T) (cT T) (i + 1) = rnF (vT T) (cT T) i * nI 10 + (if hoV (vT T) i < 5 then nI (cT T i) else nI 9) := rfl
    rw [hu] at ih
    refine Tr.iload_n (i := 2) dX6_ringNumber_4 rfl rfl (Eq.refl 5) ?_
    refine Tr.aload_n (i := 0) dX6_ringNumber_5 rfl rfl (Eq.refl 6) ?_
    refine Tr.getf dX6_ringNumber_6 fX6_12 rfl rfl (Eq.refl 9) ?_
    refine Tr.getf dX6_ringNumber_9 fX6_127 rfl rfl (Eq.refl 12) ?_
    refine Tr.icmp_geN (tgt := 54) dX6_ringNumber_12 (by decide) (Eq.refl 15) (by omega) (by omega) (fun h12 => ?_) (fun h12 => ?_)
    · exact absurd h12 (by omega)
    · refine Tr.iload_n (i := 1) dX6_ringNumber_15 rfl rfl (Eq.refl 16) ?_
      refine Tr.bipush (v := nI 10) dX6_ringNumber_16 (by decide +kernel) (Eq.refl 18) ?_
      refine Tr.imul dX6_ringNumber_18 (Eq.refl 19) ?_
      refine Tr.aload_n (i := 0) dX6_ringNumber_19 rfl rfl (Eq.refl 20) ?_
      refine Tr.getf dX6_ringNumber_20 fX6_12 rfl rfl (Eq.refl 23) ?_
      refine Tr.getf dX6_ringNumber_23 fX6_187 rfl rfl (Eq.refl 26) ?_
      refine Tr.iload_n (i := 2) dX6_ringNumber_26 rfl rfl (Eq.refl 27) ?_
      refine Tr.ialdN dX6_ringNumber_27 rfl (by omega) (by decide) (Eq.refl 28) ?_
      refine Tr.iconst (v := (-1)) dX6_ringNumber_28 (by decide +kernel) (Eq.refl 29) ?_
      refine Tr.icmp_ne (tgt := 37) dX6_ringNumber_29 (by decide) (Eq.refl 32) (fun h29 => ?_) (fun h29 => ?_)
      · rw [cl_none] at h29
        rw [if_pos (by omega)] at ih
        refine Tr.aload_n (i := 0) dX6_ringNumber_37 rfl rfl (Eq.refl 38) ?_
        refine Tr.getf dX6_ringNumber_38 fX6_46 rfl rfl (Eq.refl 41) ?_
        refine Tr.getf dX6_ringNumber_41 fX6_120 rfl rfl (Eq.refl 44) ?_
        refine Tr.iload_n (i := 2) dX6_ringNumber_44 rfl rfl (Eq.refl 45) ?_
        refine Tr.ialdN dX6_ringNumber_45 rfl (by omega) (by decide) (Eq.refl 46) ?_
        refine Tr.iadd dX6_ringNumber_46 (Eq.refl 47) ?_
        refine Tr.istore_n (i := 1) dX6_ringNumber_47 rfl rfl rfl (Eq.refl 48) ?_
        refine Tr.iincN dX6_ringNumber_48 rfl rfl rfl (Eq.refl 51) ?_
        refine Tr.goto (pc' := 4) dX6_ringNumber_51 (by decide) ?_
        exact Tr.eqs rfl rfl rfl ih
      · rw [cl_none] at h29
        rw [if_neg h29] at ih
        refine Tr.bipush (v := nI 9) dX6_ringNumber_32 (by decide +kernel) (Eq.refl 34) ?_
        refine Tr.goto (pc' := 46) dX6_ringNumber_34 (by decide) ?_
        refine Tr.iadd dX6_ringNumber_46 (Eq.refl 47) ?_
        refine Tr.istore_n (i := 1) dX6_ringNumber_47 rfl rfl rfl (Eq.refl 48) ?_
        refine Tr.iincN dX6_ringNumber_48 rfl rfl rfl (Eq.refl 51) ?_
        refine Tr.goto (pc' := 4) dX6_ringNumber_51 (by decide) ?_
        exact Tr.eqs rfl rfl rfl ih
/-- none who has a house works -/
def nwB (V : Vil) (t : Nat) : Nat → Bool
  | 0 => true
  | p + 1 => nwB V t p && !(decide (hoV V p < 5) && wkB V p t)
def ocF (V : Vil) : Nat → Nat
  | 0 => 0
  | p + 1 => if hoV V p < 5 then ocF V p + 1 else ocF V p
theorem ocF_le (V : Vil) : ∀ n, ocF V n ≤ n := by
  intro n
  induction n with
  | zero => exact Nat.le_refl 0
  | succ n ih => unfold ocF; split <;> omega
theorem nwB_false {V : Vil} {t : Nat} : ∀ {n i : Nat}, i ≤ n → nwB V t i = false → nwB V t n = false := by
  intro n i h hf
  induction n with
  | zero => rw [show i = 0 by omega] at hf; exact hf
  | succ n ih =>
    by_cases e : i = n + 1
    · rw [← e]; exact hf
    · unfold nwB; rw [ih (by omega)]; rfl
def crB (V : Vil) (t : Nat) : Bool := nwB V t (npV V) && decide (2 ≤ ocF V (npV V))
set_option maxHeartbeats 4000000 in
set_option maxRecDepth 100000 in
theorem c_canRing (E : EnvT) (ad : Nat → Nat) (T : Tst) (hT : Tok T) : Md E mX6_canRing ad [.ref (ad 0)] (trC E ad 0 T) (some (.int (bI (crB (vT T) (psS (oT T)))))) (trC E ad 0 T) := by
  obtain ⟨V, X, P, L, O, S, W, ch, mo, z, G, K, bs, br, rg, lr, D⟩ := T
  have hV : Vok V := hT.1
  have v2 := hV.2.1
  have ht : psS O < 2 ^ 30 := hT.2.2.2
  show Md E _ ad _ (trX E ad 0 V X P L O S W ch mo z G K bs br rg lr (D 0) (D 1) (D 2) (D 3) (D 4)) (some (.int (bI (crB V (psS O))))) (trX E ad 0 V X P L O S W ch mo z G K bs br rg lr (D 0) (D 1) (D 2) (D 3) (D 4))
  refine Md.of 2 (by decide) rfl rfl ?_
  refine Tr.iconst (v := nI 0) dX6_canRing_0 (icN 0) (Eq.refl 1) ?_
  refine Tr.istore_n (i := 1) dX6_canRing_1 rfl rfl rfl (Eq.refl 2) ?_
  refine Tr.iconst (v := nI 0) dX6_canRing_2 (icN 0) (Eq.refl 3) ?_
  refine Tr.istore_n (i := 2) dX6_canRing_3 rfl rfl rfl (Eq.refl 4) ?_
  refine Tr.mask [true, true, true] (lv' := [some (.ref (ad 0)), some (.int (nI (ocF V 0))), some (.int (nI 0))]) rfl ?_
  refine loopD (P := fun i => nwB V (psS O) i = true → Tr _ 0 0 4 [some (.ref (ad 0)), some (.int (nI (ocF V i))), some (.int (nI i))] [] (trX E ad 0 V X P L O S W ch mo z G K bs br rg lr (D 0) (D 1) (D 2) (D 3) (D 4))) (npV V) (fun hn => ?_) (fun i hi ih hn => ?_) rfl
  · have ho := ocF_le V (npV V)
    refine Tr.iload_n (i := 2) dX6_canRing_4 rfl rfl (Eq.refl 5) ?_
    refine Tr.aload_n (i := 0) dX6_canRing_5 rfl rfl (Eq.refl 6) ?_
    refine Tr.getf dX6_canRing_6 fX6_12 rfl rfl (Eq.refl 9) ?_
    refine Tr.getf dX6_canRing_9 fX6_127 rfl rfl (Eq.refl 12) ?_
    refine Tr.icmp_geN (tgt := 57) dX6_canRing_12 (by decide) (Eq.refl 15) (by omega) (by omega) (fun h12 => ?_) (fun h12 => ?_)
    · refine Tr.iload_n (i := 1) dX6_canRing_57 rfl rfl (Eq.refl 58) ?_
      refine Tr.iconst (v := nI 2) dX6_canRing_58 (icN 2) (Eq.refl 59) ?_
      refine Tr.icmp_ltN (tgt := 66) dX6_canRing_59 (by decide) (Eq.refl 62) (by omega) (by omega) (fun h59 => ?_) (fun h59 => ?_)
      · have hx : crB V (psS O) = false := by unfold crB; rw [hn, decide_eq_false (by omega)]; rfl
        refine Tr.iconst (v := nI 0) dX6_canRing_66 (icN 0) (Eq.refl 67) ?_
        refine Tr.iret dX6_canRing_67 rfl (by first | rfl | exact bI_nar _) ?_ ?_
        · rw [hx]; rfl
        · rfl
      · have hx : crB V (psS O) = true := by unfold crB; rw [hn, decide_eq_true (by omega)]; rfl
        refine Tr.iconst (v := nI 1) dX6_canRing_62 (icN 1) (Eq.refl 63) ?_
        refine Tr.goto (pc' := 67) dX6_canRing_63 (by decide) ?_
        refine Tr.iret dX6_canRing_67 rfl (by first | rfl | exact bI_nar _) ?_ ?_
        · rw [hx]; rfl
        · rfl
    · exact absurd h12 (by omega)
  · have hu : ocF V (i + 1) = if hoV V i < 5 then ocF V i + 1 else ocF V i := rfl
    have hw : nwB V (psS O) (i + 1) = (nwB V (psS O) i && !(decide (hoV V i < 5) && wkB V i (psS O))) := rfl
    rw [hn] at hw
    rw [hu] at ih
    refine Tr.iload_n (i := 2) dX6_canRing_4 rfl rfl (Eq.refl 5) ?_
    refine Tr.aload_n (i := 0) dX6_canRing_5 rfl rfl (Eq.refl 6) ?_
    refine Tr.getf dX6_canRing_6 fX6_12 rfl rfl (Eq.refl 9) ?_
    refine Tr.getf dX6_canRing_9 fX6_127 rfl rfl (Eq.refl 12) ?_
    refine Tr.icmp_geN (tgt := 57) dX6_canRing_12 (by decide) (Eq.refl 15) (by omega) (by omega) (fun h12 => ?_) (fun h12 => ?_)
    · exact absurd h12 (by omega)
    · refine Tr.aload_n (i := 0) dX6_canRing_15 rfl rfl (Eq.refl 16) ?_
      refine Tr.getf dX6_canRing_16 fX6_12 rfl rfl (Eq.refl 19) ?_
      refine Tr.getf dX6_canRing_19 fX6_187 rfl rfl (Eq.refl 22) ?_
      refine Tr.iload_n (i := 2) dX6_canRing_22 rfl rfl (Eq.refl 23) ?_
      refine Tr.ialdN dX6_canRing_23 rfl (by omega) (by decide) (Eq.refl 24) ?_
      refine Tr.iconst (v := (-1)) dX6_canRing_24 (by decide +kernel) (Eq.refl 25) ?_
      refine Tr.icmp_eq (tgt := 51) dX6_canRing_25 (by decide) (Eq.refl 28) (fun h25 => ?_) (fun h25 => ?_)
      · rw [cl_none] at h25
        rw [decide_eq_false h25] at hw
        rw [if_neg h25] at ih
        have ih := ih hw
        refine Tr.iincN dX6_canRing_51 rfl rfl rfl (Eq.refl 54) ?_
        refine Tr.goto (pc' := 4) dX6_canRing_54 (by decide) ?_
        exact Tr.eqs rfl rfl rfl ih
      · rw [cl_none] at h25
        rw [decide_eq_true (by omega)] at hw
        rw [if_pos (by omega)] at ih
        refine Tr.iincN dX6_canRing_28 rfl rfl rfl (Eq.refl 31) ?_
        refine Tr.aload_n (i := 0) dX6_canRing_31 rfl rfl (Eq.refl 32) ?_
        refine Tr.getf dX6_canRing_32 fX6_12 rfl rfl (Eq.refl 35) ?_
        refine Tr.iload_n (i := 2) dX6_canRing_35 rfl rfl (Eq.refl 36) ?_
        refine Tr.aload_n (i := 0) dX6_canRing_36 rfl rfl (Eq.refl 37) ?_
        refine Tr.getf dX6_canRing_37 fX6_28 rfl rfl (Eq.refl 40) ?_
        refine Tr.getf dX6_canRing_40 fX6_75 rfl rfl (Eq.refl 43) ?_
        refine Tr.callVr (L := l_vi) (c_mustWork E _ V X i (psS O) hV hi (by omega)) dX6_canRing_43 (kX6_116 (Nat.le_of_ble_eq_true rfl)) iX7_mustWork rfl rfl rfl rfl rfl rfl rfl rfl rfl (Eq.refl 46) ?_
        refine Tr.if_eqB (tgt := 51) dX6_canRing_46 (by decide) (Eq.refl 49) (fun h46 => ?_) (fun h46 => ?_)
        · rw [h46] at hw
          have ih := ih hw
          refine Tr.iincN dX6_canRing_51 rfl rfl rfl (Eq.refl 54) ?_
          refine Tr.goto (pc' := 4) dX6_canRing_54 (by decide) ?_
          exact Tr.eqs rfl rfl rfl ih
        · rw [h46] at hw
          have hx : crB V (psS O) = false := by unfold crB; rw [nwB_false (Nat.succ_le_of_lt hi) hw]; rfl
          refine Tr.iconst (v := nI 0) dX6_canRing_49 (icN 0) (Eq.refl 50) ?_
          refine Tr.iret dX6_canRing_50 rfl (by first | rfl | exact bI_nar _) ?_ ?_
          · rw [hx]; rfl
          · rfl
