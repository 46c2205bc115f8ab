/-! Trial: setting out, running, sums -/
theorem trC_le (E : EnvT) (ad : Nat → Nat) (b : Nat) (T T' : Tst) : (trC E ad b T).length ≤ (trC E ad b T').length := Nat.le_refl 71
abbrev l_go : List Nat := [22, 23, 24, 25, 26, 27, 28, 1, 2, 3, 4, 5, 6, 7, 8, 9, 10, 11, 14, 30]
abbrev l_fw : List Nat := [12, 13, 14, 1, 2, 3, 4, 5, 6, 7, 8, 9, 10, 11, 30]
abbrev l_vi : List Nat := [1, 2, 3, 4, 5, 6, 7, 8, 9, 10, 11]
set_option maxHeartbeats 4000000 in
set_option maxRecDepth 100000 in
theorem c_placeOf (E : EnvT) (ad : Nat → Nat) (T : Tst) (c : Nat) (hV : Vok (vT T)) (hc : c < 2 ^ 31) : Md E mX6_placeOf ad [.ref (ad 0), .int (nI c)] (trC E ad 0 T) (some (.int (cl (plc (vT T) c)))) (trC E ad 0 T) := by
  have v1 := hV.1
  refine Md.of 0 (by decide) rfl rfl ?_
  refine Tr.iload_n (i := 1) dX6_placeOf_0 rfl rfl (Eq.refl 1) ?_
  refine Tr.aload_n (i := 0) dX6_placeOf_1 rfl rfl (Eq.refl 2) ?_
  refine Tr.getf dX6_placeOf_2 fX6_12 rfl rfl (Eq.refl 5) ?_
  refine Tr.getf dX6_placeOf_5 fX6_71 rfl rfl (Eq.refl 8) ?_
  refine Tr.icmp_geN (tgt := 15) dX6_placeOf_8 (by decide) (Eq.refl 11) (by omega) (by omega) (fun h8 => ?_) (fun h8 => ?_)
  · have hp : plc (vT T) c = 5 := if_neg (by omega)
    refine Tr.iconst (v := (-1)) dX6_placeOf_15 (by decide +kernel) (Eq.refl 16) ?_
    refine Tr.iret dX6_placeOf_16 rfl (by first | rfl | exact bI_nar _) ?_ ?_
    · rw [hp]; first | rfl | (rw [cl_lt (by omega)])
    · rfl
  · have hp : plc (vT T) c = c := if_pos h8
    refine Tr.iload_n (i := 1) dX6_placeOf_11 rfl rfl (Eq.refl 12) ?_
    refine Tr.goto (pc' := 16) dX6_placeOf_12 (by decide) ?_
    refine Tr.iret dX6_placeOf_16 rfl (by first | rfl | exact bI_nar _) ?_ ?_
    · rw [hp]; first | rfl | (rw [cl_lt (by omega)])
    · rfl
set_option maxHeartbeats 4000000 in
set_option maxRecDepth 100000 in
theorem c_runQuarters (E : EnvT) (ad : Nat → Nat) (T : Tst) (n : Nat) (hT : Tok T) (hn : n < 2 ^ 30) : Md E mX6_runQuarters ad [.ref (ad 0), .int (nI n)] (trC E ad 0 T) none (trC E ad 0 (rqT T n)) := by
  obtain ⟨V, X, P, L, O, S, W, ch, mo, z, G, K, bs, br, rg, lr, D⟩ := T
  have t4 : psS O < 2 ^ 30 := hT.2.2.2
  generalize hq : rqF (V, X, P, L, O, S, W, ch, mo, z, G, K, bs, br, rg, lr, D) = q
  have q1 : ∀ i, psS (q i).1 = psS O + i := fun i => by rw [← hq]; exact rqF_ps _ i
  have q2 : ∀ i, Sle V (q i).1 := fun i => by rw [← hq]; exact rqF_le hT i
  have q3 : ∀ i, (q (i + 1)).2 = fwF V P (psS (q i).1) (q i).2 (npV V) := fun i => by rw [← hq]; rfl
  have q4 : ∀ i, (q (i + 1)).1 = gon V L (q (i + 1)).2 (q i).1 := fun i => by rw [← hq]; rfl
  have q0 : q 0 = (O, W) := by rw [← hq]; rfl
  show Md E _ ad _ (trX E ad 0 V X P L O S W ch mo z G K bs br rg lr (D 0) (D 1) (D 2) (D 3) (D 4)) none (trX E ad 0 V X P L O (rqF (V, X, P, L, O, S, W, ch, mo, z, G, K, bs, br, rg, lr, D) n).1 (rqF (V, X, P, L, O, S, W, ch, mo, z, G, K, bs, br, rg, lr, D) n).2 ch mo z G K bs br rg lr (D 0) (D 1) (D 2) (D 3) (D 4))
  rw [hq]
  have hV : Vok V := hT.1
  have hP : Ple P := hT.2.1
  refine Md.of 1 (by decide) rfl rfl ?_
  refine Tr.aload_n (i := 0) dX6_runQuarters_0 rfl rfl (Eq.refl 1) ?_
  refine Tr.getf dX6_runQuarters_1 fX6_32 rfl rfl (Eq.refl 4) ?_
  refine Tr.aload_n (i := 0) dX6_runQuarters_4 rfl rfl (Eq.refl 5) ?_
  refine Tr.getf dX6_runQuarters_5 fX6_28 rfl rfl (Eq.refl 8) ?_
  refine Tr.callV (L := [22, 23, 24, 25, 26, 27, 28, 15, 16, 17, 18, 19, 20, 21]) (c_scCopy E _ S O) dX6_runQuarters_8 (kX6_68 (Nat.le_of_ble_eq_true rfl)) iX3_copyFrom rfl rfl rfl rfl rfl rfl rfl rfl rfl rfl (Eq.refl 11) ?_
  refine Tr.pic (w' := trX E ad 0 V X P L O O W ch mo z G K bs br rg lr (D 0) (D 1) (D 2) (D 3) (D 4)) (putB_eq (Lc := [0, 1, 2, 3, 4, 5, 6, 7, 8, 9, 10, 11, 12, 13, 14, 29, 30, 31, 32, 33, 34, 35, 36, 37, 38, 39, 40, 41, 42, 43, 44, 45, 46, 47, 48, 49, 50, 51, 52, 53, 54, 55, 56, 57, 58, 59, 60, 61, 62, 63, 64, 65, 66, 67, 68, 69, 70]) 71 rfl rfl rfl rfl ⟨⟨_, rfl, rfl⟩, ⟨_, rfl, rfl⟩, ⟨_, rfl, rfl⟩, ⟨_, rfl, rfl⟩, ⟨_, rfl, rfl⟩, ⟨_, rfl, rfl⟩, ⟨_, rfl, rfl⟩, ⟨_, rfl, rfl⟩, ⟨_, rfl, rfl⟩, ⟨_, rfl, rfl⟩, ⟨_, rfl, rfl⟩, ⟨_, rfl, rfl⟩, ⟨_, rfl, rfl⟩, ⟨_, rfl, rfl⟩, ⟨_, rfl, rfl⟩, ⟨_, rfl, rfl⟩, ⟨_, rfl, rfl⟩, ⟨_, rfl, rfl⟩, ⟨_, rfl, rfl⟩, ⟨_, rfl, rfl⟩, ⟨_, rfl, rfl⟩, ⟨_, rfl, rfl⟩, ⟨_, rfl, rfl⟩, ⟨_, rfl, rfl⟩, ⟨_, rfl, rfl⟩, ⟨_, rfl, rfl⟩, ⟨_, rfl, rfl⟩, ⟨_, rfl, rfl⟩, ⟨_, rfl, rfl⟩, ⟨_, rfl, rfl⟩, ⟨_, rfl, rfl⟩, ⟨_, rfl, rfl⟩, ⟨_, rfl, rfl⟩, ⟨_, rfl, rfl⟩, ⟨_, rfl, rfl⟩, ⟨_, rfl, rfl⟩, ⟨_, rfl, rfl⟩, ⟨_, rfl, rfl⟩, ⟨_, rfl, rfl⟩, ⟨_, rfl, rfl⟩, ⟨_, rfl, rfl⟩, ⟨_, rfl, rfl⟩, ⟨_, rfl, rfl⟩, ⟨_, rfl, rfl⟩, ⟨_, rfl, rfl⟩, ⟨_, rfl, rfl⟩, ⟨_, rfl, rfl⟩, ⟨_, rfl, rfl⟩, ⟨_, rfl, rfl⟩, ⟨_, rfl, rfl⟩, ⟨_, rfl, rfl⟩, ⟨_, rfl, rfl⟩, ⟨_, rfl, rfl⟩, ⟨_, rfl, rfl⟩, ⟨_, rfl, rfl⟩, ⟨_, rfl, rfl⟩, ⟨_, rfl, rfl⟩, trivial⟩ (by decide) rfl) ?_
  refine Tr.iconst (v := nI 0) dX6_runQuarters_11 (icN 0) (Eq.refl 12) ?_
  refine Tr.istore_n (i := 2) dX6_runQuarters_12 rfl rfl rfl (Eq.refl 13) ?_
  refine Tr.mask [true, true, true] (lv' := [some (.ref (ad 0)), some (.int (nI n)), some (.int (nI 0))]) rfl ?_
  refine Tr.pic (w' := trX E ad 0 V X P L O (q 0).1 (q 0).2 ch mo z G K bs br rg lr (D 0) (D 1) (D 2) (D 3) (D 4)) (by rw [q0]) ?_
  refine loopD (P := fun i => Tr _ 0 0 13 [some (.ref (ad 0)), some (.int (nI n)), some (.int (nI i))] [] (trX E ad 0 V X P L O (q i).1 (q i).2 ch mo z G K bs br rg lr (D 0) (D 1) (D 2) (D 3) (D 4))) n ?_ (fun i hi ih => ?_)
  · refine Tr.iload_n (i := 2) dX6_runQuarters_13 rfl rfl (Eq.refl 14) ?_
    refine Tr.iload_n (i := 1) dX6_runQuarters_14 rfl rfl (Eq.refl 15) ?_
    refine Tr.icmp_geN (tgt := 68) dX6_runQuarters_15 (by decide) (Eq.refl 18) (by omega) (by omega) (fun h15 => ?_) (fun h15 => ?_)
    · refine Tr.ret dX6_runQuarters_68 rfl rfl ?_
      · rfl
    · exact absurd h15 (by omega)
  · have h1 := q1 i
    have h3 : psS (q i).1 < 2 ^ 31 := by omega
    refine Tr.iload_n (i := 2) dX6_runQuarters_13 rfl rfl (Eq.refl 14) ?_
    refine Tr.iload_n (i := 1) dX6_runQuarters_14 rfl rfl (Eq.refl 15) ?_
    refine Tr.icmp_geN (tgt := 68) dX6_runQuarters_15 (by decide) (Eq.refl 18) (by omega) (by omega) (fun h15 => ?_) (fun h15 => ?_)
    · exact absurd h15 (by omega)
    · refine Tr.aload_n (i := 0) dX6_runQuarters_18 rfl rfl (Eq.refl 19) ?_
      refine Tr.getf dX6_runQuarters_19 fX6_21 rfl rfl (Eq.refl 22) ?_
      refine Tr.aload_n (i := 0) dX6_runQuarters_22 rfl rfl (Eq.refl 23) ?_
      refine Tr.getf dX6_runQuarters_23 fX6_12 rfl rfl (Eq.refl 26) ?_
      refine Tr.aload_n (i := 0) dX6_runQuarters_26 rfl rfl (Eq.refl 27) ?_
      refine Tr.getf dX6_runQuarters_27 fX6_32 rfl rfl (Eq.refl 30) ?_
      refine Tr.getf dX6_runQuarters_30 fX6_75 rfl rfl (Eq.refl 33) ?_
      refine Tr.aload_n (i := 0) dX6_runQuarters_33 rfl rfl (Eq.refl 34) ?_
      refine Tr.getf dX6_runQuarters_34 fX6_39 rfl rfl (Eq.refl 37) ?_
      refine Tr.callV (L := l_fw) (c_fillWishes E _ P L V X (psS (q i).1) (q i).2 hV h3) dX6_runQuarters_37 (kX6_78 (Nat.le_of_ble_eq_true rfl)) iX8_fillWishes rfl rfl rfl rfl rfl rfl rfl rfl rfl rfl (Eq.refl 40) ?_
      refine Tr.pic (w' := trX E ad 0 V X P L O (q i).1 (fwF V P (psS (q i).1) (q i).2 (npV V)) ch mo z G K bs br rg lr (D 0) (D 1) (D 2) (D 3) (D 4)) (putB_eq (Lc := [0, 15, 16, 17, 18, 19, 20, 21, 22, 23, 24, 25, 26, 27, 28, 29, 31, 32, 33, 34, 35, 36, 37, 38, 39, 40, 41, 42, 43, 44, 45, 46, 47, 48, 49, 50, 51, 52, 53, 54, 55, 56, 57, 58, 59, 60, 61, 62, 63, 64, 65, 66, 67, 68, 69, 70]) 71 rfl rfl rfl rfl ⟨⟨_, rfl, rfl⟩, ⟨_, rfl, rfl⟩, ⟨_, rfl, rfl⟩, ⟨_, rfl, rfl⟩, ⟨_, rfl, rfl⟩, ⟨_, rfl, rfl⟩, ⟨_, rfl, rfl⟩, ⟨_, rfl, rfl⟩, ⟨_, rfl, rfl⟩, ⟨_, rfl, rfl⟩, ⟨_, rfl, rfl⟩, ⟨_, rfl, rfl⟩, ⟨_, rfl, rfl⟩, ⟨_, rfl, rfl⟩, ⟨_, rfl, rfl⟩, ⟨_, rfl, rfl⟩, ⟨_, rfl, rfl⟩, ⟨_, rfl, rfl⟩, ⟨_, rfl, rfl⟩, ⟨_, rfl, rfl⟩, ⟨_, rfl, rfl⟩, ⟨_, rfl, rfl⟩, ⟨_, rfl, rfl⟩, ⟨_, rfl, rfl⟩, ⟨_, rfl, rfl⟩, ⟨_, rfl, rfl⟩, ⟨_, rfl, rfl⟩, ⟨_, rfl, rfl⟩, ⟨_, rfl, rfl⟩, ⟨_, rfl, rfl⟩, ⟨_, rfl, rfl⟩, ⟨_, rfl, rfl⟩, ⟨_, rfl, rfl⟩, ⟨_, rfl, rfl⟩, ⟨_, rfl, rfl⟩, ⟨_, rfl, rfl⟩, ⟨_, rfl, rfl⟩, ⟨_, rfl, rfl⟩, ⟨_, rfl, rfl⟩, ⟨_, rfl, rfl⟩, ⟨_, rfl, rfl⟩, ⟨_, rfl, rfl⟩, ⟨_, rfl, rfl⟩, ⟨_, rfl, rfl⟩, ⟨_, rfl, rfl⟩, ⟨_, rfl, rfl⟩, ⟨_, rfl, rfl⟩, ⟨_, rfl, rfl⟩, ⟨_, rfl, rfl⟩, ⟨_, rfl, rfl⟩, ⟨_, rfl, rfl⟩, ⟨_, rfl, rfl⟩, ⟨_, rfl, rfl⟩, ⟨_, rfl, rfl⟩, ⟨_, rfl, rfl⟩, ⟨_, rfl, rfl⟩, trivial⟩ (by decide) rfl) ?_
      rw [← q3]
      refine Tr.aload_n (i := 0) dX6_runQuarters_40 rfl rfl (Eq.refl 41) ?_
      refine Tr.getf dX6_runQuarters_41 fX6_32 rfl rfl (Eq.refl 44) ?_
      refine Tr.aload_n (i := 0) dX6_runQuarters_44 rfl rfl (Eq.refl 45) ?_
      refine Tr.getf dX6_runQuarters_45 fX6_12 rfl rfl (Eq.refl 48) ?_
      refine Tr.aload_n (i := 0) dX6_runQuarters_48 rfl rfl (Eq.refl 49) ?_
      refine Tr.getf dX6_runQuarters_49 fX6_21 rfl rfl (Eq.refl 52) ?_
      refine Tr.getf dX6_runQuarters_52 fX6_82 rfl rfl (Eq.refl 55) ?_
      refine Tr.aload_n (i := 0) dX6_runQuarters_55 rfl rfl (Eq.refl 56) ?_
      refine Tr.getf dX6_runQuarters_56 fX6_39 rfl rfl (Eq.refl 59) ?_
      refine Tr.callV (L := l_go) (c_goOn E _ V X (q i).1 L (q (i + 1)).2 hV (q2 i) (by rw [q3]; exact fwF_le hV hP)) dX6_runQuarters_59 (kX6_85 (Nat.le_of_ble_eq_true rfl)) iX3_goOn rfl rfl rfl rfl rfl rfl rfl rfl rfl rfl (Eq.refl 62) ?_
      refine Tr.pic (w' := trX E ad 0 V X P L O (gon V L (q (i + 1)).2 (q i).1) (q (i + 1)).2 ch mo z G K bs br rg lr (D 0) (D 1) (D 2) (D 3) (D 4)) (putB_eq (Lc := [0, 12, 13, 15, 16, 17, 18, 19, 20, 21, 29, 31, 32, 33, 34, 35, 36, 37, 38, 39, 40, 41, 42, 43, 44, 45, 46, 47, 48, 49, 50, 51, 52, 53, 54, 55, 56, 57, 58, 59, 60, 61, 62, 63, 64, 65, 66, 67, 68, 69, 70]) 71 rfl rfl rfl rfl ⟨⟨_, rfl, rfl⟩, ⟨_, rfl, rfl⟩, ⟨_, rfl, rfl⟩, ⟨_, rfl, rfl⟩, ⟨_, rfl, rfl⟩, ⟨_, rfl, rfl⟩, ⟨_, rfl, rfl⟩, ⟨_, rfl, rfl⟩, ⟨_, rfl, rfl⟩, ⟨_, rfl, rfl⟩, ⟨_, rfl, rfl⟩, ⟨_, rfl, rfl⟩, ⟨_, rfl, rfl⟩, ⟨_, rfl, rfl⟩, ⟨_, rfl, rfl⟩, ⟨_, rfl, rfl⟩, ⟨_, rfl, rfl⟩, ⟨_, rfl, rfl⟩, ⟨_, rfl, rfl⟩, ⟨_, rfl, rfl⟩, ⟨_, rfl, rfl⟩, ⟨_, rfl, rfl⟩, ⟨_, rfl, rfl⟩, ⟨_, rfl, rfl⟩, ⟨_, rfl, rfl⟩, ⟨_, rfl, rfl⟩, ⟨_, rfl, rfl⟩, ⟨_, rfl, rfl⟩, ⟨_, rfl, rfl⟩, ⟨_, rfl, rfl⟩, ⟨_, rfl, rfl⟩, ⟨_, rfl, rfl⟩, ⟨_, rfl, rfl⟩, ⟨_, rfl, rfl⟩, ⟨_, rfl, rfl⟩, ⟨_, rfl, rfl⟩, ⟨_, rfl, rfl⟩, ⟨_, rfl, rfl⟩, ⟨_, rfl, rfl⟩, ⟨_, rfl, rfl⟩, ⟨_, rfl, rfl⟩, ⟨_, rfl, rfl⟩, ⟨_, rfl, rfl⟩, ⟨_, rfl, rfl⟩, ⟨_, rfl, rfl⟩, ⟨_, rfl, rfl⟩, ⟨_, rfl, rfl⟩, ⟨_, rfl, rfl⟩, ⟨_, rfl, rfl⟩, ⟨_, rfl, rfl⟩, ⟨_, rfl, rfl⟩, trivial⟩ (by decide) rfl) ?_
      rw [← q4]
      refine Tr.iincN dX6_runQuarters_62 rfl rfl rfl (Eq.refl 65) ?_
      refine Tr.goto (pc' := 13) dX6_runQuarters_65 (by decide) ?_
      exact Tr.eqs rfl rfl rfl ih
set_option maxHeartbeats 4000000 in
set_option maxRecDepth 100000 in
theorem c_sumOf (E : EnvT) (ad : Nat → Nat) (T : Tst) (p : Nat) (hT : Tok T) (hp : p < npV (vT T)) : Md E mX6_sumOf ad [.ref (ad 0), .int (nI p)] (trC E ad 0 T) (some (.int (smF T p))) (trC E ad 0 (rqT T 4)) := by
  have v2 := hT.1.2.1
  refine Md.of 0 (by decide) rfl rfl ?_
  refine Tr.aload_n (i := 0) dX6_sumOf_0 rfl rfl (Eq.refl 1) ?_
  refine Tr.iconst (v := nI 4) dX6_sumOf_1 (icN 4) (Eq.refl 2) ?_
  refine Tr.callVs (c_runQuarters E ad T 4 hT (by decide)) dX6_sumOf_2 (kX6_89 (Nat.le_of_ble_eq_true rfl)) iX6_runQuarters rfl rfl rfl rfl rfl (trC_le _ _ _ _ _) rfl rfl (Eq.refl 5) ?_
  refine Tr.aload_n (i := 0) dX6_sumOf_5 rfl rfl (Eq.refl 6) ?_
  refine Tr.getf dX6_sumOf_6 fX6_32 rfl rfl (Eq.refl 9) ?_
  refine Tr.getf dX6_sumOf_9 fX6_93 rfl rfl (Eq.refl 12) ?_
  refine Tr.iload_n (i := 1) dX6_sumOf_12 rfl rfl (Eq.refl 13) ?_
  refine Tr.ialdN dX6_sumOf_13 rfl (by omega) (by decide) (Eq.refl 14) ?_
  refine Tr.aload_n (i := 0) dX6_sumOf_14 rfl rfl (Eq.refl 15) ?_
  refine Tr.getf dX6_sumOf_15 fX6_28 rfl rfl (Eq.refl 18) ?_
  refine Tr.getf dX6_sumOf_18 fX6_93 rfl rfl (Eq.refl 21) ?_
  refine Tr.iload_n (i := 1) dX6_sumOf_21 rfl rfl (Eq.refl 22) ?_
  refine Tr.ialdN dX6_sumOf_22 rfl (by omega) (by decide) (Eq.refl 23) ?_
  refine Tr.isub dX6_sumOf_23 (Eq.refl 24) ?_
  refine Tr.iret dX6_sumOf_24 rfl (by first | rfl | exact bI_nar _) ?_ ?_
  · rfl
  · rfl
