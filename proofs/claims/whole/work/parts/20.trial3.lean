/-! Trial: the judge, the best plan -/
/-- a day's choices as a row: three bits a quarter of the day -/
def rowF (O : Scn) (ch : Nat → Nat) : Nat → Int32
  | 0 => nI 0
  | k + 1 => rowF O ch k ||| (nI (ch k) <<< (nI (3 * (3 - (psS O + k) % 4)) &&& 31))
def gnT (T : Tst) (p : Nat) : Int32 := alS (dT T 4) p - alS (oT T) p
def jdT (T : Tst) (p : Nat) : Tst := if bsT T < gnT T p ∨ (gnT T p = bsT T ∧ rowF (oT T) (cT T) 4 < brT T) then uBr (uBs T (gnT T p)) (rowF (oT T) (cT T) 4) else T
set_option maxHeartbeats 4000000 in
set_option maxRecDepth 100000 in
theorem c_judgeDay (E : EnvT) (ad : Nat → Nat) (T : Tst) (p : Nat) (hp : p < 5) (ht : psS (oT T) < 2 ^ 30) : Md E mX6_judgeDay ad [.ref (ad 0), .int (nI p)] (trC E ad 0 T) none (trC E ad 0 (jdT T p)) := by
  refine Md.of 4 (by decide) rfl rfl ?_
  refine Tr.aload_n (i := 0) dX6_judgeDay_0 rfl rfl (Eq.refl 1) ?_
  refine Tr.getf dX6_judgeDay_1 fX6_35 rfl rfl (Eq.refl 4) ?_
  refine Tr.iconst (v := nI 4) dX6_judgeDay_4 (icN 4) (Eq.refl 5) ?_
  refine Tr.aald dX6_judgeDay_5 rfl rfl (by decide) (by decide) rfl (Eq.refl 6) ?_
  refine Tr.getf dX6_judgeDay_6 fX6_93 rfl rfl (Eq.refl 9) ?_
  refine Tr.iload_n (i := 1) dX6_judgeDay_9 rfl rfl (Eq.refl 10) ?_
  refine Tr.ialdN dX6_judgeDay_10 rfl (by omega) (by decide) (Eq.refl 11) ?_
  refine Tr.aload_n (i := 0) dX6_judgeDay_11 rfl rfl (Eq.refl 12) ?_
  refine Tr.getf dX6_judgeDay_12 fX6_28 rfl rfl (Eq.refl 15) ?_
  refine Tr.getf dX6_judgeDay_15 fX6_93 rfl rfl (Eq.refl 18) ?_
  refine Tr.iload_n (i := 1) dX6_judgeDay_18 rfl rfl (Eq.refl 19) ?_
  refine Tr.ialdN dX6_judgeDay_19 rfl (by omega) (by decide) (Eq.refl 20) ?_
  refine Tr.isub dX6_judgeDay_20 (Eq.refl 21) ?_
  refine Tr.istore_n (i := 2) dX6_judgeDay_21 rfl rfl rfl (Eq.refl 22) ?_
  refine Tr.iconst (v := nI 0) dX6_judgeDay_22 (icN 0) (Eq.refl 23) ?_
  refine Tr.istore_n (i := 3) dX6_judgeDay_23 rfl rfl rfl (Eq.refl 24) ?_
  refine Tr.iconst (v := nI 0) dX6_judgeDay_24 (icN 0) (Eq.refl 25) ?_
  refine Tr.istore dX6_judgeDay_25 rfl rfl (Eq.refl 27) ?_
  refine Tr.mask [true, true, true, true, true, true] (lv' := [some (.ref (ad 0)), some (.int (nI p)), some (.int (gnT T p)), some (.int (rowF (oT T) (cT T) 0)), some (.int (nI 0)), none]) rfl ?_
  refine loopD (P := fun i => Tr _ 0 0 27 [some (.ref (ad 0)), some (.int (nI p)), some (.int (gnT T p)), some (.int (rowF (oT T) (cT T) i)), some (.int (nI i)), none] [] (trC E ad 0 T)) 4 ?_ (fun i hi ih => ?_)
  · refine Tr.iload dX6_judgeDay_27 rfl (Eq.refl 29) ?_
    refine Tr.iconst (v := nI 4) dX6_judgeDay_29 (icN 4) (Eq.refl 30) ?_
    refine Tr.icmp_geN (tgt := 73) dX6_judgeDay_30 (by decide) (Eq.refl 33) (by omega) (by omega) (fun h30 => ?_) (fun h30 => ?_)
    · refine Tr.iload_n (i := 2) dX6_judgeDay_73 rfl rfl (Eq.refl 74) ?_
      refine Tr.aload_n (i := 0) dX6_judgeDay_74 rfl rfl (Eq.refl 75) ?_
      refine Tr.getf dX6_judgeDay_75 fX6_97 rfl rfl (Eq.refl 78) ?_
      refine Tr.icmp_gt (tgt := 97) dX6_judgeDay_78 (by decide) (Eq.refl 81) (fun h78 => ?_) (fun h78 => ?_)
      · have hj : jdT T p = uBr (uBs T (gnT T p)) (rowF (oT T) (cT T) 4) := if_pos (Or.inl h78)
        refine Tr.aload_n (i := 0) dX6_judgeDay_97 rfl rfl (Eq.refl 98) ?_
        refine Tr.iload_n (i := 2) dX6_judgeDay_98 rfl rfl (Eq.refl 99) ?_
        refine Tr.putf dX6_judgeDay_99 pX6_97 rfl (rfl) (rfl) rfl (Eq.refl 102) ?_
        refine Tr.aload_n (i := 0) dX6_judgeDay_102 rfl rfl (Eq.refl 103) ?_
        refine Tr.iload_n (i := 3) dX6_judgeDay_103 rfl rfl (Eq.refl 104) ?_
        refine Tr.putf dX6_judgeDay_104 pX6_100 rfl (rfl) (rfl) rfl (Eq.refl 107) ?_
        refine Tr.ret dX6_judgeDay_107 rfl rfl ?_
        · first | (rw [hj]; done) | (rw [hj]; rfl)
      · refine Tr.iload_n (i := 2) dX6_judgeDay_81 rfl rfl (Eq.refl 82) ?_
        refine Tr.aload_n (i := 0) dX6_judgeDay_82 rfl rfl (Eq.refl 83) ?_
        refine Tr.getf dX6_judgeDay_83 fX6_97 rfl rfl (Eq.refl 86) ?_
        refine Tr.icmp_ne (tgt := 107) dX6_judgeDay_86 (by decide) (Eq.refl 89) (fun h86 => ?_) (fun h86 => ?_)
        · have hj : jdT T p = T := if_neg (fun z => z.elim h78 (fun y => h86 y.1))
          refine Tr.ret dX6_judgeDay_107 rfl rfl ?_
          · first | (rw [hj]; done) | (rw [hj]; rfl)
        · refine Tr.iload_n (i := 3) dX6_judgeDay_89 rfl rfl (Eq.refl 90) ?_
          refine Tr.aload_n (i := 0) dX6_judgeDay_90 rfl rfl (Eq.refl 91) ?_
          refine Tr.getf dX6_judgeDay_91 fX6_100 rfl rfl (Eq.refl 94) ?_
          refine Tr.icmp_geL (tgt := 107) dX6_judgeDay_94 (by decide) (Eq.refl 97) (fun h94 => ?_) (fun h94 => ?_)
          · have hj : jdT T p = T := if_neg (fun z => z.elim h78 (fun y => h94 y.2))
            refine Tr.ret dX6_judgeDay_107 rfl rfl ?_
            · first | (rw [hj]; done) | (rw [hj]; rfl)
          · have hj : jdT T p = uBr (uBs T (gnT T p)) (rowF (oT T) (cT T) 4) := if_pos (Or.inr ⟨h86, h94⟩)
            refine Tr.aload_n (i := 0) dX6_judgeDay_97 rfl rfl (Eq.refl 98) ?_
            refine Tr.iload_n (i := 2) dX6_judgeDay_98 rfl rfl (Eq.refl 99) ?_
            refine Tr.putf dX6_judgeDay_99 pX6_97 rfl (rfl) (rfl) rfl (Eq.refl 102) ?_
            refine Tr.aload_n (i := 0) dX6_judgeDay_102 rfl rfl (Eq.refl 103) ?_
            refine Tr.iload_n (i := 3) dX6_judgeDay_103 rfl rfl (Eq.refl 104) ?_
            refine Tr.putf dX6_judgeDay_104 pX6_100 rfl (rfl) (rfl) rfl (Eq.refl 107) ?_
            refine Tr.ret dX6_judgeDay_107 rfl rfl ?_
            · first | (rw [hj]; done) | (rw [hj]; rfl)
    · exact absurd h30 (by omega)
  · refine Tr.iload dX6_judgeDay_27 rfl (Eq.refl 29) ?_
    refine Tr.iconst (v := nI 4) dX6_judgeDay_29 (icN 4) (Eq.refl 30) ?_
    refine Tr.icmp_geN (tgt := 73) dX6_judgeDay_30 (by decide) (Eq.refl 33) (by omega) (by omega) (fun h30 => ?_) (fun h30 => ?_)
    · exact absurd h30 (by omega)
    · refine Tr.aload_n (i := 0) dX6_judgeDay_33 rfl rfl (Eq.refl 34) ?_
      refine Tr.getf dX6_judgeDay_34 fX6_28 rfl rfl (Eq.refl 37) ?_
      refine Tr.getf dX6_judgeDay_37 fX6_75 rfl rfl (Eq.refl 40) ?_
      refine Tr.iload dX6_judgeDay_40 rfl (Eq.refl 42) ?_
      refine Tr.iaddN dX6_judgeDay_42 (Eq.refl 43) ?_
      refine Tr.iconst (v := nI 3) dX6_judgeDay_43 (icN 3) (Eq.refl 44) ?_
      refine Tr.iand dX6_judgeDay_44 (Eq.refl 45) ?_
      rw [and3 (by omega)]
      refine Tr.istore dX6_judgeDay_45 rfl rfl (Eq.refl 47) ?_
      refine Tr.iload_n (i := 3) dX6_judgeDay_47 rfl rfl (Eq.refl 48) ?_
      refine Tr.aload_n (i := 0) dX6_judgeDay_48 rfl rfl (Eq.refl 49) ?_
      refine Tr.getf dX6_judgeDay_49 fX6_46 rfl rfl (Eq.refl 52) ?_
      refine Tr.getf dX6_judgeDay_52 fX6_120 rfl rfl (Eq.refl 55) ?_
      refine Tr.iload dX6_judgeDay_55 rfl (Eq.refl 57) ?_
      refine Tr.ialdN dX6_judgeDay_57 rfl (by omega) (by decide) (Eq.refl 58) ?_
      refine Tr.iconst (v := nI 3) dX6_judgeDay_58 (icN 3) (Eq.refl 59) ?_
      refine Tr.iconst (v := nI 3) dX6_judgeDay_59 (icN 3) (Eq.refl 60) ?_
      refine Tr.iload dX6_judgeDay_60 rfl (Eq.refl 62) ?_
      refine Tr.isub dX6_judgeDay_62 (Eq.refl 63) ?_
      rw [pk_sub (by omega)]
      refine Tr.imulN dX6_judgeDay_63 (Eq.refl 64) ?_
      refine Tr.ishl dX6_judgeDay_64 (Eq.refl 65) ?_
      refine Tr.ior dX6_judgeDay_65 (Eq.refl 66) ?_
      refine Tr.istore_n (i := 3) dX6_judgeDay_66 rfl rfl rfl (Eq.refl 67) ?_
      refine Tr.iincN dX6_judgeDay_67 rfl rfl rfl (Eq.refl 70) ?_
      refine Tr.goto (pc' := 27) dX6_judgeDay_70 (by decide) ?_
      exact Tr.mask [true, true, true, true, true, false] rfl ih
/-- the choice of quarter q in the best row -/
def shv (T : Tst) (q : Nat) : Nat := (brT T >>> (nI (3 * (3 - q)) &&& 31)).toBitVec.toNat % 8
def bpl (T : Tst) (q : Nat) : Nat := plc (vT T) (shv T q)
set_option maxHeartbeats 4000000 in
set_option maxRecDepth 100000 in
theorem c_bestPlace (E : EnvT) (ad : Nat → Nat) (T : Tst) (q : Nat) (hV : Vok (vT T)) (hq : q < 4) : Md E mX6_bestPlace ad [.ref (ad 0), .int (nI q)] (trC E ad 0 T) (some (.int (cl (bpl T q)))) (trC E ad 0 T) := by
  have h8 : shv T q < 8 := Nat.mod_lt _ (by decide)
  refine Md.of 0 (by decide) rfl rfl ?_
  refine Tr.aload_n (i := 0) dX6_bestPlace_0 rfl rfl (Eq.refl 1) ?_
  refine Tr.aload_n (i := 0) dX6_bestPlace_1 rfl rfl (Eq.refl 2) ?_
  refine Tr.getf dX6_bestPlace_2 fX6_100 rfl rfl (Eq.refl 5) ?_
  refine Tr.iconst (v := nI 3) dX6_bestPlace_5 (icN 3) (Eq.refl 6) ?_
  refine Tr.iconst (v := nI 3) dX6_bestPlace_6 (icN 3) (Eq.refl 7) ?_
  refine Tr.iload_n (i := 1) dX6_bestPlace_7 rfl rfl (Eq.refl 8) ?_
  refine Tr.isub dX6_bestPlace_8 (Eq.refl 9) ?_
  rw [pk_sub (by omega)]
  refine Tr.imulN dX6_bestPlace_9 (Eq.refl 10) ?_
  refine Tr.ishr dX6_bestPlace_10 (Eq.refl 11) ?_
  refine Tr.bipush (v := nI 7) dX6_bestPlace_11 (by decide +kernel) (Eq.refl 13) ?_
  refine Tr.iand dX6_bestPlace_13 (Eq.refl 14) ?_
  refine Tr.top (y := nI (shv T q)) (pk_and _ 3 (by decide)) ?_
  refine Tr.callVs (c_placeOf E ad T (shv T q) hV (by omega)) dX6_bestPlace_14 (kX6_123 (Nat.le_of_ble_eq_true rfl)) iX6_placeOf rfl rfl rfl rfl rfl (Nat.le_refl _) rfl rfl (Eq.refl 17) ?_
  refine Tr.iret dX6_bestPlace_17 rfl (by first | rfl | exact bI_nar _) ?_ ?_
  · rfl
  · rfl
def pbF (T : Tst) (p : Nat) : Nat → (Nat → Nat)
  | 0 => pT T
  | i + 1 => upN (pbF T p i) (p * 4 + i) (bpl T i)
set_option maxHeartbeats 4000000 in
set_option maxRecDepth 100000 in
theorem c_planBest (E : EnvT) (ad : Nat → Nat) (T : Tst) (p : Nat) (hV : Vok (vT T)) (hp : p < npV (vT T)) : Md E mX6_planBest ad [.ref (ad 0), .int (nI p)] (trC E ad 0 T) none (trC E ad 0 (uP T (pbF T p 4))) := by
  have v2 := hV.2.1
  refine Md.of 1 (by decide) rfl rfl ?_
  refine Tr.iconst (v := nI 0) dX6_planBest_0 (icN 0) (Eq.refl 1) ?_
  refine Tr.istore_n (i := 2) dX6_planBest_1 rfl rfl rfl (Eq.refl 2) ?_
  refine Tr.mask [true, true, true] (lv' := [some (.ref (ad 0)), some (.int (nI p)), some (.int (nI 0))]) rfl ?_
  refine Tr.pic (w' := trC E ad 0 (uP T (pbF T p 0))) rfl ?_
  refine loopD (P := fun i => Tr _ 0 0 2 [some (.ref (ad 0)), some (.int (nI p)), some (.int (nI i))] [] (trC E ad 0 (uP T (pbF T p i)))) 4 ?_ (fun i hi ih => ?_)
  · refine Tr.iload_n (i := 2) dX6_planBest_2 rfl rfl (Eq.refl 3) ?_
    refine Tr.iconst (v := nI 4) dX6_planBest_3 (icN 4) (Eq.refl 4) ?_
    refine Tr.icmp_geN (tgt := 31) dX6_planBest_4 (by decide) (Eq.refl 7) (by omega) (by omega) (fun h4 => ?_) (fun h4 => ?_)
    · refine Tr.ret dX6_planBest_31 rfl rfl ?_
      · rfl
    · exact absurd h4 (by omega)
  · refine Tr.iload_n (i := 2) dX6_planBest_2 rfl rfl (Eq.refl 3) ?_
    refine Tr.iconst (v := nI 4) dX6_planBest_3 (icN 4) (Eq.refl 4) ?_
    refine Tr.icmp_geN (tgt := 31) dX6_planBest_4 (by decide) (Eq.refl 7) (by omega) (by omega) (fun h4 => ?_) (fun h4 => ?_)
    · exact absurd h4 (by omega)
    · refine Tr.aload_n (i := 0) dX6_planBest_7 rfl rfl (Eq.refl 8) ?_
      refine Tr.getf dX6_planBest_8 fX6_21 rfl rfl (Eq.refl 11) ?_
      refine Tr.getf dX6_planBest_11 fX6_139 rfl rfl (Eq.refl 14) ?_
      refine Tr.iload_n (i := 1) dX6_planBest_14 rfl rfl (Eq.refl 15) ?_
      refine Tr.iconst (v := nI 4) dX6_planBest_15 (icN 4) (Eq.refl 16) ?_
      refine Tr.imulN dX6_planBest_16 (Eq.refl 17) ?_
      refine Tr.iload_n (i := 2) dX6_planBest_17 rfl rfl (Eq.refl 18) ?_
      refine Tr.iaddN dX6_planBest_18 (Eq.refl 19) ?_
      refine Tr.aload_n (i := 0) dX6_planBest_19 rfl rfl (Eq.refl 20) ?_
      refine Tr.iload_n (i := 2) dX6_planBest_20 rfl rfl (Eq.refl 21) ?_
      refine Tr.callVs (c_bestPlace E ad (uP T (pbF T p i)) i hV hi) dX6_planBest_21 (kX6_142 (Nat.le_of_ble_eq_true rfl)) iX6_bestPlace rfl rfl rfl rfl rfl (Nat.le_refl _) rfl rfl (Eq.refl 24) ?_
      refine Tr.iastN dX6_planBest_24 rfl (by omega) (by decide) (Eq.refl 25) ?_
      refine Tr.iincN dX6_planBest_25 rfl rfl rfl (Eq.refl 28) ?_
      refine Tr.goto (pc' := 2) dX6_planBest_28 (by decide) ?_
      refine Tr.eqs rfl rfl ?_ ih
      show _ = trC E ad 0 (uP T (upN (pbF T p i) (p * 4 + i) (bpl T i)))
      obtain ⟨V, X, P, L, O, S, W, ch, mo, z, G, K, bs, br, rg, lr, D⟩ := T
      show _ = trX E ad 0 V X (upN (pbF (V, X, P, L, O, S, W, ch, mo, z, G, K, bs, br, rg, lr, D) p i) (p * 4 + i) (bpl (V, X, P, L, O, S, W, ch, mo, z, G, K, bs, br, rg, lr, D) i)) L O S W ch mo z G K bs br rg lr (D 0) (D 1) (D 2) (D 3) (D 4)
      unfold trX wyC
      rw [cl_upN]
      rfl
