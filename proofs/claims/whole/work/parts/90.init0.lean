/-! THE CONSTRUCTORS -/
def zS : Scn := (0, fun _ => 0, fun _ => 0, fun _ => 0, fun _ => 0, fun _ => 0, fun _ => 0)
def zV : Vil := (0, 0, false, fun _ => 0, fun _ => 0, fun _ => 0, fun _ => 0, fun _ => 0, fun _ => 0)
def zX : Vix := (0, 0, 0, fun _ => 0, fun _ => 0, fun _ => 0, fun _ => 0)
def z0T : Tst := (zV, zX, (fun _ => 0), (fun _ => 0), zS, zS, (fun _ => 0), (fun _ => 0), (fun _ => 0), 0, (fun _ => 0), (fun _ => 0), 0, 0, 0, 0, fun _ => zS)
def zQ : Crs := (zS, (fun _ => 0), (fun _ => 0), 1, false, (fun _ => 0))
def zB : Bki := (0, (fun _ => 0), (fun _ => 0), (fun _ => 0))
theorem clX9_32 : Cond.classLink RX9 32 RX1 ∈ tbW := tbW_mem (List.mem_of_getElem? (i := 298) (by decide +kernel)) rfl
theorem clX6_25 : Cond.classLink RX6 25 RX3 ∈ tbW := tbW_mem (List.mem_of_getElem? (i := 396) (by decide +kernel)) rfl
set_option maxHeartbeats 4000000 in
set_option maxRecDepth 100000 in
theorem i_scene (E : EnvT) (ad : Nat → Nat) : Md E mX3_init ad [.ref (ad 0)] [.inr (3, [.int 0, .null, .null, .null, .null, .null, .null])] none (scC E ad 0 zS) := by
  refine Md.of 0 (by decide) rfl rfl ?_
  refine Tr.aload_n (i := 0) dX3_init_0 rfl rfl (Eq.refl 1) ?_
  refine Tr.objInit dX3_init_1 ob_X3 ob_i ob_c rfl rfl (Eq.refl 4) ?_
  refine Tr.aload_n (i := 0) dX3_init_4 rfl rfl (Eq.refl 5) ?_
  refine Tr.iconst (v := nI 5) dX3_init_5 (icN 5) (Eq.refl 6) ?_
  refine Tr.newI (kb' := 5) (nb' := 25) dX3_init_6 ac_int (by decide) rfl rfl (Eq.refl 8) ?_
  refine Tr.putF dX3_init_8 pX3_9 rfl rfl (rfl) (rfl) rfl (Eq.refl 11) ?_
  refine Tr.aload_n (i := 0) dX3_init_11 rfl rfl (Eq.refl 12) ?_
  refine Tr.iconst (v := nI 5) dX3_init_12 (icN 5) (Eq.refl 13) ?_
  refine Tr.newI (kb' := 4) (nb' := 20) dX3_init_13 ac_int (by decide) rfl rfl (Eq.refl 15) ?_
  refine Tr.putF dX3_init_15 pX3_15 rfl rfl (rfl) (rfl) rfl (Eq.refl 18) ?_
  refine Tr.aload_n (i := 0) dX3_init_18 rfl rfl (Eq.refl 19) ?_
  refine Tr.iconst (v := nI 5) dX3_init_19 (icN 5) (Eq.refl 20) ?_
  refine Tr.newI (kb' := 3) (nb' := 15) dX3_init_20 ac_int (by decide) rfl rfl (Eq.refl 22) ?_
  refine Tr.putF dX3_init_22 pX3_18 rfl rfl (rfl) (rfl) rfl (Eq.refl 25) ?_
  refine Tr.aload_n (i := 0) dX3_init_25 rfl rfl (Eq.refl 26) ?_
  refine Tr.iconst (v := nI 5) dX3_init_26 (icN 5) (Eq.refl 27) ?_
  refine Tr.newI (kb' := 2) (nb' := 10) dX3_init_27 ac_int (by decide) rfl rfl (Eq.refl 29) ?_
  refine Tr.putF dX3_init_29 pX3_21 rfl rfl (rfl) (rfl) rfl (Eq.refl 32) ?_
  refine Tr.aload_n (i := 0) dX3_init_32 rfl rfl (Eq.refl 33) ?_
  refine Tr.iconst (v := nI 5) dX3_init_33 (icN 5) (Eq.refl 34) ?_
  refine Tr.newI (kb' := 1) (nb' := 5) dX3_init_34 ac_int (by decide) rfl rfl (Eq.refl 36) ?_
  refine Tr.putF dX3_init_36 pX3_24 rfl rfl (rfl) (rfl) rfl (Eq.refl 39) ?_
  refine Tr.aload_n (i := 0) dX3_init_39 rfl rfl (Eq.refl 40) ?_
  refine Tr.iconst (v := nI 5) dX3_init_40 (icN 5) (Eq.refl 41) ?_
  refine Tr.newI (kb' := 0) (nb' := 0) dX3_init_41 ac_int (by decide) rfl rfl (Eq.refl 43) ?_
  refine Tr.putF dX3_init_43 pX3_27 rfl rfl (rfl) (rfl) rfl (Eq.refl 46) ?_
  refine Tr.ret dX3_init_46 rfl rfl ?_
  · rfl
set_option maxHeartbeats 4000000 in
set_option maxRecDepth 100000 in
theorem i_village (E : EnvT) (ad : Nat → Nat) : Md E mX7_init ad [.ref (ad 0)] [.inr (7, [.int 0, .int 0, .int 0, .int 0, .int 0, .int 0, .null, .null, .null, .null, .null, .null, .null, .null, .null, .null])] none (viC E ad 0 zV zX) := by
  refine Md.of 0 (by decide) rfl rfl ?_
  refine Tr.aload_n (i := 0) dX7_init_0 rfl rfl (Eq.refl 1) ?_
  refine Tr.objInit dX7_init_1 ob_X7 ob_i ob_c rfl rfl (Eq.refl 4) ?_
  refine Tr.aload_n (i := 0) dX7_init_4 rfl rfl (Eq.refl 5) ?_
  refine Tr.bipush (v := nI 6) dX7_init_5 (by decide +kernel) (Eq.refl 7) ?_
  refine Tr.newI (kb' := 9) (nb' := 65) dX7_init_7 ac_int (by decide) rfl rfl (Eq.refl 9) ?_
  refine Tr.putF dX7_init_9 pX7_9 rfl rfl (rfl) (rfl) rfl (Eq.refl 12) ?_
  refine Tr.aload_n (i := 0) dX7_init_12 rfl rfl (Eq.refl 13) ?_
  refine Tr.iconst (v := nI 5) dX7_init_13 (icN 5) (Eq.refl 14) ?_
  refine Tr.newJ (kb' := 8) (nb' := 60) dX7_init_14 ac_long (by decide) rfl rfl (Eq.refl 16) ?_
  refine Tr.putF dX7_init_16 pX7_15 rfl rfl (rfl) (rfl) rfl (Eq.refl 19) ?_
  refine Tr.aload_n (i := 0) dX7_init_19 rfl rfl (Eq.refl 20) ?_
  refine Tr.iconst (v := nI 5) dX7_init_20 (icN 5) (Eq.refl 21) ?_
  refine Tr.newI (kb' := 7) (nb' := 55) dX7_init_21 ac_int (by decide) rfl rfl (Eq.refl 23) ?_
  refine Tr.putF dX7_init_23 pX7_19 rfl rfl (rfl) (rfl) rfl (Eq.refl 26) ?_
  refine Tr.aload_n (i := 0) dX7_init_26 rfl rfl (Eq.refl 27) ?_
  refine Tr.iconst (v := nI 5) dX7_init_27 (icN 5) (Eq.refl 28) ?_
  refine Tr.newI (kb' := 6) (nb' := 50) dX7_init_28 ac_int (by decide) rfl rfl (Eq.refl 30) ?_
  refine Tr.putF dX7_init_30 pX7_22 rfl rfl (rfl) (rfl) rfl (Eq.refl 33) ?_
  refine Tr.aload_n (i := 0) dX7_init_33 rfl rfl (Eq.refl 34) ?_
  refine Tr.iconst (v := nI 5) dX7_init_34 (icN 5) (Eq.refl 35) ?_
  refine Tr.newI (kb' := 5) (nb' := 45) dX7_init_35 ac_int (by decide) rfl rfl (Eq.refl 37) ?_
  refine Tr.putF dX7_init_37 pX7_25 rfl rfl (rfl) (rfl) rfl (Eq.refl 40) ?_
  refine Tr.aload_n (i := 0) dX7_init_40 rfl rfl (Eq.refl 41) ?_
  refine Tr.iconst (v := nI 5) dX7_init_41 (icN 5) (Eq.refl 42) ?_
  refine Tr.newI (kb' := 4) (nb' := 40) dX7_init_42 ac_int (by decide) rfl rfl (Eq.refl 44) ?_
  refine Tr.putF dX7_init_44 pX7_28 rfl rfl (rfl) (rfl) rfl (Eq.refl 47) ?_
  refine Tr.aload_n (i := 0) dX7_init_47 rfl rfl (Eq.refl 48) ?_
  refine Tr.iconst (v := nI 5) dX7_init_48 (icN 5) (Eq.refl 49) ?_
  refine Tr.newJ (kb' := 3) (nb' := 35) dX7_init_49 ac_long (by decide) rfl rfl (Eq.refl 51) ?_
  refine Tr.putF dX7_init_51 pX7_31 rfl rfl (rfl) (rfl) rfl (Eq.refl 54) ?_
  refine Tr.aload_n (i := 0) dX7_init_54 rfl rfl (Eq.refl 55) ?_
  refine Tr.iconst (v := nI 5) dX7_init_55 (icN 5) (Eq.refl 56) ?_
  refine Tr.newI (kb' := 2) (nb' := 30) dX7_init_56 ac_int (by decide) rfl rfl (Eq.refl 58) ?_
  refine Tr.putF dX7_init_58 pX7_34 rfl rfl (rfl) (rfl) rfl (Eq.refl 61) ?_
  refine Tr.aload_n (i := 0) dX7_init_61 rfl rfl (Eq.refl 62) ?_
  refine Tr.iconst (v := nI 5) dX7_init_62 (icN 5) (Eq.refl 63) ?_
  refine Tr.newI (kb' := 1) (nb' := 25) dX7_init_63 ac_int (by decide) rfl rfl (Eq.refl 65) ?_
  refine Tr.putF dX7_init_65 pX7_37 rfl rfl (rfl) (rfl) rfl (Eq.refl 68) ?_
  refine Tr.aload_n (i := 0) dX7_init_68 rfl rfl (Eq.refl 69) ?_
  refine Tr.bipush (v := nI 25) dX7_init_69 (by decide +kernel) (Eq.refl 71) ?_
  refine Tr.newI (kb' := 0) (nb' := 0) dX7_init_71 ac_int (by decide) rfl rfl (Eq.refl 73) ?_
  refine Tr.putF dX7_init_73 pX7_40 rfl rfl (rfl) (rfl) rfl (Eq.refl 76) ?_
  refine Tr.ret dX7_init_76 rfl rfl ?_
  · rfl
set_option maxHeartbeats 4000000 in
set_option maxRecDepth 100000 in
theorem i_ways (E : EnvT) (ad : Nat → Nat) : Md E mX8_init ad [.ref (ad 0)] [.inr (8, [.null, .null])] none (wyC E ad 0 (fun _ => 0) (fun _ => 0)) := by
  refine Md.of 0 (by decide) rfl rfl ?_
  refine Tr.aload_n (i := 0) dX8_init_0 rfl rfl (Eq.refl 1) ?_
  refine Tr.objInit dX8_init_1 ob_X8 ob_i ob_c rfl rfl (Eq.refl 4) ?_
  refine Tr.aload_n (i := 0) dX8_init_4 rfl rfl (Eq.refl 5) ?_
  refine Tr.bipush (v := nI 20) dX8_init_5 (by decide +kernel) (Eq.refl 7) ?_
  refine Tr.newI (kb' := 1) (nb' := 5) dX8_init_7 ac_int (by decide) rfl rfl (Eq.refl 9) ?_
  refine Tr.putF dX8_init_9 pX8_9 rfl rfl (rfl) (rfl) rfl (Eq.refl 12) ?_
  refine Tr.aload_n (i := 0) dX8_init_12 rfl rfl (Eq.refl 13) ?_
  refine Tr.iconst (v := nI 5) dX8_init_13 (icN 5) (Eq.refl 14) ?_
  refine Tr.newI (kb' := 0) (nb' := 0) dX8_init_14 ac_int (by decide) rfl rfl (Eq.refl 16) ?_
  refine Tr.putF dX8_init_16 pX8_15 rfl rfl (rfl) (rfl) rfl (Eq.refl 19) ?_
  refine Tr.ret dX8_init_19 rfl rfl ?_
  · rfl
set_option maxHeartbeats 4000000 in
set_option maxRecDepth 100000 in
theorem i_choices (E : EnvT) (ad : Nat → Nat) : Md E mX0_init ad [.ref (ad 0)] [.inr (0, [.null, .null, .int 0])] none (chC E ad 0 (fun _ => 0) (fun _ => 0) 0) := by
  refine Md.of 0 (by decide) rfl rfl ?_
  refine Tr.aload_n (i := 0) dX0_init_0 rfl rfl (Eq.refl 1) ?_
  refine Tr.objInit dX0_init_1 ob_X0 ob_i ob_c rfl rfl (Eq.refl 4) ?_
  refine Tr.aload_n (i := 0) dX0_init_4 rfl rfl (Eq.refl 5) ?_
  refine Tr.iconst (v := nI 5) dX0_init_5 (icN 5) (Eq.refl 6) ?_
  refine Tr.newI (kb' := 1) (nb' := 5) dX0_init_6 ac_int (by decide) rfl rfl (Eq.refl 8) ?_
  refine Tr.putF dX0_init_8 pX0_9 rfl rfl (rfl) (rfl) rfl (Eq.refl 11) ?_
  refine Tr.aload_n (i := 0) dX0_init_11 rfl rfl (Eq.refl 12) ?_
  refine Tr.iconst (v := nI 5) dX0_init_12 (icN 5) (Eq.refl 13) ?_
  refine Tr.newI (kb' := 0) (nb' := 0) dX0_init_13 ac_int (by decide) rfl rfl (Eq.refl 15) ?_
  refine Tr.putF dX0_init_15 pX0_15 rfl rfl (rfl) (rfl) rfl (Eq.refl 18) ?_
  refine Tr.ret dX0_init_18 rfl rfl ?_
  · rfl
set_option maxHeartbeats 4000000 in
set_option maxRecDepth 100000 in
theorem i_tape (E : EnvT) (ad : Nat → Nat) : Md E mX4_init ad [.ref (ad 0)] [.inr (4, [.null, .int 0, .int 0, .int 0, .int 0, .int 0, .long 0])] none (tpC E ad 0 0 (0, 0, 0, 0) 0 (fun _ => 0)) := by
  refine Md.of 0 (by decide) rfl rfl ?_
  refine Tr.aload_n (i := 0) dX4_init_0 rfl rfl (Eq.refl 1) ?_
  refine Tr.objInit dX4_init_1 ob_X4 ob_i ob_c rfl rfl (Eq.refl 4) ?_
  refine Tr.aload_n (i := 0) dX4_init_4 rfl rfl (Eq.refl 5) ?_
  refine Tr.sipush (v := nI 900) dX4_init_5 (by decide +kernel) (Eq.refl 8) ?_
  refine Tr.newI (kb' := 0) (nb' := 0) dX4_init_8 ac_int (by decide) rfl rfl (Eq.refl 10) ?_
  refine Tr.putF dX4_init_10 pX4_11 rfl rfl (rfl) (rfl) rfl (Eq.refl 13) ?_
  refine Tr.ret dX4_init_13 rfl rfl ?_
  · rfl
set_option maxHeartbeats 4000000 in
set_option maxRecDepth 100000 in
theorem i_course (E : EnvT) (ad : Nat → Nat) : Md E mX1_init ad [.ref (ad 0)] [.inr (1, [.null, .null, .int 0, .int 0, .null])] none (coQ E ad 0 zQ) := by
  refine Md.of 0 (by decide) rfl rfl ?_
  refine Tr.aload_n (i := 0) dX1_init_0 rfl rfl (Eq.refl 1) ?_
  refine Tr.objInit dX1_init_1 ob_X1 ob_i ob_c rfl rfl (Eq.refl 4) ?_
  refine Tr.aload_n (i := 0) dX1_init_4 rfl rfl (Eq.refl 5) ?_
  refine Tr.new (kb' := 10) (nb' := 62) dX1_init_5 nX1_9 rfl rfl (Eq.refl 8) ?_
  refine Tr.dup dX1_init_8 rfl (Eq.refl 9) ?_
  refine Tr.callN (kb' := 4) (nb' := 32) (L := [1]) (i_scene E _) dX1_init_9 (kX1_11 (Nat.le_of_ble_eq_true rfl)) iX3_init rfl rfl rfl rfl rfl rfl rfl rfl rfl rfl (Eq.refl 12) ?_
  refine Tr.pic (w' := ([.inr (1, [.null, .null, .int 0, .int 0, .null])] ++ scC E ad 1 zS)) rfl ?_
  refine Tr.putF dX1_init_12 pX1_12 rfl rfl (rfl) (rfl) rfl (Eq.refl 15) ?_
  refine Tr.pic (w' := ([.inr (1, [.ref (ad 1), .null, .int 0, .int 0, .null])] ++ scC E ad 1 zS)) rfl ?_
  refine Tr.aload_n (i := 0) dX1_init_15 rfl rfl (Eq.refl 16) ?_
  refine Tr.new (kb' := 3) (nb' := 30) dX1_init_16 nX1_18 rfl rfl (Eq.refl 19) ?_
  refine Tr.dup dX1_init_19 rfl (Eq.refl 20) ?_
  refine Tr.callN (kb' := 1) (nb' := 5) (L := [8]) (i_ways E _) dX1_init_20 (kX1_20 (Nat.le_of_ble_eq_true rfl)) iX8_init rfl rfl rfl rfl rfl rfl rfl rfl rfl rfl (Eq.refl 23) ?_
  refine Tr.pic (w' := ([.inr (1, [.ref (ad 1), .null, .int 0, .int 0, .null])] ++ (scC E ad 1 zS ++ wyC E ad 8 (fun _ => 0) (fun _ => 0)))) rfl ?_
  refine Tr.putF dX1_init_23 pX1_21 rfl rfl (rfl) (rfl) rfl (Eq.refl 26) ?_
  refine Tr.pic (w' := ([.inr (1, [.ref (ad 1), .ref (ad 8), .int 0, .int 0, .null])] ++ (scC E ad 1 zS ++ wyC E ad 8 (fun _ => 0) (fun _ => 0)))) rfl ?_
  refine Tr.aload_n (i := 0) dX1_init_26 rfl rfl (Eq.refl 27) ?_
  refine Tr.iconst (v := nI 1) dX1_init_27 (icN 1) (Eq.refl 28) ?_
  refine Tr.putf dX1_init_28 pX1_25 rfl (rfl) (rfl) rfl (Eq.refl 31) ?_
  refine Tr.pic (w' := ([.inr (1, [.ref (ad 1), .ref (ad 8), .int (nI 1), .int 0, .null])] ++ (scC E ad 1 zS ++ wyC E ad 8 (fun _ => 0) (fun _ => 0)))) rfl ?_
  refine Tr.aload_n (i := 0) dX1_init_31 rfl rfl (Eq.refl 32) ?_
  refine Tr.iconst (v := nI 5) dX1_init_32 (icN 5) (Eq.refl 33) ?_
  refine Tr.newI (kb' := 0) (nb' := 0) dX1_init_33 ac_int (by decide) rfl rfl (Eq.refl 35) ?_
  refine Tr.putF dX1_init_35 pX1_29 rfl rfl (rfl) (rfl) rfl (Eq.refl 38) ?_
  refine Tr.pic (w' := ([.inr (1, [.ref (ad 1), .ref (ad 8), .int (nI 1), .int 0, .ref (ad 11)])] ++ (scC E ad 1 zS ++ (wyC E ad 8 (fun _ => 0) (fun _ => 0) ++ [aI E 5 (fun _ => 0)])))) rfl ?_
  refine Tr.ret dX1_init_38 rfl rfl ?_
  · rfl
set_option maxHeartbeats 4000000 in
set_option maxRecDepth 100000 in
theorem i_ledger (E : EnvT) (ad : Nat → Nat) : Md E mX2_init ad [.ref (ad 0)] [.inr (2, [.null, .null, .null, .int 0, .null, .null])] none (ldC E ad 0 zB zS (fun _ => 0)) := by
  refine Md.of 0 (by decide) rfl rfl ?_
  refine Tr.aload_n (i := 0) dX2_init_0 rfl rfl (Eq.refl 1) ?_
  refine Tr.objInit dX2_init_1 ob_X2 ob_i ob_c rfl rfl (Eq.refl 4) ?_
  refine Tr.aload_n (i := 0) dX2_init_4 rfl rfl (Eq.refl 5) ?_
  refine Tr.sipush (v := nI 150) dX2_init_5 (by decide +kernel) (Eq.refl 8) ?_
  refine Tr.newI (kb' := 10) (nb' := 342) dX2_init_8 ac_int (by decide) rfl rfl (Eq.refl 10) ?_
  refine Tr.putF dX2_init_10 pX2_11 rfl rfl (rfl) (rfl) rfl (Eq.refl 13) ?_
  refine Tr.pic (w' := ([.inr (2, [.ref (ad 1), .null, .null, .int 0, .null, .null])] ++ [aI E 150 (fun _ => 0)])) rfl ?_
  refine Tr.aload_n (i := 0) dX2_init_13 rfl rfl (Eq.refl 14) ?_
  refine Tr.sipush (v := nI 150) dX2_init_14 (by decide +kernel) (Eq.refl 17) ?_
  refine Tr.newI (kb' := 9) (nb' := 192) dX2_init_17 ac_int (by decide) rfl rfl (Eq.refl 19) ?_
  refine Tr.putF dX2_init_19 pX2_15 rfl rfl (rfl) (rfl) rfl (Eq.refl 22) ?_
  refine Tr.pic (w' := ([.inr (2, [.ref (ad 1), .ref (ad 2), .null, .int 0, .null, .null])] ++ ([aI E 150 (fun _ => 0)] ++ [aI E 150 (fun _ => 0)]))) rfl ?_
  refine Tr.aload_n (i := 0) dX2_init_22 rfl rfl (Eq.refl 23) ?_
  refine Tr.sipush (v := nI 150) dX2_init_23 (by decide +kernel) (Eq.refl 26) ?_
  refine Tr.newI (kb' := 8) (nb' := 42) dX2_init_26 ac_int (by decide) rfl rfl (Eq.refl 28) ?_
  refine Tr.putF dX2_init_28 pX2_18 rfl rfl (rfl) (rfl) rfl (Eq.refl 31) ?_
  refine Tr.pic (w' := ([.inr (2, [.ref (ad 1), .ref (ad 2), .ref (ad 3), .int 0, .null, .null])] ++ ([aI E 150 (fun _ => 0)] ++ ([aI E 150 (fun _ => 0)] ++ [aI E 150 (fun _ => 0)])))) rfl ?_
  refine Tr.aload_n (i := 0) dX2_init_31 rfl rfl (Eq.refl 32) ?_
  refine Tr.new (kb' := 7) (nb' := 35) dX2_init_32 nX2_21 rfl rfl (Eq.refl 35) ?_
  refine Tr.dup dX2_init_35 rfl (Eq.refl 36) ?_
  refine Tr.callN (kb' := 1) (nb' := 5) (L := [4]) (i_scene E _) dX2_init_36 (kX2_23 (Nat.le_of_ble_eq_true rfl)) iX3_init rfl rfl rfl rfl rfl rfl rfl rfl rfl rfl (Eq.refl 39) ?_
  refine Tr.pic (w' := ([.inr (2, [.ref (ad 1), .ref (ad 2), .ref (ad 3), .int 0, .null, .null])] ++ ([aI E 150 (fun _ => 0)] ++ ([aI E 150 (fun _ => 0)] ++ ([aI E 150 (fun _ => 0)] ++ scC E ad 4 zS))))) rfl ?_
  refine Tr.putF dX2_init_39 pX2_24 rfl rfl (rfl) (rfl) rfl (Eq.refl 42) ?_
  refine Tr.pic (w' := ([.inr (2, [.ref (ad 1), .ref (ad 2), .ref (ad 3), .int 0, .ref (ad 4), .null])] ++ ([aI E 150 (fun _ => 0)] ++ ([aI E 150 (fun _ => 0)] ++ ([aI E 150 (fun _ => 0)] ++ scC E ad 4 zS))))) rfl ?_
  refine Tr.aload_n (i := 0) dX2_init_42 rfl rfl (Eq.refl 43) ?_
  refine Tr.iconst (v := nI 5) dX2_init_43 (icN 5) (Eq.refl 44) ?_
  refine Tr.newI (kb' := 0) (nb' := 0) dX2_init_44 ac_int (by decide) rfl rfl (Eq.refl 46) ?_
  refine Tr.putF dX2_init_46 pX2_28 rfl rfl (rfl) (rfl) rfl (Eq.refl 49) ?_
  refine Tr.pic (w' := ([.inr (2, [.ref (ad 1), .ref (ad 2), .ref (ad 3), .int 0, .ref (ad 4), .ref (ad 11)])] ++ ([aI E 150 (fun _ => 0)] ++ ([aI E 150 (fun _ => 0)] ++ ([aI E 150 (fun _ => 0)] ++ (scC E ad 4 zS ++ [aI E 5 (fun _ => 0)])))))) rfl ?_
  refine Tr.ret dX2_init_49 rfl rfl ?_
  · rfl
set_option maxHeartbeats 4000000 in
set_option maxRecDepth 100000 in
theorem i_teller (E : EnvT) (ad : Nat → Nat) (tp : Nat) : Md E mX5_init ad [.ref (ad 0), .ref tp] [.inr (5, [.null, .null, .int 0, .int 0])] none (.inr (5, [.ref tp, .ref (ad 1), .int 0, .int (-1)]) :: viC E ad 1 zV zX) := by
  refine Md.of 0 (by decide) rfl rfl ?_
  refine Tr.aload_n (i := 0) dX5_init_0 rfl rfl (Eq.refl 1) ?_
  refine Tr.objInit dX5_init_1 ob_X5 ob_i ob_c rfl rfl (Eq.refl 4) ?_
  refine Tr.aload_n (i := 0) dX5_init_4 rfl rfl (Eq.refl 5) ?_
  refine Tr.new (kb' := 10) (nb' := 71) dX5_init_5 nX5_9 rfl rfl (Eq.refl 8) ?_
  refine Tr.dup dX5_init_8 rfl (Eq.refl 9) ?_
  refine Tr.callN (kb' := 0) (nb' := 0) (L := [1]) (i_village E _) dX5_init_9 (kX5_11 (Nat.le_of_ble_eq_true rfl)) iX7_init rfl rfl rfl rfl rfl rfl rfl rfl rfl rfl (Eq.refl 12) ?_
  refine Tr.pic (w' := ([.inr (5, [.null, .null, .int 0, .int 0])] ++ viC E ad 1 zV zX)) rfl ?_
  refine Tr.putf dX5_init_12 pX5_12 rfl (rfl) (rfl) rfl (Eq.refl 15) ?_
  refine Tr.pic (w' := ([.inr (5, [.null, .ref (ad 1), .int 0, .int 0])] ++ viC E ad 1 zV zX)) rfl ?_
  refine Tr.aload_n (i := 0) dX5_init_15 rfl rfl (Eq.refl 16) ?_
  refine Tr.iconst (v := (-1)) dX5_init_16 (by decide +kernel) (Eq.refl 17) ?_
  refine Tr.putf dX5_init_17 pX5_18 rfl (rfl) (rfl) rfl (Eq.refl 20) ?_
  refine Tr.pic (w' := ([.inr (5, [.null, .ref (ad 1), .int 0, .int (-1)])] ++ viC E ad 1 zV zX)) rfl ?_
  refine Tr.aload_n (i := 0) dX5_init_20 rfl rfl (Eq.refl 21) ?_
  refine Tr.aload_n (i := 1) dX5_init_21 rfl rfl (Eq.refl 22) ?_
  refine Tr.putF dX5_init_22 pX5_22 rfl rfl (rfl) (rfl) rfl (Eq.refl 25) ?_
  refine Tr.pic (w' := ([.inr (5, [.ref tp, .ref (ad 1), .int 0, .int (-1)])] ++ viC E ad 1 zV zX)) rfl ?_
  refine Tr.ret dX5_init_25 rfl rfl ?_
  · rfl
