/-! Small methods of Village, Scene, Ways, Course -/
theorem acX7_66 : ACt RX7 66 := tbW_mem (List.mem_of_getElem? (i := 497) (by decide +kernel)) rfl
theorem acX3_41 : ACt RX3 41 := tbW_mem (List.mem_of_getElem? (i := 869) (by decide +kernel)) rfl
theorem acX8_27 : ACt RX8 27 := tbW_mem (List.mem_of_getElem? (i := 874) (by decide +kernel)) rfl
theorem bI_fit (b : Bool) : fits .boolean (.int (bI b)) = true := by cases b <;> rfl
theorem lN_and31 (b : Nat) (h : b < 2 ^ 63) : lN b &&& 2147483647 = lN (b % 2147483648) := by
  apply Int64.toBitVec_inj.mp
  show BitVec.ofNat 64 b &&& BitVec.ofNat 64 2147483647 = BitVec.ofNat 64 (b % 2147483648)
  apply BitVec.eq_of_toNat_eq
  rw [BitVec.toNat_and, BitVec.toNat_ofNat, BitVec.toNat_ofNat, BitVec.toNat_ofNat, Nat.mod_eq_of_lt (show b < 2 ^ 64 by omega), Nat.mod_eq_of_lt (show b % 2147483648 < 2 ^ 64 by omega)]
  exact Nat.and_two_pow_sub_one_eq_mod b 31
/-- does p work in the quarter behind t -/
def wkB (V : Vil) (p t : Nat) : Bool := bt (wkV V p) (t % 4)
theorem and3 {t : Nat} (h : t < 2 ^ 31) : nI t &&& nI 3 = nI (t % 4) := pk_andN (by omega) 2 (by decide)
/-- the first i of g, the rest of f -/
def pre {α : Type} (g f : Nat → α) (i : Nat) : Nat → α := fun k => if k < i then g k else f k
theorem pre_s (g f : Nat → Int32) (i : Nat) : upd (pre g f i) i (g i) = pre g f (i + 1) := by
  funext k
  by_cases h : k = i
  · subst h; simp [upd, pre]
  · simp only [upd, pre, if_neg h]
    by_cases h2 : k < i
    · rw [if_pos h2, if_pos (show k < i + 1 by omega)]
    · rw [if_neg h2, if_neg (show ¬ k < i + 1 by omega)]
theorem pre_0 {α : Type} (g f : Nat → α) : pre g f 0 = f := by funext k; simp [pre]
theorem pre_n {α : Type} {g f : Nat → α} {n k : Nat} (h : k < n) : pre g f n k = g k := if_pos h
set_option maxHeartbeats 4000000 in
set_option maxRecDepth 100000 in
theorem c_mustWork (E : EnvT) (ad : Nat → Nat) (V : Vil) (X : Vix) (p t : Nat) (hV : Vok V) (hp : p < npV V) (ht : t < 2 ^ 31) : Md E mX7_mustWork ad [.ref (ad 0), .int (nI p), .int (nI t)] (viC E ad 0 V X) (some (.int (bI (wkB V p t)))) (viC E ad 0 V X) := by
  have v2 := hV.2.1
  refine Md.of 0 (by decide) rfl rfl ?_
  refine Tr.aload_n (i := 0) dX7_mustWork_0 rfl rfl (Eq.refl 1) ?_
  refine Tr.getf dX7_mustWork_1 fX7_37 rfl rfl (Eq.refl 4) ?_
  refine Tr.iload_n (i := 1) dX7_mustWork_4 rfl rfl (Eq.refl 5) ?_
  refine Tr.ialdN dX7_mustWork_5 rfl (by omega) (by decide) (Eq.refl 6) ?_
  refine Tr.iload_n (i := 2) dX7_mustWork_6 rfl rfl (Eq.refl 7) ?_
  refine Tr.iconst (v := nI 3) dX7_mustWork_7 (icN 3) (Eq.refl 8) ?_
  refine Tr.iand dX7_mustWork_8 (Eq.refl 9) ?_
  rw [and3 ht]
  refine Tr.ishr dX7_mustWork_9 (Eq.refl 10) ?_
  refine Tr.iconst (v := nI 1) dX7_mustWork_10 (icN 1) (Eq.refl 11) ?_
  refine Tr.iand dX7_mustWork_11 (Eq.refl 12) ?_
  refine Tr.iconst (v := nI 1) dX7_mustWork_12 (icN 1) (Eq.refl 13) ?_
  refine Tr.icmp_ne (tgt := 20) dX7_mustWork_13 (by decide) (Eq.refl 16) (fun h13 => ?_) (fun h13 => ?_)
  · rw [show wkB V p t = false from by simp [wkB, bt, h13]]
    refine Tr.iconst (v := nI 0) dX7_mustWork_20 (icN 0) (Eq.refl 21) ?_
    refine Tr.iret dX7_mustWork_21 rfl (by first | rfl | exact bI_nar _) ?_ ?_
    · rfl
    · rfl
  · rw [show wkB V p t = true from by simp [wkB, bt, h13]]
    refine Tr.iconst (v := nI 1) dX7_mustWork_16 (icN 1) (Eq.refl 17) ?_
    refine Tr.goto (pc' := 21) dX7_mustWork_17 (by decide) ?_
    refine Tr.iret dX7_mustWork_21 rfl (by first | rfl | exact bI_nar _) ?_ ?_
    · rfl
    · rfl
set_option maxHeartbeats 4000000 in
set_option maxRecDepth 100000 in
theorem c_scCopy (E : EnvT) (ad : Nat → Nat) (S S' : Scn) : Md E mX3_copyFrom ad [.ref (ad 0), .ref (ad 7)] (scC E ad 0 S ++ scC E ad 7 S') none (scC E ad 0 S' ++ scC E ad 7 S') := by
  refine Md.of 0 (by decide) rfl rfl ?_
  refine Tr.aload_n (i := 0) dX3_copyFrom_0 rfl rfl (Eq.refl 1) ?_
  refine Tr.aload_n (i := 1) dX3_copyFrom_1 rfl rfl (Eq.refl 2) ?_
  refine Tr.getf dX3_copyFrom_2 fX3_30 rfl rfl (Eq.refl 5) ?_
  refine Tr.putf dX3_copyFrom_5 pX3_30 rfl (rfl) (rfl) rfl (Eq.refl 8) ?_
  refine Tr.aload_n (i := 1) dX3_copyFrom_8 rfl rfl (Eq.refl 9) ?_
  refine Tr.getf dX3_copyFrom_9 fX3_9 rfl rfl (Eq.refl 12) ?_
  refine Tr.iconst (v := nI 0) dX3_copyFrom_12 (icN 0) (Eq.refl 13) ?_
  refine Tr.aload_n (i := 0) dX3_copyFrom_13 rfl rfl (Eq.refl 14) ?_
  refine Tr.getf dX3_copyFrom_14 fX3_9 rfl rfl (Eq.refl 17) ?_
  refine Tr.iconst (v := nI 0) dX3_copyFrom_17 (icN 0) (Eq.refl 18) ?_
  refine Tr.iconst (v := nI 5) dX3_copyFrom_18 (icN 5) (Eq.refl 19) ?_
  refine Tr.copyI dX3_copyFrom_19 acX3_41 rfl rfl rfl rfl (by decide) (by decide) ⟨by decide, by decide⟩ (Eq.refl 22) ?_
  refine Tr.fn (q := 1) (fun k => cl (whS S' k)) rfl (fun k hk => cpy_all hk) ?_
  refine Tr.aload_n (i := 1) dX3_copyFrom_22 rfl rfl (Eq.refl 23) ?_
  refine Tr.getf dX3_copyFrom_23 fX3_15 rfl rfl (Eq.refl 26) ?_
  refine Tr.iconst (v := nI 0) dX3_copyFrom_26 (icN 0) (Eq.refl 27) ?_
  refine Tr.aload_n (i := 0) dX3_copyFrom_27 rfl rfl (Eq.refl 28) ?_
  refine Tr.getf dX3_copyFrom_28 fX3_15 rfl rfl (Eq.refl 31) ?_
  refine Tr.iconst (v := nI 0) dX3_copyFrom_31 (icN 0) (Eq.refl 32) ?_
  refine Tr.iconst (v := nI 5) dX3_copyFrom_32 (icN 5) (Eq.refl 33) ?_
  refine Tr.copyI dX3_copyFrom_33 acX3_41 rfl rfl rfl rfl (by decide) (by decide) ⟨by decide, by decide⟩ (Eq.refl 36) ?_
  refine Tr.fn (q := 2) (sdS S') rfl (fun k hk => cpy_all hk) ?_
  refine Tr.aload_n (i := 1) dX3_copyFrom_36 rfl rfl (Eq.refl 37) ?_
  refine Tr.getf dX3_copyFrom_37 fX3_18 rfl rfl (Eq.refl 40) ?_
  refine Tr.iconst (v := nI 0) dX3_copyFrom_40 (icN 0) (Eq.refl 41) ?_
  refine Tr.aload_n (i := 0) dX3_copyFrom_41 rfl rfl (Eq.refl 42) ?_
  refine Tr.getf dX3_copyFrom_42 fX3_18 rfl rfl (Eq.refl 45) ?_
  refine Tr.iconst (v := nI 0) dX3_copyFrom_45 (icN 0) (Eq.refl 46) ?_
  refine Tr.iconst (v := nI 5) dX3_copyFrom_46 (icN 5) (Eq.refl 47) ?_
  refine Tr.copyI dX3_copyFrom_47 acX3_41 rfl rfl rfl rfl (by decide) (by decide) ⟨by decide, by decide⟩ (Eq.refl 50) ?_
  refine Tr.fn (q := 3) (ltS S') rfl (fun k hk => cpy_all hk) ?_
  refine Tr.aload_n (i := 1) dX3_copyFrom_50 rfl rfl (Eq.refl 51) ?_
  refine Tr.getf dX3_copyFrom_51 fX3_21 rfl rfl (Eq.refl 54) ?_
  refine Tr.iconst (v := nI 0) dX3_copyFrom_54 (icN 0) (Eq.refl 55) ?_
  refine Tr.aload_n (i := 0) dX3_copyFrom_55 rfl rfl (Eq.refl 56) ?_
  refine Tr.getf dX3_copyFrom_56 fX3_21 rfl rfl (Eq.refl 59) ?_
  refine Tr.iconst (v := nI 0) dX3_copyFrom_59 (icN 0) (Eq.refl 60) ?_
  refine Tr.iconst (v := nI 5) dX3_copyFrom_60 (icN 5) (Eq.refl 61) ?_
  refine Tr.copyI dX3_copyFrom_61 acX3_41 rfl rfl rfl rfl (by decide) (by decide) ⟨by decide, by decide⟩ (Eq.refl 64) ?_
  refine Tr.fn (q := 4) (alS S') rfl (fun k hk => cpy_all hk) ?_
  refine Tr.aload_n (i := 1) dX3_copyFrom_64 rfl rfl (Eq.refl 65) ?_
  refine Tr.getf dX3_copyFrom_65 fX3_24 rfl rfl (Eq.refl 68) ?_
  refine Tr.iconst (v := nI 0) dX3_copyFrom_68 (icN 0) (Eq.refl 69) ?_
  refine Tr.aload_n (i := 0) dX3_copyFrom_69 rfl rfl (Eq.refl 70) ?_
  refine Tr.getf dX3_copyFrom_70 fX3_24 rfl rfl (Eq.refl 73) ?_
  refine Tr.iconst (v := nI 0) dX3_copyFrom_73 (icN 0) (Eq.refl 74) ?_
  refine Tr.iconst (v := nI 5) dX3_copyFrom_74 (icN 5) (Eq.refl 75) ?_
  refine Tr.copyI dX3_copyFrom_75 acX3_41 rfl rfl rfl rfl (by decide) (by decide) ⟨by decide, by decide⟩ (Eq.refl 78) ?_
  refine Tr.fn (q := 5) (soS S') rfl (fun k hk => cpy_all hk) ?_
  refine Tr.aload_n (i := 1) dX3_copyFrom_78 rfl rfl (Eq.refl 79) ?_
  refine Tr.getf dX3_copyFrom_79 fX3_27 rfl rfl (Eq.refl 82) ?_
  refine Tr.iconst (v := nI 0) dX3_copyFrom_82 (icN 0) (Eq.refl 83) ?_
  refine Tr.aload_n (i := 0) dX3_copyFrom_83 rfl rfl (Eq.refl 84) ?_
  refine Tr.getf dX3_copyFrom_84 fX3_27 rfl rfl (Eq.refl 87) ?_
  refine Tr.iconst (v := nI 0) dX3_copyFrom_87 (icN 0) (Eq.refl 88) ?_
  refine Tr.iconst (v := nI 5) dX3_copyFrom_88 (icN 5) (Eq.refl 89) ?_
  refine Tr.copyI dX3_copyFrom_89 acX3_41 rfl rfl rfl rfl (by decide) (by decide) ⟨by decide, by decide⟩ (Eq.refl 92) ?_
  refine Tr.fn (q := 6) (stS S') rfl (fun k hk => cpy_all hk) ?_
  refine Tr.ret dX3_copyFrom_92 rfl rfl ?_
  · rfl
set_option maxHeartbeats 4000000 in
set_option maxRecDepth 100000 in
theorem c_viCopy (E : EnvT) (ad : Nat → Nat) (V V' : Vil) (X X' : Vix) : Md E mX7_copyFrom ad [.ref (ad 0), .ref (ad 11)] (viC E ad 0 V X ++ viC E ad 11 V' X') none (viC E ad 0 V' X ++ viC E ad 11 V' X') := by
  refine Md.of 0 (by decide) rfl rfl ?_
  refine Tr.aload_n (i := 0) dX7_copyFrom_0 rfl rfl (Eq.refl 1) ?_
  refine Tr.aload_n (i := 1) dX7_copyFrom_1 rfl rfl (Eq.refl 2) ?_
  refine Tr.getf dX7_copyFrom_2 fX7_47 rfl rfl (Eq.refl 5) ?_
  refine Tr.putf dX7_copyFrom_5 pX7_47 rfl (rfl) (rfl) rfl (Eq.refl 8) ?_
  refine Tr.aload_n (i := 0) dX7_copyFrom_8 rfl rfl (Eq.refl 9) ?_
  refine Tr.aload_n (i := 1) dX7_copyFrom_9 rfl rfl (Eq.refl 10) ?_
  refine Tr.getf dX7_copyFrom_10 fX7_50 rfl rfl (Eq.refl 13) ?_
  refine Tr.putf dX7_copyFrom_13 pX7_50 rfl (rfl) (rfl) rfl (Eq.refl 16) ?_
  refine Tr.aload_n (i := 0) dX7_copyFrom_16 rfl rfl (Eq.refl 17) ?_
  refine Tr.aload_n (i := 1) dX7_copyFrom_17 rfl rfl (Eq.refl 18) ?_
  refine Tr.getf dX7_copyFrom_18 fX7_53 rfl rfl (Eq.refl 21) ?_
  refine Tr.putf dX7_copyFrom_21 pX7_53 rfl (bI_nar _) (bI_fit _) rfl (Eq.refl 24) ?_
  refine Tr.aload_n (i := 1) dX7_copyFrom_24 rfl rfl (Eq.refl 25) ?_
  refine Tr.getf dX7_copyFrom_25 fX7_9 rfl rfl (Eq.refl 28) ?_
  refine Tr.iconst (v := nI 0) dX7_copyFrom_28 (icN 0) (Eq.refl 29) ?_
  refine Tr.aload_n (i := 0) dX7_copyFrom_29 rfl rfl (Eq.refl 30) ?_
  refine Tr.getf dX7_copyFrom_30 fX7_9 rfl rfl (Eq.refl 33) ?_
  refine Tr.iconst (v := nI 0) dX7_copyFrom_33 (icN 0) (Eq.refl 34) ?_
  refine Tr.bipush (v := nI 6) dX7_copyFrom_34 (by decide +kernel) (Eq.refl 36) ?_
  refine Tr.copyI dX7_copyFrom_36 acX7_66 rfl rfl rfl rfl (by decide) (by decide) ⟨by decide, by decide⟩ (Eq.refl 39) ?_
  refine Tr.fn (q := 1) (ruV V') rfl (fun k hk => cpy_all hk) ?_
  refine Tr.aload_n (i := 1) dX7_copyFrom_39 rfl rfl (Eq.refl 40) ?_
  refine Tr.getf dX7_copyFrom_40 fX7_22 rfl rfl (Eq.refl 43) ?_
  refine Tr.iconst (v := nI 0) dX7_copyFrom_43 (icN 0) (Eq.refl 44) ?_
  refine Tr.aload_n (i := 0) dX7_copyFrom_44 rfl rfl (Eq.refl 45) ?_
  refine Tr.getf dX7_copyFrom_45 fX7_22 rfl rfl (Eq.refl 48) ?_
  refine Tr.iconst (v := nI 0) dX7_copyFrom_48 (icN 0) (Eq.refl 49) ?_
  refine Tr.iconst (v := nI 5) dX7_copyFrom_49 (icN 5) (Eq.refl 50) ?_
  refine Tr.copyI dX7_copyFrom_50 acX7_66 rfl rfl rfl rfl (by decide) (by decide) ⟨by decide, by decide⟩ (Eq.refl 53) ?_
  refine Tr.fn (q := 4) (woV V') rfl (fun k hk => cpy_all hk) ?_
  refine Tr.aload_n (i := 1) dX7_copyFrom_53 rfl rfl (Eq.refl 54) ?_
  refine Tr.getf dX7_copyFrom_54 fX7_28 rfl rfl (Eq.refl 57) ?_
  refine Tr.iconst (v := nI 0) dX7_copyFrom_57 (icN 0) (Eq.refl 58) ?_
  refine Tr.aload_n (i := 0) dX7_copyFrom_58 rfl rfl (Eq.refl 59) ?_
  refine Tr.getf dX7_copyFrom_59 fX7_28 rfl rfl (Eq.refl 62) ?_
  refine Tr.iconst (v := nI 0) dX7_copyFrom_62 (icN 0) (Eq.refl 63) ?_
  refine Tr.iconst (v := nI 5) dX7_copyFrom_63 (icN 5) (Eq.refl 64) ?_
  refine Tr.copyI dX7_copyFrom_64 acX7_66 rfl rfl rfl rfl (by decide) (by decide) ⟨by decide, by decide⟩ (Eq.refl 67) ?_
  refine Tr.fn (q := 6) (fun k => cl (owV V' k)) rfl (fun k hk => cpy_all hk) ?_
  refine Tr.aload_n (i := 1) dX7_copyFrom_67 rfl rfl (Eq.refl 68) ?_
  refine Tr.getf dX7_copyFrom_68 fX7_34 rfl rfl (Eq.refl 71) ?_
  refine Tr.iconst (v := nI 0) dX7_copyFrom_71 (icN 0) (Eq.refl 72) ?_
  refine Tr.aload_n (i := 0) dX7_copyFrom_72 rfl rfl (Eq.refl 73) ?_
  refine Tr.getf dX7_copyFrom_73 fX7_34 rfl rfl (Eq.refl 76) ?_
  refine Tr.iconst (v := nI 0) dX7_copyFrom_76 (icN 0) (Eq.refl 77) ?_
  refine Tr.iconst (v := nI 5) dX7_copyFrom_77 (icN 5) (Eq.refl 78) ?_
  refine Tr.copyI dX7_copyFrom_78 acX7_66 rfl rfl rfl rfl (by decide) (by decide) ⟨by decide, by decide⟩ (Eq.refl 81) ?_
  refine Tr.fn (q := 8) (fun k => cl (hoV V' k)) rfl (fun k hk => cpy_all hk) ?_
  refine Tr.aload_n (i := 1) dX7_copyFrom_81 rfl rfl (Eq.refl 82) ?_
  refine Tr.getf dX7_copyFrom_82 fX7_37 rfl rfl (Eq.refl 85) ?_
  refine Tr.iconst (v := nI 0) dX7_copyFrom_85 (icN 0) (Eq.refl 86) ?_
  refine Tr.aload_n (i := 0) dX7_copyFrom_86 rfl rfl (Eq.refl 87) ?_
  refine Tr.getf dX7_copyFrom_87 fX7_37 rfl rfl (Eq.refl 90) ?_
  refine Tr.iconst (v := nI 0) dX7_copyFrom_90 (icN 0) (Eq.refl 91) ?_
  refine Tr.iconst (v := nI 5) dX7_copyFrom_91 (icN 5) (Eq.refl 92) ?_
  refine Tr.copyI dX7_copyFrom_92 acX7_66 rfl rfl rfl rfl (by decide) (by decide) ⟨by decide, by decide⟩ (Eq.refl 95) ?_
  refine Tr.fn (q := 9) (wkV V') rfl (fun k hk => cpy_all hk) ?_
  refine Tr.aload_n (i := 1) dX7_copyFrom_95 rfl rfl (Eq.refl 96) ?_
  refine Tr.getf dX7_copyFrom_96 fX7_40 rfl rfl (Eq.refl 99) ?_
  refine Tr.iconst (v := nI 0) dX7_copyFrom_99 (icN 0) (Eq.refl 100) ?_
  refine Tr.aload_n (i := 0) dX7_copyFrom_100 rfl rfl (Eq.refl 101) ?_
  refine Tr.getf dX7_copyFrom_101 fX7_40 rfl rfl (Eq.refl 104) ?_
  refine Tr.iconst (v := nI 0) dX7_copyFrom_104 (icN 0) (Eq.refl 105) ?_
  refine Tr.bipush (v := nI 25) dX7_copyFrom_105 (by decide +kernel) (Eq.refl 107) ?_
  refine Tr.copyI dX7_copyFrom_107 acX7_66 rfl rfl rfl rfl (by decide) (by decide) ⟨by decide, by decide⟩ (Eq.refl 110) ?_
  refine Tr.fn (q := 10) (tiV V') rfl (fun k hk => cpy_all hk) ?_
  refine Tr.ret dX7_copyFrom_110 rfl rfl ?_
  · rfl
/-- plans by codes, lets -/
def wyC (E : EnvT) (ad : Nat → Nat) (b : Nat) (P : Nat → Nat) (L : Nat → Int32) : List va_E := [.inr (8, [.ref (ad (b + 1)), .ref (ad (b + 2))]), aI E 20 (fun k => cl (P k)), aI E 5 L]
set_option maxHeartbeats 4000000 in
set_option maxRecDepth 100000 in
theorem c_wyCopy (E : EnvT) (ad : Nat → Nat) (P P' : Nat → Nat) (L L' : Nat → Int32) : Md E mX8_copyFrom ad [.ref (ad 0), .ref (ad 3)] (wyC E ad 0 P L ++ wyC E ad 3 P' L') none (wyC E ad 0 P' L' ++ wyC E ad 3 P' L') := by
  refine Md.of 0 (by decide) rfl rfl ?_
  refine Tr.aload_n (i := 1) dX8_copyFrom_0 rfl rfl (Eq.refl 1) ?_
  refine Tr.getf dX8_copyFrom_1 fX8_9 rfl rfl (Eq.refl 4) ?_
  refine Tr.iconst (v := nI 0) dX8_copyFrom_4 (icN 0) (Eq.refl 5) ?_
  refine Tr.aload_n (i := 0) dX8_copyFrom_5 rfl rfl (Eq.refl 6) ?_
  refine Tr.getf dX8_copyFrom_6 fX8_9 rfl rfl (Eq.refl 9) ?_
  refine Tr.iconst (v := nI 0) dX8_copyFrom_9 (icN 0) (Eq.refl 10) ?_
  refine Tr.bipush (v := nI 20) dX8_copyFrom_10 (by decide +kernel) (Eq.refl 12) ?_
  refine Tr.copyI dX8_copyFrom_12 acX8_27 rfl rfl rfl rfl (by decide) (by decide) ⟨by decide, by decide⟩ (Eq.refl 15) ?_
  refine Tr.fn (q := 1) (fun k => cl (P' k)) rfl (fun k hk => cpy_all hk) ?_
  refine Tr.aload_n (i := 1) dX8_copyFrom_15 rfl rfl (Eq.refl 16) ?_
  refine Tr.getf dX8_copyFrom_16 fX8_15 rfl rfl (Eq.refl 19) ?_
  refine Tr.iconst (v := nI 0) dX8_copyFrom_19 (icN 0) (Eq.refl 20) ?_
  refine Tr.aload_n (i := 0) dX8_copyFrom_20 rfl rfl (Eq.refl 21) ?_
  refine Tr.getf dX8_copyFrom_21 fX8_15 rfl rfl (Eq.refl 24) ?_
  refine Tr.iconst (v := nI 0) dX8_copyFrom_24 (icN 0) (Eq.refl 25) ?_
  refine Tr.iconst (v := nI 5) dX8_copyFrom_25 (icN 5) (Eq.refl 26) ?_
  refine Tr.copyI dX8_copyFrom_26 acX8_27 rfl rfl rfl rfl (by decide) (by decide) ⟨by decide, by decide⟩ (Eq.refl 29) ?_
  refine Tr.fn (q := 2) L' rfl (fun k hk => cpy_all hk) ?_
  refine Tr.ret dX8_copyFrom_29 rfl rfl ?_
  · rfl
/-- the plan of p is c in the first so many quarters -/
def plE (P : Nat → Nat) (p c : Nat) : Nat → (Nat → Nat)
  | 0 => P
  | i + 1 => upN (plE P p c i) (p * 4 + i) c
set_option maxHeartbeats 4000000 in
set_option maxRecDepth 100000 in
theorem c_planEach (E : EnvT) (ad : Nat → Nat) (P : Nat → Nat) (L : Nat → Int32) (p c : Nat) (hp : p < 5) : Md E mX8_planEach ad [.ref (ad 0), .int (nI p), .int (cl c)] (wyC E ad 0 P L) none (wyC E ad 0 (plE P p c 4) L) := by
  refine Md.of 1 (by decide) rfl rfl ?_
  refine Tr.iconst (v := nI 0) dX8_planEach_0 (icN 0) (Eq.refl 1) ?_
  refine Tr.istore_n (i := 3) dX8_planEach_1 rfl rfl rfl (Eq.refl 2) ?_
  refine Tr.mask [true, true, true, true] (lv' := [some (.ref (ad 0)), some (.int (nI p)), some (.int (cl c)), some (.int (nI 0))]) rfl ?_
  refine loopD (P := fun i => Tr _ 0 0 2 [some (.ref (ad 0)), some (.int (nI p)), some (.int (cl c)), some (.int (nI i))] [] (wyC E ad 0 (plE P p c i) L)) 4 ?_ (fun i hi ih => ?_)
  · refine Tr.iload_n (i := 3) dX8_planEach_2 rfl rfl (Eq.refl 3) ?_
    refine Tr.iconst (v := nI 4) dX8_planEach_3 (icN 4) (Eq.refl 4) ?_
    refine Tr.icmp_geN (tgt := 24) dX8_planEach_4 (by decide) (Eq.refl 7) (by omega) (by omega) (fun h4 => ?_) (fun h4 => ?_)
    · refine Tr.ret dX8_planEach_24 rfl rfl ?_
      · rfl
    · exact absurd h4 (by omega)
  · refine Tr.iload_n (i := 3) dX8_planEach_2 rfl rfl (Eq.refl 3) ?_
    refine Tr.iconst (v := nI 4) dX8_planEach_3 (icN 4) (Eq.refl 4) ?_
    refine Tr.icmp_geN (tgt := 24) dX8_planEach_4 (by decide) (Eq.refl 7) (by omega) (by omega) (fun h4 => ?_) (fun h4 => ?_)
    · exact absurd h4 (by omega)
    · refine Tr.aload_n (i := 0) dX8_planEach_7 rfl rfl (Eq.refl 8) ?_
      refine Tr.getf dX8_planEach_8 fX8_9 rfl rfl (Eq.refl 11) ?_
      refine Tr.iload_n (i := 1) dX8_planEach_11 rfl rfl (Eq.refl 12) ?_
      refine Tr.iconst (v := nI 4) dX8_planEach_12 (icN 4) (Eq.refl 13) ?_
      refine Tr.imulN dX8_planEach_13 (Eq.refl 14) ?_
      refine Tr.iload_n (i := 3) dX8_planEach_14 rfl rfl (Eq.refl 15) ?_
      refine Tr.iaddN dX8_planEach_15 (Eq.refl 16) ?_
      refine Tr.iload_n (i := 2) dX8_planEach_16 rfl rfl (Eq.refl 17) ?_
      refine Tr.iastN dX8_planEach_17 rfl (by omega) (by decide) (Eq.refl 18) ?_
      refine Tr.iincN dX8_planEach_18 rfl rfl rfl (Eq.refl 21) ?_
      refine Tr.goto (pc' := 2) dX8_planEach_21 (by decide) ?_
      refine Tr.eqs rfl rfl ?_ ih
      show _ = wyC E ad 0 (upN (plE P p c i) (p * 4 + i) c) L
      rw [← cl_upN]
      rfl
/-- wishes filled for the first so many -/
def fwF (V : Vil) (P : Nat → Nat) (t : Nat) (W : Nat → Nat) : Nat → (Nat → Nat)
  | 0 => W
  | p + 1 => upN (fwF V P t W p) p (if wkB V p t then 5 else P (p * 4 + t % 4))
set_option maxHeartbeats 4000000 in
set_option maxRecDepth 100000 in
theorem c_fillWishes (E : EnvT) (ad : Nat → Nat) (P : Nat → Nat) (L : Nat → Int32) (V : Vil) (X : Vix) (t : Nat) (W : Nat → Nat) (hV : Vok V) (ht : t < 2 ^ 31) : Md E mX8_fillWishes ad [.ref (ad 0), .ref (ad 3), .int (nI t), .ref (ad 14)] (wyC E ad 0 P L ++ (viC E ad 3 V X ++ [aI E 5 (fun k => cl (W k))])) none (wyC E ad 0 P L ++ (viC E ad 3 V X ++ [aI E 5 (fun k => cl (fwF V P t W (npV V) k))])) := by
  have v2 := hV.2.1
  refine Md.of 1 (by decide) rfl rfl ?_
  refine Tr.iconst (v := nI 0) dX8_fillWishes_0 (icN 0) (Eq.refl 1) ?_
  refine Tr.istore dX8_fillWishes_1 rfl rfl (Eq.refl 3) ?_
  refine Tr.mask [true, true, true, true, true] (lv' := [some (.ref (ad 0)), some (.ref (ad 3)), some (.int (nI t)), some (.ref (ad 14)), some (.int (nI 0))]) rfl ?_
  refine loopD (P := fun i => Tr _ 0 0 3 [some (.ref (ad 0)), some (.ref (ad 3)), some (.int (nI t)), some (.ref (ad 14)), some (.int (nI i))] [] (wyC E ad 0 P L ++ (viC E ad 3 V X ++ [aI E 5 (fun k => cl (fwF V P t W i k))]))) (npV V) ?_ (fun i hi ih => ?_)
  · refine Tr.iload dX8_fillWishes_3 rfl (Eq.refl 5) ?_
    refine Tr.aload_n (i := 1) dX8_fillWishes_5 rfl rfl (Eq.refl 6) ?_
    refine Tr.getf dX8_fillWishes_6 fX8_33 rfl rfl (Eq.refl 9) ?_
    refine Tr.icmp_geN (tgt := 49) dX8_fillWishes_9 (by decide) (Eq.refl 12) (by omega) (by omega) (fun h9 => ?_) (fun h9 => ?_)
    · refine Tr.ret dX8_fillWishes_49 rfl rfl ?_
      · rfl
    · exact absurd h9 (by omega)
  · refine Tr.iload dX8_fillWishes_3 rfl (Eq.refl 5) ?_
    refine Tr.aload_n (i := 1) dX8_fillWishes_5 rfl rfl (Eq.refl 6) ?_
    refine Tr.getf dX8_fillWishes_6 fX8_33 rfl rfl (Eq.refl 9) ?_
    refine Tr.icmp_geN (tgt := 49) dX8_fillWishes_9 (by decide) (Eq.refl 12) (by omega) (by omega) (fun h9 => ?_) (fun h9 => ?_)
    · exact absurd h9 (by omega)
    · refine Tr.aload_n (i := 3) dX8_fillWishes_12 rfl rfl (Eq.refl 13) ?_
      refine Tr.iload dX8_fillWishes_13 rfl (Eq.refl 15) ?_
      refine Tr.aload_n (i := 1) dX8_fillWishes_15 rfl rfl (Eq.refl 16) ?_
      refine Tr.iload dX8_fillWishes_16 rfl (Eq.refl 18) ?_
      refine Tr.iload_n (i := 2) dX8_fillWishes_18 rfl rfl (Eq.refl 19) ?_
      refine Tr.callVr (L := [3, 4, 5, 6, 7, 8, 9, 10, 11, 12, 13]) (c_mustWork E _ V X i t hV hi ht) dX8_fillWishes_19 (kX8_37 (Nat.le_of_ble_eq_true rfl)) iX7_mustWork rfl rfl rfl rfl rfl rfl rfl rfl rfl (Eq.refl 22) ?_
      refine Tr.if_eqB (tgt := 29) dX8_fillWishes_22 (by decide) (Eq.refl 25) (fun h22 => ?_) (fun h22 => ?_)
      · have hx : (if wkB V i t then 5 else P (i * 4 + t % 4)) = P (i * 4 + t % 4) := by rw [h22]; rfl
        refine Tr.aload_n (i := 0) dX8_fillWishes_29 rfl rfl (Eq.refl 30) ?_
        refine Tr.getf dX8_fillWishes_30 fX8_9 rfl rfl (Eq.refl 33) ?_
        refine Tr.iload dX8_fillWishes_33 rfl (Eq.refl 35) ?_
        refine Tr.iconst (v := nI 4) dX8_fillWishes_35 (icN 4) (Eq.refl 36) ?_
        refine Tr.imulN dX8_fillWishes_36 (Eq.refl 37) ?_
        refine Tr.iload_n (i := 2) dX8_fillWishes_37 rfl rfl (Eq.refl 38) ?_
        refine Tr.iconst (v := nI 3) dX8_fillWishes_38 (icN 3) (Eq.refl 39) ?_
        refine Tr.iand dX8_fillWishes_39 (Eq.refl 40) ?_
        rw [and3 ht]
        refine Tr.iaddN dX8_fillWishes_40 (Eq.refl 41) ?_
        refine Tr.ialdN dX8_fillWishes_41 rfl (by omega) (by decide) (Eq.refl 42) ?_
        refine Tr.iastN dX8_fillWishes_42 rfl (by omega) (by decide) (Eq.refl 43) ?_
        refine Tr.iincN dX8_fillWishes_43 rfl rfl rfl (Eq.refl 46) ?_
        refine Tr.goto (pc' := 3) dX8_fillWishes_46 (by decide) ?_
        refine Tr.eqs rfl rfl ?_ ih
        show _ = wyC E ad 0 P L ++ (viC E ad 3 V X ++ [aI E 5 (fun k => cl (upN (fwF V P t W i) i (if wkB V i t then 5 else P (i * 4 + t % 4)) k))])
        rw [hx, cl_upN]
        rfl
      · have hx : (if wkB V i t then 5 else P (i * 4 + t % 4)) = 5 := by rw [h22]; rfl
        refine Tr.iconst (v := (-1)) dX8_fillWishes_25 (by decide +kernel) (Eq.refl 26) ?_
        refine Tr.goto (pc' := 42) dX8_fillWishes_26 (by decide) ?_
        refine Tr.iastN dX8_fillWishes_42 rfl (by omega) (by decide) (Eq.refl 43) ?_
        refine Tr.iincN dX8_fillWishes_43 rfl rfl rfl (Eq.refl 46) ?_
        refine Tr.goto (pc' := 3) dX8_fillWishes_46 (by decide) ?_
        refine Tr.eqs rfl rfl ?_ ih
        show _ = wyC E ad 0 P L ++ (viC E ad 3 V X ++ [aI E 5 (fun k => cl (upN (fwF V P t W i) i (if wkB V i t then 5 else P (i * 4 + t % 4)) k))])
        rw [hx, cl_upN]
        rfl
/-- a scene at the beginning -/
def sBeg (V : Vil) (X : Vix) : Scn := (0, hoV V, fun _ => nI 0, fun _ => nI 0, fun _ => nI 0, X.2.2.2.2.1, X.2.2.2.2.2.1)
set_option maxHeartbeats 4000000 in
set_option maxRecDepth 100000 in
theorem c_scBegin (E : EnvT) (ad : Nat → Nat) (S : Scn) (V : Vil) (X : Vix) : Md E mX3_begin ad [.ref (ad 0), .ref (ad 7)] (scC E ad 0 S ++ viC E ad 7 V X) none (scC E ad 0 (sBeg V X) ++ viC E ad 7 V X) := by
  refine Md.of 1 (by decide) rfl rfl ?_
  refine Tr.aload_n (i := 0) dX3_begin_0 rfl rfl (Eq.refl 1) ?_
  refine Tr.iconst (v := nI 0) dX3_begin_1 (icN 0) (Eq.refl 2) ?_
  refine Tr.putf dX3_begin_2 pX3_30 rfl (rfl) (rfl) rfl (Eq.refl 5) ?_
  refine Tr.iconst (v := nI 0) dX3_begin_5 (icN 0) (Eq.refl 6) ?_
  refine Tr.istore_n (i := 2) dX3_begin_6 rfl rfl rfl (Eq.refl 7) ?_
  refine Tr.mask [true, true, true] (lv' := [some (.ref (ad 0)), some (.ref (ad 7)), some (.int (nI 0))]) rfl ?_
  refine Tr.pic (w' := scC E ad 0 (0, pre (hoV V) (whS S) 0, pre (fun _ => nI 0) (sdS S) 0, pre (fun _ => nI 0) (ltS S) 0, pre (fun _ => nI 0) (alS S) 0, pre X.2.2.2.2.1 (soS S) 0, pre X.2.2.2.2.2.1 (stS S) 0) ++ viC E ad 7 V X) (by simp only [pre_0]; rfl) ?_
  refine loopD (P := fun i => Tr _ 0 0 7 [some (.ref (ad 0)), some (.ref (ad 7)), some (.int (nI i))] [] (scC E ad 0 (0, pre (hoV V) (whS S) i, pre (fun _ => nI 0) (sdS S) i, pre (fun _ => nI 0) (ltS S) i, pre (fun _ => nI 0) (alS S) i, pre X.2.2.2.2.1 (soS S) i, pre X.2.2.2.2.2.1 (stS S) i) ++ viC E ad 7 V X)) 5 ?_ (fun i hi ih => ?_)
  · refine Tr.fn (q := 1) (fun k => cl (hoV V k)) rfl (fun k hk => by show cl (pre _ _ _ _) = _; rw [pre_n hk]) ?_
    refine Tr.fn (q := 2) (fun _ => nI 0) rfl (fun k hk => pre_n (g := fun _ => nI 0) hk) ?_
    refine Tr.fn (q := 3) (fun _ => nI 0) rfl (fun k hk => pre_n (g := fun _ => nI 0) hk) ?_
    refine Tr.fn (q := 4) (fun _ => nI 0) rfl (fun k hk => pre_n (g := fun _ => nI 0) hk) ?_
    refine Tr.fn (q := 5) X.2.2.2.2.1 rfl (fun k hk => pre_n hk) ?_
    refine Tr.fn (q := 6) X.2.2.2.2.2.1 rfl (fun k hk => pre_n hk) ?_
    refine Tr.iload_n (i := 2) dX3_begin_7 rfl rfl (Eq.refl 8) ?_
    refine Tr.iconst (v := nI 5) dX3_begin_8 (icN 5) (Eq.refl 9) ?_
    refine Tr.icmp_geN (tgt := 75) dX3_begin_9 (by decide) (Eq.refl 12) (by omega) (by omega) (fun h9 => ?_) (fun h9 => ?_)
    · refine Tr.ret dX3_begin_75 rfl rfl ?_
      · rfl
    · exact absurd h9 (by omega)
  · refine Tr.iload_n (i := 2) dX3_begin_7 rfl rfl (Eq.refl 8) ?_
    refine Tr.iconst (v := nI 5) dX3_begin_8 (icN 5) (Eq.refl 9) ?_
    refine Tr.icmp_geN (tgt := 75) dX3_begin_9 (by decide) (Eq.refl 12) (by omega) (by omega) (fun h9 => ?_) (fun h9 => ?_)
    · exact absurd h9 (by omega)
    · refine Tr.aload_n (i := 0) dX3_begin_12 rfl rfl (Eq.refl 13) ?_
      refine Tr.getf dX3_begin_13 fX3_9 rfl rfl (Eq.refl 16) ?_
      refine Tr.iload_n (i := 2) dX3_begin_16 rfl rfl (Eq.refl 17) ?_
      refine Tr.aload_n (i := 1) dX3_begin_17 rfl rfl (Eq.refl 18) ?_
      refine Tr.getf dX3_begin_18 fX3_34 rfl rfl (Eq.refl 21) ?_
      refine Tr.iload_n (i := 2) dX3_begin_21 rfl rfl (Eq.refl 22) ?_
      refine Tr.ialdN dX3_begin_22 rfl (by omega) (by decide) (Eq.refl 23) ?_
      refine Tr.iastN dX3_begin_23 rfl (by omega) (by decide) (Eq.refl 24) ?_
      refine Tr.aload_n (i := 0) dX3_begin_24 rfl rfl (Eq.refl 25) ?_
      refine Tr.getf dX3_begin_25 fX3_15 rfl rfl (Eq.refl 28) ?_
      refine Tr.iload_n (i := 2) dX3_begin_28 rfl rfl (Eq.refl 29) ?_
      refine Tr.iconst (v := nI 0) dX3_begin_29 (icN 0) (Eq.refl 30) ?_
      refine Tr.iastN dX3_begin_30 rfl (by omega) (by decide) (Eq.refl 31) ?_
      refine Tr.aload_n (i := 0) dX3_begin_31 rfl rfl (Eq.refl 32) ?_
      refine Tr.getf dX3_begin_32 fX3_18 rfl rfl (Eq.refl 35) ?_
      refine Tr.iload_n (i := 2) dX3_begin_35 rfl rfl (Eq.refl 36) ?_
      refine Tr.iconst (v := nI 0) dX3_begin_36 (icN 0) (Eq.refl 37) ?_
      refine Tr.iastN dX3_begin_37 rfl (by omega) (by decide) (Eq.refl 38) ?_
      refine Tr.aload_n (i := 0) dX3_begin_38 rfl rfl (Eq.refl 39) ?_
      refine Tr.getf dX3_begin_39 fX3_21 rfl rfl (Eq.refl 42) ?_
      refine Tr.iload_n (i := 2) dX3_begin_42 rfl rfl (Eq.refl 43) ?_
      refine Tr.iconst (v := nI 0) dX3_begin_43 (icN 0) (Eq.refl 44) ?_
      refine Tr.iastN dX3_begin_44 rfl (by omega) (by decide) (Eq.refl 45) ?_
      refine Tr.aload_n (i := 0) dX3_begin_45 rfl rfl (Eq.refl 46) ?_
      refine Tr.getf dX3_begin_46 fX3_24 rfl rfl (Eq.refl 49) ?_
      refine Tr.iload_n (i := 2) dX3_begin_49 rfl rfl (Eq.refl 50) ?_
      refine Tr.aload_n (i := 1) dX3_begin_50 rfl rfl (Eq.refl 51) ?_
      refine Tr.getf dX3_begin_51 fX3_39 rfl rfl (Eq.refl 54) ?_
      refine Tr.iload_n (i := 2) dX3_begin_54 rfl rfl (Eq.refl 55) ?_
      refine Tr.ialdN dX3_begin_55 rfl (by omega) (by decide) (Eq.refl 56) ?_
      refine Tr.iastN dX3_begin_56 rfl (by omega) (by decide) (Eq.refl 57) ?_
      refine Tr.aload_n (i := 0) dX3_begin_57 rfl rfl (Eq.refl 58) ?_
      refine Tr.getf dX3_begin_58 fX3_27 rfl rfl (Eq.refl 61) ?_
      refine Tr.iload_n (i := 2) dX3_begin_61 rfl rfl (Eq.refl 62) ?_
      refine Tr.aload_n (i := 1) dX3_begin_62 rfl rfl (Eq.refl 63) ?_
      refine Tr.getf dX3_begin_63 fX3_40 rfl rfl (Eq.refl 66) ?_
      refine Tr.iload_n (i := 2) dX3_begin_66 rfl rfl (Eq.refl 67) ?_
      refine Tr.ialdN dX3_begin_67 rfl (by omega) (by decide) (Eq.refl 68) ?_
      refine Tr.iastN dX3_begin_68 rfl (by omega) (by decide) (Eq.refl 69) ?_
      refine Tr.iincN dX3_begin_69 rfl rfl rfl (Eq.refl 72) ?_
      refine Tr.goto (pc' := 7) dX3_begin_72 (by decide) ?_
      refine Tr.eqs rfl rfl ?_ ih
      rw [← pre_s (fun _ => nI 0) (sdS S), ← pre_s (fun _ => nI 0) (ltS S), ← pre_s (fun _ => nI 0) (alS S), ← pre_s X.2.2.2.2.1, ← pre_s X.2.2.2.2.2.1]
      have e : (fun k => cl (pre (hoV V) (whS S) (i + 1) k)) = upd (fun k => cl (pre (hoV V) (whS S) i k)) i (cl (hoV V i)) := by
        funext k
        simp only [pre, upd]
        by_cases h : k = i
        · subst h; simp
        · by_cases h2 : k < i
          · simp [h, h2, show k < i + 1 by omega]
          · simp [h, h2, show ¬ k < i + 1 by omega]
      show _ = (.inr (3, [.int (nI 0), .ref (ad (0 + 1)), .ref (ad (0 + 2)), .ref (ad (0 + 3)), .ref (ad (0 + 4)), .ref (ad (0 + 5)), .ref (ad (0 + 6))]) :: aI E 5 (fun k => cl (pre (hoV V) (whS S) (i + 1) k)) :: _ : List va_E)
      rw [e]
      rfl
