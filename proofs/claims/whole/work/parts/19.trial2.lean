/-! Trial: a day, its judge, the best plan's places -/
set_option maxHeartbeats 4000000 in
set_option maxRecDepth 100000 in
theorem c_setOut (E : EnvT) (ad : Nat → Nat) (T : Tst) (V' : Vil) (X' : Vix) (S' : Scn) (P' : Nat → Nat) (L' : Nat → Int32) (a : Nat) (kp : Bool) (W' : Nat → Nat) : Md E mX6_setOut ad [.ref (ad 0), .ref (ad 71), .ref (ad 82)] (trC E ad 0 T ++ (viC E ad 71 V' X' ++ coC E ad 82 S' P' L' a kp W')) none (trC E ad 0 (uO (uL (uP (uV T V') P') L') S') ++ (viC E ad 71 V' X' ++ coC E ad 82 S' P' L' a kp W')) := by
  obtain ⟨V, X, P, L, O, S, W, ch, mo, z, G, K, bs, br, rg, lr, D⟩ := T
  show Md E _ ad _ (trX E ad 0 V X P L O S W ch mo z G K bs br rg lr (D 0) (D 1) (D 2) (D 3) (D 4) ++ _) none (trX E ad 0 V' X P' L' S' S W ch mo z G K bs br rg lr (D 0) (D 1) (D 2) (D 3) (D 4) ++ _)
  refine Md.of 0 (by decide) rfl rfl ?_
  refine Tr.aload_n (i := 0) dX6_setOut_0 rfl rfl (Eq.refl 1) ?_
  refine Tr.getf dX6_setOut_1 fX6_12 rfl rfl (Eq.refl 4) ?_
  refine Tr.aload_n (i := 1) dX6_setOut_4 rfl rfl (Eq.refl 5) ?_
  refine Tr.callV (L := [1, 2, 3, 4, 5, 6, 7, 8, 9, 10, 11, 71, 72, 73, 74, 75, 76, 77, 78, 79, 80, 81]) (c_viCopy E _ V V' X X') dX6_setOut_5 (kX6_57 (Nat.le_of_ble_eq_true rfl)) iX7_copyFrom rfl rfl rfl rfl rfl rfl rfl rfl rfl rfl (Eq.refl 8) ?_
  refine Tr.pic (w' := trX E ad 0 V' X P L O S W ch mo z G K bs br rg lr (D 0) (D 1) (D 2) (D 3) (D 4) ++ (viC E ad 71 V' X' ++ coC E ad 82 S' P' L' a kp W')) (putB_eq (Lc := [0, 12, 13, 14, 15, 16, 17, 18, 19, 20, 21, 22, 23, 24, 25, 26, 27, 28, 29, 30, 31, 32, 33, 34, 35, 36, 37, 38, 39, 40, 41, 42, 43, 44, 45, 46, 47, 48, 49, 50, 51, 52, 53, 54, 55, 56, 57, 58, 59, 60, 61, 62, 63, 64, 65, 66, 67, 68, 69, 70, 82, 83, 84, 85, 86, 87, 88, 89, 90, 91, 92, 93]) 94 rfl rfl rfl rfl ⟨⟨_, rfl, rfl⟩, ⟨_, rfl, rfl⟩, ⟨_, rfl, rfl⟩, ⟨_, rfl, rfl⟩, ⟨_, rfl, rfl⟩, ⟨_, rfl, rfl⟩, ⟨_, rfl, rfl⟩, ⟨_, rfl, rfl⟩, ⟨_, rfl, rfl⟩, ⟨_, rfl, rfl⟩, ⟨_, rfl, rfl⟩, ⟨_, rfl, rfl⟩, ⟨_, rfl, rfl⟩, ⟨_, rfl, rfl⟩, ⟨_, rfl, rfl⟩, ⟨_, rfl, rfl⟩, ⟨_, rfl, rfl⟩, ⟨_, rfl, rfl⟩, ⟨_, rfl, rfl⟩, ⟨_, rfl, rfl⟩, ⟨_, rfl, rfl⟩, ⟨_, rfl, rfl⟩, ⟨_, rfl, rfl⟩, ⟨_, rfl, rfl⟩, ⟨_, rfl, rfl⟩, ⟨_, rfl, rfl⟩, ⟨_, rfl, rfl⟩, ⟨_, rfl, rfl⟩, ⟨_, rfl, rfl⟩, ⟨_, rfl, rfl⟩, ⟨_, rfl, rfl⟩, ⟨_, rfl, rfl⟩, ⟨_, rfl, rfl⟩, ⟨_, rfl, rfl⟩, ⟨_, rfl, rfl⟩, ⟨_, rfl, rfl⟩, ⟨_, rfl, rfl⟩, ⟨_, rfl, rfl⟩, ⟨_, rfl, rfl⟩, ⟨_, rfl, rfl⟩, ⟨_, rfl, rfl⟩, ⟨_, rfl, rfl⟩, ⟨_, rfl, rfl⟩, ⟨_, rfl, rfl⟩, ⟨_, rfl, rfl⟩, ⟨_, rfl, rfl⟩, ⟨_, rfl, rfl⟩, ⟨_, rfl, rfl⟩, ⟨_, rfl, rfl⟩, ⟨_, rfl, rfl⟩, ⟨_, rfl, rfl⟩, ⟨_, rfl, rfl⟩, ⟨_, rfl, rfl⟩, ⟨_, rfl, rfl⟩, ⟨_, rfl, rfl⟩, ⟨_, rfl, rfl⟩, ⟨_, rfl, rfl⟩, ⟨_, rfl, rfl⟩, ⟨_, rfl, rfl⟩, ⟨_, rfl, rfl⟩, ⟨_, rfl, rfl⟩, ⟨_, rfl, rfl⟩, ⟨_, rfl, rfl⟩, ⟨_, rfl, rfl⟩, ⟨_, rfl, rfl⟩, ⟨_, rfl, rfl⟩, ⟨_, rfl, rfl⟩, ⟨_, rfl, rfl⟩, ⟨_, rfl, rfl⟩, ⟨_, rfl, rfl⟩, ⟨_, rfl, rfl⟩, ⟨_, rfl, rfl⟩, trivial⟩ (by decide) rfl) ?_
  refine Tr.aload_n (i := 0) dX6_setOut_8 rfl rfl (Eq.refl 9) ?_
  refine Tr.getf dX6_setOut_9 fX6_21 rfl rfl (Eq.refl 12) ?_
  refine Tr.aload_n (i := 2) dX6_setOut_12 rfl rfl (Eq.refl 13) ?_
  refine Tr.getf dX6_setOut_13 fX6_61 rfl rfl (Eq.refl 16) ?_
  refine Tr.callV (L := [12, 13, 14, 90, 91, 92]) (c_wyCopy E _ P P' L L') dX6_setOut_16 (kX6_64 (Nat.le_of_ble_eq_true rfl)) iX8_copyFrom rfl rfl rfl rfl rfl rfl rfl rfl rfl rfl (Eq.refl 19) ?_
  refine Tr.pic (w' := trX E ad 0 V' X P' L' O S W ch mo z G K bs br rg lr (D 0) (D 1) (D 2) (D 3) (D 4) ++ (viC E ad 71 V' X' ++ coC E ad 82 S' P' L' a kp W')) (putB_eq (Lc := [0, 1, 2, 3, 4, 5, 6, 7, 8, 9, 10, 11, 15, 16, 17, 18, 19, 20, 21, 22, 23, 24, 25, 26, 27, 28, 29, 30, 31, 32, 33, 34, 35, 36, 37, 38, 39, 40, 41, 42, 43, 44, 45, 46, 47, 48, 49, 50, 51, 52, 53, 54, 55, 56, 57, 58, 59, 60, 61, 62, 63, 64, 65, 66, 67, 68, 69, 70, 71, 72, 73, 74, 75, 76, 77, 78, 79, 80, 81, 82, 83, 84, 85, 86, 87, 88, 89, 93]) 94 rfl rfl rfl rfl ⟨⟨_, rfl, rfl⟩, ⟨_, rfl, rfl⟩, ⟨_, rfl, rfl⟩, ⟨_, rfl, rfl⟩, ⟨_, rfl, rfl⟩, ⟨_, rfl, rfl⟩, ⟨_, rfl, rfl⟩, ⟨_, rfl, rfl⟩, ⟨_, rfl, rfl⟩, ⟨_, rfl, rfl⟩, ⟨_, rfl, rfl⟩, ⟨_, rfl, rfl⟩, ⟨_, rfl, rfl⟩, ⟨_, rfl, rfl⟩, ⟨_, rfl, rfl⟩, ⟨_, rfl, rfl⟩, ⟨_, rfl, rfl⟩, ⟨_, rfl, rfl⟩, ⟨_, rfl, rfl⟩, ⟨_, rfl, rfl⟩, ⟨_, rfl, rfl⟩, ⟨_, rfl, rfl⟩, ⟨_, rfl, rfl⟩, ⟨_, rfl, rfl⟩, ⟨_, rfl, rfl⟩, ⟨_, rfl, rfl⟩, ⟨_, rfl, rfl⟩, ⟨_, rfl, rfl⟩, ⟨_, rfl, rfl⟩, ⟨_, rfl, rfl⟩, ⟨_, rfl, rfl⟩, ⟨_, rfl, rfl⟩, ⟨_, rfl, rfl⟩, ⟨_, rfl, rfl⟩, ⟨_, rfl, rfl⟩, ⟨_, rfl, rfl⟩, ⟨_, rfl, rfl⟩, ⟨_, rfl, rfl⟩, ⟨_, rfl, rfl⟩, ⟨_, rfl, rfl⟩, ⟨_, rfl, rfl⟩, ⟨_, rfl, rfl⟩, ⟨_, rfl, rfl⟩, ⟨_, rfl, rfl⟩, ⟨_, rfl, rfl⟩, ⟨_, rfl, rfl⟩, ⟨_, rfl, rfl⟩, ⟨_, rfl, rfl⟩, ⟨_, rfl, rfl⟩, ⟨_, rfl, rfl⟩, ⟨_, rfl, rfl⟩, ⟨_, rfl, rfl⟩, ⟨_, rfl, rfl⟩, ⟨_, rfl, rfl⟩, ⟨_, rfl, rfl⟩, ⟨_, rfl, rfl⟩, ⟨_, rfl, rfl⟩, ⟨_, rfl, rfl⟩, ⟨_, rfl, rfl⟩, ⟨_, rfl, rfl⟩, ⟨_, rfl, rfl⟩, ⟨_, rfl, rfl⟩, ⟨_, rfl, rfl⟩, ⟨_, rfl, rfl⟩, ⟨_, rfl, rfl⟩, ⟨_, rfl, rfl⟩, ⟨_, rfl, rfl⟩, ⟨_, rfl, rfl⟩, ⟨_, rfl, rfl⟩, ⟨_, rfl, rfl⟩, ⟨_, rfl, rfl⟩, ⟨_, rfl, rfl⟩, ⟨_, rfl, rfl⟩, ⟨_, rfl, rfl⟩, ⟨_, rfl, rfl⟩, ⟨_, rfl, rfl⟩, ⟨_, rfl, rfl⟩, ⟨_, rfl, rfl⟩, ⟨_, rfl, rfl⟩, ⟨_, rfl, rfl⟩, ⟨_, rfl, rfl⟩, ⟨_, rfl, rfl⟩, ⟨_, rfl, rfl⟩, ⟨_, rfl, rfl⟩, ⟨_, rfl, rfl⟩, ⟨_, rfl, rfl⟩, ⟨_, rfl, rfl⟩, ⟨_, rfl, rfl⟩, trivial⟩ (by decide) rfl) ?_
  refine Tr.aload_n (i := 0) dX6_setOut_19 rfl rfl (Eq.refl 20) ?_
  refine Tr.getf dX6_setOut_20 fX6_28 rfl rfl (Eq.refl 23) ?_
  refine Tr.aload_n (i := 2) dX6_setOut_23 rfl rfl (Eq.refl 24) ?_
  refine Tr.getf dX6_setOut_24 fX6_67 rfl rfl (Eq.refl 27) ?_
  refine Tr.callV (L := [15, 16, 17, 18, 19, 20, 21, 83, 84, 85, 86, 87, 88, 89]) (c_scCopy E _ O S') dX6_setOut_27 (kX6_68 (Nat.le_of_ble_eq_true rfl)) iX3_copyFrom rfl rfl rfl rfl rfl rfl rfl rfl rfl rfl (Eq.refl 30) ?_
  refine Tr.pic (w' := trX E ad 0 V' X P' L' S' S W ch mo z G K bs br rg lr (D 0) (D 1) (D 2) (D 3) (D 4) ++ (viC E ad 71 V' X' ++ coC E ad 82 S' P' L' a kp W')) (putB_eq (Lc := [0, 1, 2, 3, 4, 5, 6, 7, 8, 9, 10, 11, 12, 13, 14, 22, 23, 24, 25, 26, 27, 28, 29, 30, 31, 32, 33, 34, 35, 36, 37, 38, 39, 40, 41, 42, 43, 44, 45, 46, 47, 48, 49, 50, 51, 52, 53, 54, 55, 56, 57, 58, 59, 60, 61, 62, 63, 64, 65, 66, 67, 68, 69, 70, 71, 72, 73, 74, 75, 76, 77, 78, 79, 80, 81, 82, 90, 91, 92, 93]) 94 rfl rfl rfl rfl ⟨⟨_, rfl, rfl⟩, ⟨_, rfl, rfl⟩, ⟨_, rfl, rfl⟩, ⟨_, rfl, rfl⟩, ⟨_, rfl, rfl⟩, ⟨_, rfl, rfl⟩, ⟨_, rfl, rfl⟩, ⟨_, rfl, rfl⟩, ⟨_, rfl, rfl⟩, ⟨_, rfl, rfl⟩, ⟨_, rfl, rfl⟩, ⟨_, rfl, rfl⟩, ⟨_, rfl, rfl⟩, ⟨_, rfl, rfl⟩, ⟨_, rfl, rfl⟩, ⟨_, rfl, rfl⟩, ⟨_, rfl, rfl⟩, ⟨_, rfl, rfl⟩, ⟨_, rfl, rfl⟩, ⟨_, rfl, rfl⟩, ⟨_, rfl, rfl⟩, ⟨_, rfl, rfl⟩, ⟨_, rfl, rfl⟩, ⟨_, rfl, rfl⟩, ⟨_, rfl, rfl⟩, ⟨_, rfl, rfl⟩, ⟨_, rfl, rfl⟩, ⟨_, rfl, rfl⟩, ⟨_, rfl, rfl⟩, ⟨_, rfl, rfl⟩, ⟨_, rfl, rfl⟩, ⟨_, rfl, rfl⟩, ⟨_, rfl, rfl⟩, ⟨_, rfl, rfl⟩, ⟨_, rfl, rfl⟩, ⟨_, rfl, rfl⟩, ⟨_, rfl, rfl⟩, ⟨_, rfl, rfl⟩, ⟨_, rfl, rfl⟩, ⟨_, rfl, rfl⟩, ⟨_, rfl, rfl⟩, ⟨_, rfl, rfl⟩, ⟨_, rfl, rfl⟩, ⟨_, rfl, rfl⟩, ⟨_, rfl, rfl⟩, ⟨_, rfl, rfl⟩, ⟨_, rfl, rfl⟩, ⟨_, rfl, rfl⟩, ⟨_, rfl, rfl⟩, ⟨_, rfl, rfl⟩, ⟨_, rfl, rfl⟩, ⟨_, rfl, rfl⟩, ⟨_, rfl, rfl⟩, ⟨_, rfl, rfl⟩, ⟨_, rfl, rfl⟩, ⟨_, rfl, rfl⟩, ⟨_, rfl, rfl⟩, ⟨_, rfl, rfl⟩, ⟨_, rfl, rfl⟩, ⟨_, rfl, rfl⟩, ⟨_, rfl, rfl⟩, ⟨_, rfl, rfl⟩, ⟨_, rfl, rfl⟩, ⟨_, rfl, rfl⟩, ⟨_, rfl, rfl⟩, ⟨_, rfl, rfl⟩, ⟨_, rfl, rfl⟩, ⟨_, rfl, rfl⟩, ⟨_, rfl, rfl⟩, ⟨_, rfl, rfl⟩, ⟨_, rfl, rfl⟩, ⟨_, rfl, rfl⟩, ⟨_, rfl, rfl⟩, ⟨_, rfl, rfl⟩, ⟨_, rfl, rfl⟩, ⟨_, rfl, rfl⟩, ⟨_, rfl, rfl⟩, ⟨_, rfl, rfl⟩, ⟨_, rfl, rfl⟩, ⟨_, rfl, rfl⟩, trivial⟩ (by decide) rfl) ?_
  refine Tr.ret dX6_setOut_30 rfl rfl ?_
  · rfl
/-- wishes in the k-th quarter of a day by p's choices -/
def pdW (V : Vil) (P : Nat → Nat) (ch : Nat → Nat) (W : Nat → Nat) (t k p : Nat) : Nat → Nat := if wkB V p t then fwF V P t W (npV V) else upN (fwF V P t W (npV V)) p (plc V (ch k))
theorem pdW_le {V : Vil} {P ch W : Nat → Nat} {t k p : Nat} (hV : Vok V) (hP : Ple P) : Wle V (pdW V P ch W t k p) := by
  unfold pdW
  split
  · exact fwF_le hV hP
  · intro j hj
    by_cases h : j = p
    · rw [h, upN_self]; exact plc_le hV _
    · rw [upN_ne _ _ h]; exact fwF_le hV hP j hj
def pdT (T : Tst) (k p : Nat) : Tst := uD (uW T (pdW (vT T) (pT T) (cT T) (wT T) (psS (dT T k)) k p)) (upS (dT T) (k + 1) (gon (vT T) (lT T) (pdW (vT T) (pT T) (cT T) (wT T) (psS (dT T k)) k p) (dT T k)))
set_option maxHeartbeats 4000000 in
set_option maxRecDepth 100000 in
theorem c_passOfDay_0 (E : EnvT) (ad : Nat → Nat) (T : Tst) (p : Nat) (hV : Vok (vT T)) (hP : Ple (pT T)) (hp : p < npV (vT T)) (hS : Sle (vT T) (dT T 0)) (ht : psS (dT T 0) < 2 ^ 31) (hc : cT T 0 < 2 ^ 31) : Md E mX6_passOfDay ad [.ref (ad 0), .int (nI 0), .int (nI p)] (trC E ad 0 T) none (trC E ad 0 (pdT T 0 p)) := by
  obtain ⟨V, X, P, L, O, S, W, ch, mo, z, G, K, bs, br, rg, lr, D⟩ := T
  have hV : Vok V := hV
  have hP : Ple P := hP
  have hp : p < npV V := hp
  have hS : Sle V (D 0) := hS
  have ht : psS (D 0) < 2 ^ 31 := ht
  have hc : ch 0 < 2 ^ 31 := hc
  have v2 := hV.2.1
  have hW := pdW_le (W := W) (ch := ch) (t := psS (D 0)) (k := 0) (p := p) hV hP
  show Md E _ ad _ (trX E ad 0 V X P L O S W ch mo z G K bs br rg lr (D 0) (D 1) (D 2) (D 3) (D 4)) none (trX E ad 0 V X P L O S (pdW V P ch W (psS (D 0)) 0 p) ch mo z G K bs br rg lr (D 0) (gon V L (pdW V P ch W (psS (D 0)) 0 p) (D 0)) (D 2) (D 3) (D 4))
  generalize hw : pdW V P ch W (psS (D 0)) 0 p = W2 at hW ⊢
  generalize D 0 = D0 at *
  generalize D 1 = D1 at *
  generalize D 2 = D2 at *
  generalize D 3 = D3 at *
  generalize D 4 = D4 at *
  refine Md.of 2 (by decide) rfl rfl ?_
  refine Tr.aload_n (i := 0) dX6_passOfDay_0 rfl rfl (Eq.refl 1) ?_
  refine Tr.getf dX6_passOfDay_1 fX6_35 rfl rfl (Eq.refl 4) ?_
  refine Tr.iload_n (i := 1) dX6_passOfDay_4 rfl rfl (Eq.refl 5) ?_
  refine Tr.aald dX6_passOfDay_5 rfl rfl (by decide) (by decide) rfl (Eq.refl 6) ?_
  refine Tr.astore_n (i := 3) dX6_passOfDay_6 rfl rfl rfl (Eq.refl 7) ?_
  refine Tr.aload_n (i := 0) dX6_passOfDay_7 rfl rfl (Eq.refl 8) ?_
  refine Tr.getf dX6_passOfDay_8 fX6_21 rfl rfl (Eq.refl 11) ?_
  refine Tr.aload_n (i := 0) dX6_passOfDay_11 rfl rfl (Eq.refl 12) ?_
  refine Tr.getf dX6_passOfDay_12 fX6_12 rfl rfl (Eq.refl 15) ?_
  refine Tr.aload_n (i := 3) dX6_passOfDay_15 rfl rfl (Eq.refl 16) ?_
  refine Tr.getf dX6_passOfDay_16 fX6_75 rfl rfl (Eq.refl 19) ?_
  refine Tr.aload_n (i := 0) dX6_passOfDay_19 rfl rfl (Eq.refl 20) ?_
  refine Tr.getf dX6_passOfDay_20 fX6_39 rfl rfl (Eq.refl 23) ?_
  refine Tr.callV (L := l_fw) (c_fillWishes E _ P L V X (psS D0) W hV ht) dX6_passOfDay_23 (kX6_78 (Nat.le_of_ble_eq_true rfl)) iX8_fillWishes rfl rfl rfl rfl rfl rfl rfl rfl rfl rfl (Eq.refl 26) ?_
  refine Tr.pic (w' := trX E ad 0 V X P L O S (fwF V P (psS D0) W (npV V)) ch mo z G K bs br rg lr D0 D1 D2 D3 D4) (putB_eq (Lc := [0, 15, 16, 17, 18, 19, 20, 21, 22, 23, 24, 25, 26, 27, 28, 29, 31, 32, 33, 34, 35, 36, 37, 38, 39, 40, 41, 42, 43, 44, 45, 46, 47, 48, 49, 50, 51, 52, 53, 54, 55, 56, 57, 58, 59, 60, 61, 62, 63, 64, 65, 66, 67, 68, 69, 70]) 71 rfl rfl rfl rfl ⟨⟨_, rfl, rfl⟩, ⟨_, rfl, rfl⟩, ⟨_, rfl, rfl⟩, ⟨_, rfl, rfl⟩, ⟨_, rfl, rfl⟩, ⟨_, rfl, rfl⟩, ⟨_, rfl, rfl⟩, ⟨_, rfl, rfl⟩, ⟨_, rfl, rfl⟩, ⟨_, rfl, rfl⟩, ⟨_, rfl, rfl⟩, ⟨_, rfl, rfl⟩, ⟨_, rfl, rfl⟩, ⟨_, rfl, rfl⟩, ⟨_, rfl, rfl⟩, ⟨_, rfl, rfl⟩, ⟨_, rfl, rfl⟩, ⟨_, rfl, rfl⟩, ⟨_, rfl, rfl⟩, ⟨_, rfl, rfl⟩, ⟨_, rfl, rfl⟩, ⟨_, rfl, rfl⟩, ⟨_, rfl, rfl⟩, ⟨_, rfl, rfl⟩, ⟨_, rfl, rfl⟩, ⟨_, rfl, rfl⟩, ⟨_, rfl, rfl⟩, ⟨_, rfl, rfl⟩, ⟨_, rfl, rfl⟩, ⟨_, rfl, rfl⟩, ⟨_, rfl, rfl⟩, ⟨_, rfl, rfl⟩, ⟨_, rfl, rfl⟩, ⟨_, rfl, rfl⟩, ⟨_, rfl, rfl⟩, ⟨_, rfl, rfl⟩, ⟨_, rfl, rfl⟩, ⟨_, rfl, rfl⟩, ⟨_, rfl, rfl⟩, ⟨_, rfl, rfl⟩, ⟨_, rfl, rfl⟩, ⟨_, rfl, rfl⟩, ⟨_, rfl, rfl⟩, ⟨_, rfl, rfl⟩, ⟨_, rfl, rfl⟩, ⟨_, rfl, rfl⟩, ⟨_, rfl, rfl⟩, ⟨_, rfl, rfl⟩, ⟨_, rfl, rfl⟩, ⟨_, rfl, rfl⟩, ⟨_, rfl, rfl⟩, ⟨_, rfl, rfl⟩, ⟨_, rfl, rfl⟩, ⟨_, rfl, rfl⟩, ⟨_, rfl, rfl⟩, ⟨_, rfl, rfl⟩, trivial⟩ (by decide) rfl) ?_
  refine Tr.aload_n (i := 0) dX6_passOfDay_26 rfl rfl (Eq.refl 27) ?_
  refine Tr.getf dX6_passOfDay_27 fX6_12 rfl rfl (Eq.refl 30) ?_
  refine Tr.iload_n (i := 2) dX6_passOfDay_30 rfl rfl (Eq.refl 31) ?_
  refine Tr.aload_n (i := 3) dX6_passOfDay_31 rfl rfl (Eq.refl 32) ?_
  refine Tr.getf dX6_passOfDay_32 fX6_75 rfl rfl (Eq.refl 35) ?_
  refine Tr.callVr (L := l_vi) (c_mustWork E _ V X p (psS D0) hV hp ht) dX6_passOfDay_35 (kX6_116 (Nat.le_of_ble_eq_true rfl)) iX7_mustWork rfl rfl rfl rfl rfl rfl rfl rfl rfl (Eq.refl 38) ?_
  refine Tr.if_neB (tgt := 60) dX6_passOfDay_38 (by decide) (Eq.refl 41) (fun h38 => ?_) (fun h38 => ?_)
  · have hw : fwF V P (psS D0) W (npV V) = W2 := by rw [← hw]; unfold pdW; rw [h38]; rfl
    rw [hw]
    refine Tr.mask [true, true, true, true, false] (lv' := [some (.ref (ad 0)), some (.int (nI 0)), some (.int (nI p)), some (.ref (ad 36)), none]) rfl ?_
    refine Tr.aload_n (i := 0) dX6_passOfDay_60 rfl rfl (Eq.refl 61) ?_
    refine Tr.getf dX6_passOfDay_61 fX6_35 rfl rfl (Eq.refl 64) ?_
    refine Tr.iload_n (i := 1) dX6_passOfDay_64 rfl rfl (Eq.refl 65) ?_
    refine Tr.iconst (v := nI 1) dX6_passOfDay_65 (icN 1) (Eq.refl 66) ?_
    refine Tr.iaddN dX6_passOfDay_66 (Eq.refl 67) ?_
    refine Tr.top (y := nI 1) rfl ?_
    refine Tr.aald dX6_passOfDay_67 rfl rfl (by decide) (by decide) rfl (Eq.refl 68) ?_
    refine Tr.astore dX6_passOfDay_68 rfl rfl (Eq.refl 70) ?_
    refine Tr.aload dX6_passOfDay_70 rfl (Eq.refl 72) ?_
    refine Tr.aload_n (i := 3) dX6_passOfDay_72 rfl rfl (Eq.refl 73) ?_
    refine Tr.callV (L := [43, 44, 45, 46, 47, 48, 49, 36, 37, 38, 39, 40, 41, 42]) (c_scCopy E _ D1 D0) dX6_passOfDay_73 (kX6_68 (Nat.le_of_ble_eq_true rfl)) iX3_copyFrom rfl rfl rfl rfl rfl rfl rfl rfl rfl rfl (Eq.refl 76) ?_
    refine Tr.pic (w' := trX E ad 0 V X P L O S W2 ch mo z G K bs br rg lr D0 D0 D2 D3 D4) (putB_eq (Lc := [0, 1, 2, 3, 4, 5, 6, 7, 8, 9, 10, 11, 12, 13, 14, 15, 16, 17, 18, 19, 20, 21, 22, 23, 24, 25, 26, 27, 28, 29, 30, 31, 32, 33, 34, 35, 50, 51, 52, 53, 54, 55, 56, 57, 58, 59, 60, 61, 62, 63, 64, 65, 66, 67, 68, 69, 70]) 71 rfl rfl rfl rfl ⟨⟨_, rfl, rfl⟩, ⟨_, rfl, rfl⟩, ⟨_, rfl, rfl⟩, ⟨_, rfl, rfl⟩, ⟨_, rfl, rfl⟩, ⟨_, rfl, rfl⟩, ⟨_, rfl, rfl⟩, ⟨_, rfl, rfl⟩, ⟨_, rfl, rfl⟩, ⟨_, rfl, rfl⟩, ⟨_, rfl, rfl⟩, ⟨_, rfl, rfl⟩, ⟨_, rfl, rfl⟩, ⟨_, rfl, rfl⟩, ⟨_, rfl, rfl⟩, ⟨_, rfl, rfl⟩, ⟨_, rfl, rfl⟩, ⟨_, rfl, rfl⟩, ⟨_, rfl, rfl⟩, ⟨_, rfl, rfl⟩, ⟨_, rfl, rfl⟩, ⟨_, rfl, rfl⟩, ⟨_, rfl, rfl⟩, ⟨_, rfl, rfl⟩, ⟨_, rfl, rfl⟩, ⟨_, rfl, rfl⟩, ⟨_, rfl, rfl⟩, ⟨_, rfl, rfl⟩, ⟨_, rfl, rfl⟩, ⟨_, rfl, rfl⟩, ⟨_, rfl, rfl⟩, ⟨_, rfl, rfl⟩, ⟨_, rfl, rfl⟩, ⟨_, rfl, rfl⟩, ⟨_, rfl, rfl⟩, ⟨_, rfl, rfl⟩, ⟨_, rfl, rfl⟩, ⟨_, rfl, rfl⟩, ⟨_, rfl, rfl⟩, ⟨_, rfl, rfl⟩, ⟨_, rfl, rfl⟩, ⟨_, rfl, rfl⟩, ⟨_, rfl, rfl⟩, ⟨_, rfl, rfl⟩, ⟨_, rfl, rfl⟩, ⟨_, rfl, rfl⟩, ⟨_, rfl, rfl⟩, ⟨_, rfl, rfl⟩, ⟨_, rfl, rfl⟩, ⟨_, rfl, rfl⟩, ⟨_, rfl, rfl⟩, ⟨_, rfl, rfl⟩, ⟨_, rfl, rfl⟩, ⟨_, rfl, rfl⟩, ⟨_, rfl, rfl⟩, ⟨_, rfl, rfl⟩, ⟨_, rfl, rfl⟩, trivial⟩ (by decide) rfl) ?_
    refine Tr.aload dX6_passOfDay_76 rfl (Eq.refl 78) ?_
    refine Tr.aload_n (i := 0) dX6_passOfDay_78 rfl rfl (Eq.refl 79) ?_
    refine Tr.getf dX6_passOfDay_79 fX6_12 rfl rfl (Eq.refl 82) ?_
    refine Tr.aload_n (i := 0) dX6_passOfDay_82 rfl rfl (Eq.refl 83) ?_
    refine Tr.getf dX6_passOfDay_83 fX6_21 rfl rfl (Eq.refl 86) ?_
    refine Tr.getf dX6_passOfDay_86 fX6_82 rfl rfl (Eq.refl 89) ?_
    refine Tr.aload_n (i := 0) dX6_passOfDay_89 rfl rfl (Eq.refl 90) ?_
    refine Tr.getf dX6_passOfDay_90 fX6_39 rfl rfl (Eq.refl 93) ?_
    refine Tr.callV (L := [43, 44, 45, 46, 47, 48, 49, 1, 2, 3, 4, 5, 6, 7, 8, 9, 10, 11, 14, 30]) (c_goOn E _ V X D0 L W2 hV hS hW) dX6_passOfDay_93 (kX6_85 (Nat.le_of_ble_eq_true rfl)) iX3_goOn rfl rfl rfl rfl rfl rfl rfl rfl rfl rfl (Eq.refl 96) ?_
    refine Tr.pic (w' := trX E ad 0 V X P L O S W2 ch mo z G K bs br rg lr D0 (gon V L W2 D0) D2 D3 D4) (putB_eq (Lc := [0, 12, 13, 15, 16, 17, 18, 19, 20, 21, 22, 23, 24, 25, 26, 27, 28, 29, 31, 32, 33, 34, 35, 36, 37, 38, 39, 40, 41, 42, 50, 51, 52, 53, 54, 55, 56, 57, 58, 59, 60, 61, 62, 63, 64, 65, 66, 67, 68, 69, 70]) 71 rfl rfl rfl rfl ⟨⟨_, rfl, rfl⟩, ⟨_, rfl, rfl⟩, ⟨_, rfl, rfl⟩, ⟨_, rfl, rfl⟩, ⟨_, rfl, rfl⟩, ⟨_, rfl, rfl⟩, ⟨_, rfl, rfl⟩, ⟨_, rfl, rfl⟩, ⟨_, rfl, rfl⟩, ⟨_, rfl, rfl⟩, ⟨_, rfl, rfl⟩, ⟨_, rfl, rfl⟩, ⟨_, rfl, rfl⟩, ⟨_, rfl, rfl⟩, ⟨_, rfl, rfl⟩, ⟨_, rfl, rfl⟩, ⟨_, rfl, rfl⟩, ⟨_, rfl, rfl⟩, ⟨_, rfl, rfl⟩, ⟨_, rfl, rfl⟩, ⟨_, rfl, rfl⟩, ⟨_, rfl, rfl⟩, ⟨_, rfl, rfl⟩, ⟨_, rfl, rfl⟩, ⟨_, rfl, rfl⟩, ⟨_, rfl, rfl⟩, ⟨_, rfl, rfl⟩, ⟨_, rfl, rfl⟩, ⟨_, rfl, rfl⟩, ⟨_, rfl, rfl⟩, ⟨_, rfl, rfl⟩, ⟨_, rfl, rfl⟩, ⟨_, rfl, rfl⟩, ⟨_, rfl, rfl⟩, ⟨_, rfl, rfl⟩, ⟨_, rfl, rfl⟩, ⟨_, rfl, rfl⟩, ⟨_, rfl, rfl⟩, ⟨_, rfl, rfl⟩, ⟨_, rfl, rfl⟩, ⟨_, rfl, rfl⟩, ⟨_, rfl, rfl⟩, ⟨_, rfl, rfl⟩, ⟨_, rfl, rfl⟩, ⟨_, rfl, rfl⟩, ⟨_, rfl, rfl⟩, ⟨_, rfl, rfl⟩, ⟨_, rfl, rfl⟩, ⟨_, rfl, rfl⟩, ⟨_, rfl, rfl⟩, ⟨_, rfl, rfl⟩, trivial⟩ (by decide) rfl) ?_
    refine Tr.ret dX6_passOfDay_96 rfl rfl ?_
    · rfl
  · have hw : upN (fwF V P (psS D0) W (npV V)) p (plc V (ch 0)) = W2 := by rw [← hw]; unfold pdW; rw [h38]; rfl
    refine Tr.aload_n (i := 0) dX6_passOfDay_41 rfl rfl (Eq.refl 42) ?_
    refine Tr.getf dX6_passOfDay_42 fX6_39 rfl rfl (Eq.refl 45) ?_
    refine Tr.iload_n (i := 2) dX6_passOfDay_45 rfl rfl (Eq.refl 46) ?_
    refine Tr.aload_n (i := 0) dX6_passOfDay_46 rfl rfl (Eq.refl 47) ?_
    refine Tr.aload_n (i := 0) dX6_passOfDay_47 rfl rfl (Eq.refl 48) ?_
    refine Tr.getf dX6_passOfDay_48 fX6_46 rfl rfl (Eq.refl 51) ?_
    refine Tr.getf dX6_passOfDay_51 fX6_120 rfl rfl (Eq.refl 54) ?_
    refine Tr.iload_n (i := 1) dX6_passOfDay_54 rfl rfl (Eq.refl 55) ?_
    refine Tr.ialdN dX6_passOfDay_55 rfl (by decide) (by decide) (Eq.refl 56) ?_
    refine Tr.callVs (c_placeOf E ad (V, X, P, L, O, S, fwF V P (psS D0) W (npV V), ch, mo, z, G, K, bs, br, rg, lr, fun j => if j = 0 then D0 else if j = 1 then D1 else if j = 2 then D2 else if j = 3 then D3 else D4) (ch 0) hV hc) dX6_passOfDay_56 (kX6_123 (Nat.le_of_ble_eq_true rfl)) iX6_placeOf rfl rfl rfl rfl rfl (Nat.le_refl _) rfl rfl (Eq.refl 59) ?_
    refine Tr.iastN dX6_passOfDay_59 rfl (by omega) (by decide) (Eq.refl 60) ?_
    refine Tr.pic (w' := trX E ad 0 V X P L O S W2 ch mo z G K bs br rg lr D0 D1 D2 D3 D4) (by rw [← hw]; unfold trX; rw [cl_upN]; rfl) ?_
    refine Tr.mask [true, true, true, true, false] (lv' := [some (.ref (ad 0)), some (.int (nI 0)), some (.int (nI p)), some (.ref (ad 36)), none]) rfl ?_
    refine Tr.aload_n (i := 0) dX6_passOfDay_60 rfl rfl (Eq.refl 61) ?_
    refine Tr.getf dX6_passOfDay_61 fX6_35 rfl rfl (Eq.refl 64) ?_
    refine Tr.iload_n (i := 1) dX6_passOfDay_64 rfl rfl (Eq.refl 65) ?_
    refine Tr.iconst (v := nI 1) dX6_passOfDay_65 (icN 1) (Eq.refl 66) ?_
    refine Tr.iaddN dX6_passOfDay_66 (Eq.refl 67) ?_
    refine Tr.top (y := nI 1) rfl ?_
    refine Tr.aald dX6_passOfDay_67 rfl rfl (by decide) (by decide) rfl (Eq.refl 68) ?_
    refine Tr.astore dX6_passOfDay_68 rfl rfl (Eq.refl 70) ?_
    refine Tr.aload dX6_passOfDay_70 rfl (Eq.refl 72) ?_
    refine Tr.aload_n (i := 3) dX6_passOfDay_72 rfl rfl (Eq.refl 73) ?_
    refine Tr.callV (L := [43, 44, 45, 46, 47, 48, 49, 36, 37, 38, 39, 40, 41, 42]) (c_scCopy E _ D1 D0) dX6_passOfDay_73 (kX6_68 (Nat.le_of_ble_eq_true rfl)) iX3_copyFrom rfl rfl rfl rfl rfl rfl rfl rfl rfl rfl (Eq.refl 76) ?_
    refine Tr.pic (w' := trX E ad 0 V X P L O S W2 ch mo z G K bs br rg lr D0 D0 D2 D3 D4) (putB_eq (Lc := [0, 1, 2, 3, 4, 5, 6, 7, 8, 9, 10, 11, 12, 13, 14, 15, 16, 17, 18, 19, 20, 21, 22, 23, 24, 25, 26, 27, 28, 29, 30, 31, 32, 33, 34, 35, 50, 51, 52, 53, 54, 55, 56, 57, 58, 59, 60, 61, 62, 63, 64, 65, 66, 67, 68, 69, 70]) 71 rfl rfl rfl rfl ⟨⟨_, rfl, rfl⟩, ⟨_, rfl, rfl⟩, ⟨_, rfl, rfl⟩, ⟨_, rfl, rfl⟩, ⟨_, rfl, rfl⟩, ⟨_, rfl, rfl⟩, ⟨_, rfl, rfl⟩, ⟨_, rfl, rfl⟩, ⟨_, rfl, rfl⟩, ⟨_, rfl, rfl⟩, ⟨_, rfl, rfl⟩, ⟨_, rfl, rfl⟩, ⟨_, rfl, rfl⟩, ⟨_, rfl, rfl⟩, ⟨_, rfl, rfl⟩, ⟨_, rfl, rfl⟩, ⟨_, rfl, rfl⟩, ⟨_, rfl, rfl⟩, ⟨_, rfl, rfl⟩, ⟨_, rfl, rfl⟩, ⟨_, rfl, rfl⟩, ⟨_, rfl, rfl⟩, ⟨_, rfl, rfl⟩, ⟨_, rfl, rfl⟩, ⟨_, rfl, rfl⟩, ⟨_, rfl, rfl⟩, ⟨_, rfl, rfl⟩, ⟨_, rfl, rfl⟩, ⟨_, rfl, rfl⟩, ⟨_, rfl, rfl⟩, ⟨_, rfl, rfl⟩, ⟨_, rfl, rfl⟩, ⟨_, rfl, rfl⟩, ⟨_, rfl, rfl⟩, ⟨_, rfl, rfl⟩, ⟨_, rfl, rfl⟩, ⟨_, rfl, rfl⟩, ⟨_, rfl, rfl⟩, ⟨_, rfl, rfl⟩, ⟨_, rfl, rfl⟩, ⟨_, rfl, rfl⟩, ⟨_, rfl, rfl⟩, ⟨_, rfl, rfl⟩, ⟨_, rfl, rfl⟩, ⟨_, rfl, rfl⟩, ⟨_, rfl, rfl⟩, ⟨_, rfl, rfl⟩, ⟨_, rfl, rfl⟩, ⟨_, rfl, rfl⟩, ⟨_, rfl, rfl⟩, ⟨_, rfl, rfl⟩, ⟨_, rfl, rfl⟩, ⟨_, rfl, rfl⟩, ⟨_, rfl, rfl⟩, ⟨_, rfl, rfl⟩, ⟨_, rfl, rfl⟩, ⟨_, rfl, rfl⟩, trivial⟩ (by decide) rfl) ?_
    refine Tr.aload dX6_passOfDay_76 rfl (Eq.refl 78) ?_
    refine Tr.aload_n (i := 0) dX6_passOfDay_78 rfl rfl (Eq.refl 79) ?_
    refine Tr.getf dX6_passOfDay_79 fX6_12 rfl rfl (Eq.refl 82) ?_
    refine Tr.aload_n (i := 0) dX6_passOfDay_82 rfl rfl (Eq.refl 83) ?_
    refine Tr.getf dX6_passOfDay_83 fX6_21 rfl rfl (Eq.refl 86) ?_
    refine Tr.getf dX6_passOfDay_86 fX6_82 rfl rfl (Eq.refl 89) ?_
    refine Tr.aload_n (i := 0) dX6_passOfDay_89 rfl rfl (Eq.refl 90) ?_
    refine Tr.getf dX6_passOfDay_90 fX6_39 rfl rfl (Eq.refl 93) ?_
    refine Tr.callV (L := [43, 44, 45, 46, 47, 48, 49, 1, 2, 3, 4, 5, 6, 7, 8, 9, 10, 11, 14, 30]) (c_goOn E _ V X D0 L W2 hV hS hW) dX6_passOfDay_93 (kX6_85 (Nat.le_of_ble_eq_true rfl)) iX3_goOn rfl rfl rfl rfl rfl rfl rfl rfl rfl rfl (Eq.refl 96) ?_
    refine Tr.pic (w' := trX E ad 0 V X P L O S W2 ch mo z G K bs br rg lr D0 (gon V L W2 D0) D2 D3 D4) (putB_eq (Lc := [0, 12, 13, 15, 16, 17, 18, 19, 20, 21, 22, 23, 24, 25, 26, 27, 28, 29, 31, 32, 33, 34, 35, 36, 37, 38, 39, 40, 41, 42, 50, 51, 52, 53, 54, 55, 56, 57, 58, 59, 60, 61, 62, 63, 64, 65, 66, 67, 68, 69, 70]) 71 rfl rfl rfl rfl ⟨⟨_, rfl, rfl⟩, ⟨_, rfl, rfl⟩, ⟨_, rfl, rfl⟩, ⟨_, rfl, rfl⟩, ⟨_, rfl, rfl⟩, ⟨_, rfl, rfl⟩, ⟨_, rfl, rfl⟩, ⟨_, rfl, rfl⟩, ⟨_, rfl, rfl⟩, ⟨_, rfl, rfl⟩, ⟨_, rfl, rfl⟩, ⟨_, rfl, rfl⟩, ⟨_, rfl, rfl⟩, ⟨_, rfl, rfl⟩, ⟨_, rfl, rfl⟩, ⟨_, rfl, rfl⟩, ⟨_, rfl, rfl⟩, ⟨_, rfl, rfl⟩, ⟨_, rfl, rfl⟩, ⟨_, rfl, rfl⟩, ⟨_, rfl, rfl⟩, ⟨_, rfl, rfl⟩, ⟨_, rfl, rfl⟩, ⟨_, rfl, rfl⟩, ⟨_, rfl, rfl⟩, ⟨_, rfl, rfl⟩, ⟨_, rfl, rfl⟩, ⟨_, rfl, rfl⟩, ⟨_, rfl, rfl⟩, ⟨_, rfl, rfl⟩, ⟨_, rfl, rfl⟩, ⟨_, rfl, rfl⟩, ⟨_, rfl, rfl⟩, ⟨_, rfl, rfl⟩, ⟨_, rfl, rfl⟩, ⟨_, rfl, rfl⟩, ⟨_, rfl, rfl⟩, ⟨_, rfl, rfl⟩, ⟨_, rfl, rfl⟩, ⟨_, rfl, rfl⟩, ⟨_, rfl, rfl⟩, ⟨_, rfl, rfl⟩, ⟨_, rfl, rfl⟩, ⟨_, rfl, rfl⟩, ⟨_, rfl, rfl⟩, ⟨_, rfl, rfl⟩, ⟨_, rfl, rfl⟩, ⟨_, rfl, rfl⟩, ⟨_, rfl, rfl⟩, ⟨_, rfl, rfl⟩, ⟨_, rfl, rfl⟩, trivial⟩ (by decide) rfl) ?_
    refine Tr.ret dX6_passOfDay_96 rfl rfl ?_
    · rfl
set_option maxHeartbeats 4000000 in
set_option maxRecDepth 100000 in
theorem c_passOfDay_1 (E : EnvT) (ad : Nat → Nat) (T : Tst) (p : Nat) (hV : Vok (vT T)) (hP : Ple (pT T)) (hp : p < npV (vT T)) (hS : Sle (vT T) (dT T 1)) (ht : psS (dT T 1) < 2 ^ 31) (hc : cT T 1 < 2 ^ 31) : Md E mX6_passOfDay ad [.ref (ad 0), .int (nI 1), .int (nI p)] (trC E ad 0 T) none (trC E ad 0 (pdT T 1 p)) := by
  obtain ⟨V, X, P, L, O, S, W, ch, mo, z, G, K, bs, br, rg, lr, D⟩ := T
  have hV : Vok V := hV
  have hP : Ple P := hP
  have hp : p < npV V := hp
  have hS : Sle V (D 1) := hS
  have ht : psS (D 1) < 2 ^ 31 := ht
  have hc : ch 1 < 2 ^ 31 := hc
  have v2 := hV.2.1
  have hW := pdW_le (W := W) (ch := ch) (t := psS (D 1)) (k := 1) (p := p) hV hP
  show Md E _ ad _ (trX E ad 0 V X P L O S W ch mo z G K bs br rg lr (D 0) (D 1) (D 2) (D 3) (D 4)) none (trX E ad 0 V X P L O S (pdW V P ch W (psS (D 1)) 1 p) ch mo z G K bs br rg lr (D 0) (D 1) (gon V L (pdW V P ch W (psS (D 1)) 1 p) (D 1)) (D 3) (D 4))
  generalize hw : pdW V P ch W (psS (D 1)) 1 p = W2 at hW ⊢
  generalize D 0 = D0 at *
  generalize D 1 = D1 at *
  generalize D 2 = D2 at *
  generalize D 3 = D3 at *
  generalize D 4 = D4 at *
  refine Md.of 2 (by decide) rfl rfl ?_
  refine Tr.aload_n (i := 0) dX6_passOfDay_0 rfl rfl (Eq.refl 1) ?_
  refine Tr.getf dX6_passOfDay_1 fX6_35 rfl rfl (Eq.refl 4) ?_
  refine Tr.iload_n (i := 1) dX6_passOfDay_4 rfl rfl (Eq.refl 5) ?_
  refine Tr.aald dX6_passOfDay_5 rfl rfl (by decide) (by decide) rfl (Eq.refl 6) ?_
  refine Tr.astore_n (i := 3) dX6_passOfDay_6 rfl rfl rfl (Eq.refl 7) ?_
  refine Tr.aload_n (i := 0) dX6_passOfDay_7 rfl rfl (Eq.refl 8) ?_
  refine Tr.getf dX6_passOfDay_8 fX6_21 rfl rfl (Eq.refl 11) ?_
  refine Tr.aload_n (i := 0) dX6_passOfDay_11 rfl rfl (Eq.refl 12) ?_
  refine Tr.getf dX6_passOfDay_12 fX6_12 rfl rfl (Eq.refl 15) ?_
  refine Tr.aload_n (i := 3) dX6_passOfDay_15 rfl rfl (Eq.refl 16) ?_
  refine Tr.getf dX6_passOfDay_16 fX6_75 rfl rfl (Eq.refl 19) ?_
  refine Tr.aload_n (i := 0) dX6_passOfDay_19 rfl rfl (Eq.refl 20) ?_
  refine Tr.getf dX6_passOfDay_20 fX6_39 rfl rfl (Eq.refl 23) ?_
  refine Tr.callV (L := l_fw) (c_fillWishes E _ P L V X (psS D1) W hV ht) dX6_passOfDay_23 (kX6_78 (Nat.le_of_ble_eq_true rfl)) iX8_fillWishes rfl rfl rfl rfl rfl rfl rfl rfl rfl rfl (Eq.refl 26) ?_
  refine Tr.pic (w' := trX E ad 0 V X P L O S (fwF V P (psS D1) W (npV V)) ch mo z G K bs br rg lr D0 D1 D2 D3 D4) (putB_eq (Lc := [0, 15, 16, 17, 18, 19, 20, 21, 22, 23, 24, 25, 26, 27, 28, 29, 31, 32, 33, 34, 35, 36, 37, 38, 39, 40, 41, 42, 43, 44, 45, 46, 47, 48, 49, 50, 51, 52, 53, 54, 55, 56, 57, 58, 59, 60, 61, 62, 63, 64, 65, 66, 67, 68, 69, 70]) 71 rfl rfl rfl rfl ⟨⟨_, rfl, rfl⟩, ⟨_, rfl, rfl⟩, ⟨_, rfl, rfl⟩, ⟨_, rfl, rfl⟩, ⟨_, rfl, rfl⟩, ⟨_, rfl, rfl⟩, ⟨_, rfl, rfl⟩, ⟨_, rfl, rfl⟩, ⟨_, rfl, rfl⟩, ⟨_, rfl, rfl⟩, ⟨_, rfl, rfl⟩, ⟨_, rfl, rfl⟩, ⟨_, rfl, rfl⟩, ⟨_, rfl, rfl⟩, ⟨_, rfl, rfl⟩, ⟨_, rfl, rfl⟩, ⟨_, rfl, rfl⟩, ⟨_, rfl, rfl⟩, ⟨_, rfl, rfl⟩, ⟨_, rfl, rfl⟩, ⟨_, rfl, rfl⟩, ⟨_, rfl, rfl⟩, ⟨_, rfl, rfl⟩, ⟨_, rfl, rfl⟩, ⟨_, rfl, rfl⟩, ⟨_, rfl, rfl⟩, ⟨_, rfl, rfl⟩, ⟨_, rfl, rfl⟩, ⟨_, rfl, rfl⟩, ⟨_, rfl, rfl⟩, ⟨_, rfl, rfl⟩, ⟨_, rfl, rfl⟩, ⟨_, rfl, rfl⟩, ⟨_, rfl, rfl⟩, ⟨_, rfl, rfl⟩, ⟨_, rfl, rfl⟩, ⟨_, rfl, rfl⟩, ⟨_, rfl, rfl⟩, ⟨_, rfl, rfl⟩, ⟨_, rfl, rfl⟩, ⟨_, rfl, rfl⟩, ⟨_, rfl, rfl⟩, ⟨_, rfl, rfl⟩, ⟨_, rfl, rfl⟩, ⟨_, rfl, rfl⟩, ⟨_, rfl, rfl⟩, ⟨_, rfl, rfl⟩, ⟨_, rfl, rfl⟩, ⟨_, rfl, rfl⟩, ⟨_, rfl, rfl⟩, ⟨_, rfl, rfl⟩, ⟨_, rfl, rfl⟩, ⟨_, rfl, rfl⟩, ⟨_, rfl, rfl⟩, ⟨_, rfl, rfl⟩, ⟨_, rfl, rfl⟩, trivial⟩ (by decide) rfl) ?_
  refine Tr.aload_n (i := 0) dX6_passOfDay_26 rfl rfl (Eq.refl 27) ?_
  refine Tr.getf dX6_passOfDay_27 fX6_12 rfl rfl (Eq.refl 30) ?_
  refine Tr.iload_n (i := 2) dX6_passOfDay_30 rfl rfl (Eq.refl 31) ?_
  refine Tr.aload_n (i := 3) dX6_passOfDay_31 rfl rfl (Eq.refl 32) ?_
  refine Tr.getf dX6_passOfDay_32 fX6_75 rfl rfl (Eq.refl 35) ?_
  refine Tr.callVr (L := l_vi) (c_mustWork E _ V X p (psS D1) hV hp ht) dX6_passOfDay_35 (kX6_116 (Nat.le_of_ble_eq_true rfl)) iX7_mustWork rfl rfl rfl rfl rfl rfl rfl rfl rfl (Eq.refl 38) ?_
  refine Tr.if_neB (tgt := 60) dX6_passOfDay_38 (by decide) (Eq.refl 41) (fun h38 => ?_) (fun h38 => ?_)
  · have hw : fwF V P (psS D1) W (npV V) = W2 := by rw [← hw]; unfold pdW; rw [h38]; rfl
    rw [hw]
    refine Tr.mask [true, true, true, true, false] (lv' := [some (.ref (ad 0)), some (.int (nI 1)), some (.int (nI p)), some (.ref (ad 43)), none]) rfl ?_
    refine Tr.aload_n (i := 0) dX6_passOfDay_60 rfl rfl (Eq.refl 61) ?_
    refine Tr.getf dX6_passOfDay_61 fX6_35 rfl rfl (Eq.refl 64) ?_
    refine Tr.iload_n (i := 1) dX6_passOfDay_64 rfl rfl (Eq.refl 65) ?_
    refine Tr.iconst (v := nI 1) dX6_passOfDay_65 (icN 1) (Eq.refl 66) ?_
    refine Tr.iaddN dX6_passOfDay_66 (Eq.refl 67) ?_
    refine Tr.top (y := nI 2) rfl ?_
    refine Tr.aald dX6_passOfDay_67 rfl rfl (by decide) (by decide) rfl (Eq.refl 68) ?_
    refine Tr.astore dX6_passOfDay_68 rfl rfl (Eq.refl 70) ?_
    refine Tr.aload dX6_passOfDay_70 rfl (Eq.refl 72) ?_
    refine Tr.aload_n (i := 3) dX6_passOfDay_72 rfl rfl (Eq.refl 73) ?_
    refine Tr.callV (L := [50, 51, 52, 53, 54, 55, 56, 43, 44, 45, 46, 47, 48, 49]) (c_scCopy E _ D2 D1) dX6_passOfDay_73 (kX6_68 (Nat.le_of_ble_eq_true rfl)) iX3_copyFrom rfl rfl rfl rfl rfl rfl rfl rfl rfl rfl (Eq.refl 76) ?_
    refine Tr.pic (w' := trX E ad 0 V X P L O S W2 ch mo z G K bs br rg lr D0 D1 D1 D3 D4) (putB_eq (Lc := [0, 1, 2, 3, 4, 5, 6, 7, 8, 9, 10, 11, 12, 13, 14, 15, 16, 17, 18, 19, 20, 21, 22, 23, 24, 25, 26, 27, 28, 29, 30, 31, 32, 33, 34, 35, 36, 37, 38, 39, 40, 41, 42, 57, 58, 59, 60, 61, 62, 63, 64, 65, 66, 67, 68, 69, 70]) 71 rfl rfl rfl rfl ⟨⟨_, rfl, rfl⟩, ⟨_, rfl, rfl⟩, ⟨_, rfl, rfl⟩, ⟨_, rfl, rfl⟩, ⟨_, rfl, rfl⟩, ⟨_, rfl, rfl⟩, ⟨_, rfl, rfl⟩, ⟨_, rfl, rfl⟩, ⟨_, rfl, rfl⟩, ⟨_, rfl, rfl⟩, ⟨_, rfl, rfl⟩, ⟨_, rfl, rfl⟩, ⟨_, rfl, rfl⟩, ⟨_, rfl, rfl⟩, ⟨_, rfl, rfl⟩, ⟨_, rfl, rfl⟩, ⟨_, rfl, rfl⟩, ⟨_, rfl, rfl⟩, ⟨_, rfl, rfl⟩, ⟨_, rfl, rfl⟩, ⟨_, rfl, rfl⟩, ⟨_, rfl, rfl⟩, ⟨_, rfl, rfl⟩, ⟨_, rfl, rfl⟩, ⟨_, rfl, rfl⟩, ⟨_, rfl, rfl⟩, ⟨_, rfl, rfl⟩, ⟨_, rfl, rfl⟩, ⟨_, rfl, rfl⟩, ⟨_, rfl, rfl⟩, ⟨_, rfl, rfl⟩, ⟨_, rfl, rfl⟩, ⟨_, rfl, rfl⟩, ⟨_, rfl, rfl⟩, ⟨_, rfl, rfl⟩, ⟨_, rfl, rfl⟩, ⟨_, rfl, rfl⟩, ⟨_, rfl, rfl⟩, ⟨_, rfl, rfl⟩, ⟨_, rfl, rfl⟩, ⟨_, rfl, rfl⟩, ⟨_, rfl, rfl⟩, ⟨_, rfl, rfl⟩, ⟨_, rfl, rfl⟩, ⟨_, rfl, rfl⟩, ⟨_, rfl, rfl⟩, ⟨_, rfl, rfl⟩, ⟨_, rfl, rfl⟩, ⟨_, rfl, rfl⟩, ⟨_, rfl, rfl⟩, ⟨_, rfl, rfl⟩, ⟨_, rfl, rfl⟩, ⟨_, rfl, rfl⟩, ⟨_, rfl, rfl⟩, ⟨_, rfl, rfl⟩, ⟨_, rfl, rfl⟩, ⟨_, rfl, rfl⟩, trivial⟩ (by decide) rfl) ?_
    refine Tr.aload dX6_passOfDay_76 rfl (Eq.refl 78) ?_
    refine Tr.aload_n (i := 0) dX6_passOfDay_78 rfl rfl (Eq.refl 79) ?_
    refine Tr.getf dX6_passOfDay_79 fX6_12 rfl rfl (Eq.refl 82) ?_
    refine Tr.aload_n (i := 0) dX6_passOfDay_82 rfl rfl (Eq.refl 83) ?_
    refine Tr.getf dX6_passOfDay_83 fX6_21 rfl rfl (Eq.refl 86) ?_
    refine Tr.getf dX6_passOfDay_86 fX6_82 rfl rfl (Eq.refl 89) ?_
    refine Tr.aload_n (i := 0) dX6_passOfDay_89 rfl rfl (Eq.refl 90) ?_
    refine Tr.getf dX6_passOfDay_90 fX6_39 rfl rfl (Eq.refl 93) ?_
    refine Tr.callV (L := [50, 51, 52, 53, 54, 55, 56, 1, 2, 3, 4, 5, 6, 7, 8, 9, 10, 11, 14, 30]) (c_goOn E _ V X D1 L W2 hV hS hW) dX6_passOfDay_93 (kX6_85 (Nat.le_of_ble_eq_true rfl)) iX3_goOn rfl rfl rfl rfl rfl rfl rfl rfl rfl rfl (Eq.refl 96) ?_
    refine Tr.pic (w' := trX E ad 0 V X P L O S W2 ch mo z G K bs br rg lr D0 D1 (gon V L W2 D1) D3 D4) (putB_eq (Lc := [0, 12, 13, 15, 16, 17, 18, 19, 20, 21, 22, 23, 24, 25, 26, 27, 28, 29, 31, 32, 33, 34, 35, 36, 37, 38, 39, 40, 41, 42, 43, 44, 45, 46, 47, 48, 49, 57, 58, 59, 60, 61, 62, 63, 64, 65, 66, 67, 68, 69, 70]) 71 rfl rfl rfl rfl ⟨⟨_, rfl, rfl⟩, ⟨_, rfl, rfl⟩, ⟨_, rfl, rfl⟩, ⟨_, rfl, rfl⟩, ⟨_, rfl, rfl⟩, ⟨_, rfl, rfl⟩, ⟨_, rfl, rfl⟩, ⟨_, rfl, rfl⟩, ⟨_, rfl, rfl⟩, ⟨_, rfl, rfl⟩, ⟨_, rfl, rfl⟩, ⟨_, rfl, rfl⟩, ⟨_, rfl, rfl⟩, ⟨_, rfl, rfl⟩, ⟨_, rfl, rfl⟩, ⟨_, rfl, rfl⟩, ⟨_, rfl, rfl⟩, ⟨_, rfl, rfl⟩, ⟨_, rfl, rfl⟩, ⟨_, rfl, rfl⟩, ⟨_, rfl, rfl⟩, ⟨_, rfl, rfl⟩, ⟨_, rfl, rfl⟩, ⟨_, rfl, rfl⟩, ⟨_, rfl, rfl⟩, ⟨_, rfl, rfl⟩, ⟨_, rfl, rfl⟩, ⟨_, rfl, rfl⟩, ⟨_, rfl, rfl⟩, ⟨_, rfl, rfl⟩, ⟨_, rfl, rfl⟩, ⟨_, rfl, rfl⟩, ⟨_, rfl, rfl⟩, ⟨_, rfl, rfl⟩, ⟨_, rfl, rfl⟩, ⟨_, rfl, rfl⟩, ⟨_, rfl, rfl⟩, ⟨_, rfl, rfl⟩, ⟨_, rfl, rfl⟩, ⟨_, rfl, rfl⟩, ⟨_, rfl, rfl⟩, ⟨_, rfl, rfl⟩, ⟨_, rfl, rfl⟩, ⟨_, rfl, rfl⟩, ⟨_, rfl, rfl⟩, ⟨_, rfl, rfl⟩, ⟨_, rfl, rfl⟩, ⟨_, rfl, rfl⟩, ⟨_, rfl, rfl⟩, ⟨_, rfl, rfl⟩, ⟨_, rfl, rfl⟩, trivial⟩ (by decide) rfl) ?_
    refine Tr.ret dX6_passOfDay_96 rfl rfl ?_
    · rfl
  · have hw : upN (fwF V P (psS D1) W (npV V)) p (plc V (ch 1)) = W2 := by rw [← hw]; unfold pdW; rw [h38]; rfl
    refine Tr.aload_n (i := 0) dX6_passOfDay_41 rfl rfl (Eq.refl 42) ?_
    refine Tr.getf dX6_passOfDay_42 fX6_39 rfl rfl (Eq.refl 45) ?_
    refine Tr.iload_n (i := 2) dX6_passOfDay_45 rfl rfl (Eq.refl 46) ?_
    refine Tr.aload_n (i := 0) dX6_passOfDay_46 rfl rfl (Eq.refl 47) ?_
    refine Tr.aload_n (i := 0) dX6_passOfDay_47 rfl rfl (Eq.refl 48) ?_
    refine Tr.getf dX6_passOfDay_48 fX6_46 rfl rfl (Eq.refl 51) ?_
    refine Tr.getf dX6_passOfDay_51 fX6_120 rfl rfl (Eq.refl 54) ?_
    refine Tr.iload_n (i := 1) dX6_passOfDay_54 rfl rfl (Eq.refl 55) ?_
    refine Tr.ialdN dX6_passOfDay_55 rfl (by decide) (by decide) (Eq.refl 56) ?_
    refine Tr.callVs (c_placeOf E ad (V, X, P, L, O, S, fwF V P (psS D1) W (npV V), ch, mo, z, G, K, bs, br, rg, lr, fun j => if j = 0 then D0 else if j = 1 then D1 else if j = 2 then D2 else if j = 3 then D3 else D4) (ch 1) hV hc) dX6_passOfDay_56 (kX6_123 (Nat.le_of_ble_eq_true rfl)) iX6_placeOf rfl rfl rfl rfl rfl (Nat.le_refl _) rfl rfl (Eq.refl 59) ?_
    refine Tr.iastN dX6_passOfDay_59 rfl (by omega) (by decide) (Eq.refl 60) ?_
    refine Tr.pic (w' := trX E ad 0 V X P L O S W2 ch mo z G K bs br rg lr D0 D1 D2 D3 D4) (by rw [← hw]; unfold trX; rw [cl_upN]; rfl) ?_
    refine Tr.mask [true, true, true, true, false] (lv' := [some (.ref (ad 0)), some (.int (nI 1)), some (.int (nI p)), some (.ref (ad 43)), none]) rfl ?_
    refine Tr.aload_n (i := 0) dX6_passOfDay_60 rfl rfl (Eq.refl 61) ?_
    refine Tr.getf dX6_passOfDay_61 fX6_35 rfl rfl (Eq.refl 64) ?_
    refine Tr.iload_n (i := 1) dX6_passOfDay_64 rfl rfl (Eq.refl 65) ?_
    refine Tr.iconst (v := nI 1) dX6_passOfDay_65 (icN 1) (Eq.refl 66) ?_
    refine Tr.iaddN dX6_passOfDay_66 (Eq.refl 67) ?_
    refine Tr.top (y := nI 2) rfl ?_
    refine Tr.aald dX6_passOfDay_67 rfl rfl (by decide) (by decide) rfl (Eq.refl 68) ?_
    refine Tr.astore dX6_passOfDay_68 rfl rfl (Eq.refl 70) ?_
    refine Tr.aload dX6_passOfDay_70 rfl (Eq.refl 72) ?_
    refine Tr.aload_n (i := 3) dX6_passOfDay_72 rfl rfl (Eq.refl 73) ?_
    refine Tr.callV (L := [50, 51, 52, 53, 54, 55, 56, 43, 44, 45, 46, 47, 48, 49]) (c_scCopy E _ D2 D1) dX6_passOfDay_73 (kX6_68 (Nat.le_of_ble_eq_true rfl)) iX3_copyFrom rfl rfl rfl rfl rfl rfl rfl rfl rfl rfl (Eq.refl 76) ?_
    refine Tr.pic (w' := trX E ad 0 V X P L O S W2 ch mo z G K bs br rg lr D0 D1 D1 D3 D4) (putB_eq (Lc := [0, 1, 2, 3, 4, 5, 6, 7, 8, 9, 10, 11, 12, 13, 14, 15, 16, 17, 18, 19, 20, 21, 22, 23, 24, 25, 26, 27, 28, 29, 30, 31, 32, 33, 34, 35, 36, 37, 38, 39, 40, 41, 42, 57, 58, 59, 60, 61, 62, 63, 64, 65, 66, 67, 68, 69, 70]) 71 rfl rfl rfl rfl ⟨⟨_, rfl, rfl⟩, ⟨_, rfl, rfl⟩, ⟨_, rfl, rfl⟩, ⟨_, rfl, rfl⟩, ⟨_, rfl, rfl⟩, ⟨_, rfl, rfl⟩, ⟨_, rfl, rfl⟩, ⟨_, rfl, rfl⟩, ⟨_, rfl, rfl⟩, ⟨_, rfl, rfl⟩, ⟨_, rfl, rfl⟩, ⟨_, rfl, rfl⟩, ⟨_, rfl, rfl⟩, ⟨_, rfl, rfl⟩, ⟨_, rfl, rfl⟩, ⟨_, rfl, rfl⟩, ⟨_, rfl, rfl⟩, ⟨_, rfl, rfl⟩, ⟨_, rfl, rfl⟩, ⟨_, rfl, rfl⟩, ⟨_, rfl, rfl⟩, ⟨_, rfl, rfl⟩, ⟨_, rfl, rfl⟩, ⟨_, rfl, rfl⟩, ⟨_, rfl, rfl⟩, ⟨_, rfl, rfl⟩, ⟨_, rfl, rfl⟩, ⟨_, rfl, rfl⟩, ⟨_, rfl, rfl⟩, ⟨_, rfl, rfl⟩, ⟨_, rfl, rfl⟩, ⟨_, rfl, rfl⟩, ⟨_, rfl, rfl⟩, ⟨_, rfl, rfl⟩, ⟨_, rfl, rfl⟩, ⟨_, rfl, rfl⟩, ⟨_, rfl, rfl⟩, ⟨_, rfl, rfl⟩, ⟨_, rfl, rfl⟩, ⟨_, rfl, rfl⟩, ⟨_, rfl, rfl⟩, ⟨_, rfl, rfl⟩, ⟨_, rfl, rfl⟩, ⟨_, rfl, rfl⟩, ⟨_, rfl, rfl⟩, ⟨_, rfl, rfl⟩, ⟨_, rfl, rfl⟩, ⟨_, rfl, rfl⟩, ⟨_, rfl, rfl⟩, ⟨_, rfl, rfl⟩, ⟨_, rfl, rfl⟩, ⟨_, rfl, rfl⟩, ⟨_, rfl, rfl⟩, ⟨_, rfl, rfl⟩, ⟨_, rfl, rfl⟩, ⟨_, rfl, rfl⟩, ⟨_, rfl, rfl⟩, trivial⟩ (by decide) rfl) ?_
    refine Tr.aload dX6_passOfDay_76 rfl (Eq.refl 78) ?_
    refine Tr.aload_n (i := 0) dX6_passOfDay_78 rfl rfl (Eq.refl 79) ?_
    refine Tr.getf dX6_passOfDay_79 fX6_12 rfl rfl (Eq.refl 82) ?_
    refine Tr.aload_n (i := 0) dX6_passOfDay_82 rfl rfl (Eq.refl 83) ?_
    refine Tr.getf dX6_passOfDay_83 fX6_21 rfl rfl (Eq.refl 86) ?_
    refine Tr.getf dX6_passOfDay_86 fX6_82 rfl rfl (Eq.refl 89) ?_
    refine Tr.aload_n (i := 0) dX6_passOfDay_89 rfl rfl (Eq.refl 90) ?_
    refine Tr.getf dX6_passOfDay_90 fX6_39 rfl rfl (Eq.refl 93) ?_
    refine Tr.callV (L := [50, 51, 52, 53, 54, 55, 56, 1, 2, 3, 4, 5, 6, 7, 8, 9, 10, 11, 14, 30]) (c_goOn E _ V X D1 L W2 hV hS hW) dX6_passOfDay_93 (kX6_85 (Nat.le_of_ble_eq_true rfl)) iX3_goOn rfl rfl rfl rfl rfl rfl rfl rfl rfl rfl (Eq.refl 96) ?_
    refine Tr.pic (w' := trX E ad 0 V X P L O S W2 ch mo z G K bs br rg lr D0 D1 (gon V L W2 D1) D3 D4) (putB_eq (Lc := [0, 12, 13, 15, 16, 17, 18, 19, 20, 21, 22, 23, 24, 25, 26, 27, 28, 29, 31, 32, 33, 34, 35, 36, 37, 38, 39, 40, 41, 42, 43, 44, 45, 46, 47, 48, 49, 57, 58, 59, 60, 61, 62, 63, 64, 65, 66, 67, 68, 69, 70]) 71 rfl rfl rfl rfl ⟨⟨_, rfl, rfl⟩, ⟨_, rfl, rfl⟩, ⟨_, rfl, rfl⟩, ⟨_, rfl, rfl⟩, ⟨_, rfl, rfl⟩, ⟨_, rfl, rfl⟩, ⟨_, rfl, rfl⟩, ⟨_, rfl, rfl⟩, ⟨_, rfl, rfl⟩, ⟨_, rfl, rfl⟩, ⟨_, rfl, rfl⟩, ⟨_, rfl, rfl⟩, ⟨_, rfl, rfl⟩, ⟨_, rfl, rfl⟩, ⟨_, rfl, rfl⟩, ⟨_, rfl, rfl⟩, ⟨_, rfl, rfl⟩, ⟨_, rfl, rfl⟩, ⟨_, rfl, rfl⟩, ⟨_, rfl, rfl⟩, ⟨_, rfl, rfl⟩, ⟨_, rfl, rfl⟩, ⟨_, rfl, rfl⟩, ⟨_, rfl, rfl⟩, ⟨_, rfl, rfl⟩, ⟨_, rfl, rfl⟩, ⟨_, rfl, rfl⟩, ⟨_, rfl, rfl⟩, ⟨_, rfl, rfl⟩, ⟨_, rfl, rfl⟩, ⟨_, rfl, rfl⟩, ⟨_, rfl, rfl⟩, ⟨_, rfl, rfl⟩, ⟨_, rfl, rfl⟩, ⟨_, rfl, rfl⟩, ⟨_, rfl, rfl⟩, ⟨_, rfl, rfl⟩, ⟨_, rfl, rfl⟩, ⟨_, rfl, rfl⟩, ⟨_, rfl, rfl⟩, ⟨_, rfl, rfl⟩, ⟨_, rfl, rfl⟩, ⟨_, rfl, rfl⟩, ⟨_, rfl, rfl⟩, ⟨_, rfl, rfl⟩, ⟨_, rfl, rfl⟩, ⟨_, rfl, rfl⟩, ⟨_, rfl, rfl⟩, ⟨_, rfl, rfl⟩, ⟨_, rfl, rfl⟩, ⟨_, rfl, rfl⟩, trivial⟩ (by decide) rfl) ?_
    refine Tr.ret dX6_passOfDay_96 rfl rfl ?_
    · rfl
set_option maxHeartbeats 4000000 in
set_option maxRecDepth 100000 in
theorem c_passOfDay_2 (E : EnvT) (ad : Nat → Nat) (T : Tst) (p : Nat) (hV : Vok (vT T)) (hP : Ple (pT T)) (hp : p < npV (vT T)) (hS : Sle (vT T) (dT T 2)) (ht : psS (dT T 2) < 2 ^ 31) (hc : cT T 2 < 2 ^ 31) : Md E mX6_passOfDay ad [.ref (ad 0), .int (nI 2), .int (nI p)] (trC E ad 0 T) none (trC E ad 0 (pdT T 2 p)) := by
  obtain ⟨V, X, P, L, O, S, W, ch, mo, z, G, K, bs, br, rg, lr, D⟩ := T
  have hV : Vok V := hV
  have hP : Ple P := hP
  have hp : p < npV V := hp
  have hS : Sle V (D 2) := hS
  have ht : psS (D 2) < 2 ^ 31 := ht
  have hc : ch 2 < 2 ^ 31 := hc
  have v2 := hV.2.1
  have hW := pdW_le (W := W) (ch := ch) (t := psS (D 2)) (k := 2) (p := p) hV hP
  show Md E _ ad _ (trX E ad 0 V X P L O S W ch mo z G K bs br rg lr (D 0) (D 1) (D 2) (D 3) (D 4)) none (trX E ad 0 V X P L O S (pdW V P ch W (psS (D 2)) 2 p) ch mo z G K bs br rg lr (D 0) (D 1) (D 2) (gon V L (pdW V P ch W (psS (D 2)) 2 p) (D 2)) (D 4))
  generalize hw : pdW V P ch W (psS (D 2)) 2 p = W2 at hW ⊢
  generalize D 0 = D0 at *
  generalize D 1 = D1 at *
  generalize D 2 = D2 at *
  generalize D 3 = D3 at *
  generalize D 4 = D4 at *
  refine Md.of 2 (by decide) rfl rfl ?_
  refine Tr.aload_n (i := 0) dX6_passOfDay_0 rfl rfl (Eq.refl 1) ?_
  refine Tr.getf dX6_passOfDay_1 fX6_35 rfl rfl (Eq.refl 4) ?_
  refine Tr.iload_n (i := 1) dX6_passOfDay_4 rfl rfl (Eq.refl 5) ?_
  refine Tr.aald dX6_passOfDay_5 rfl rfl (by decide) (by decide) rfl (Eq.refl 6) ?_
  refine Tr.astore_n (i := 3) dX6_passOfDay_6 rfl rfl rfl (Eq.refl 7) ?_
  refine Tr.aload_n (i := 0) dX6_passOfDay_7 rfl rfl (Eq.refl 8) ?_
  refine Tr.getf dX6_passOfDay_8 fX6_21 rfl rfl (Eq.refl 11) ?_
  refine Tr.aload_n (i := 0) dX6_passOfDay_11 rfl rfl (Eq.refl 12) ?_
  refine Tr.getf dX6_passOfDay_12 fX6_12 rfl rfl (Eq.refl 15) ?_
  refine Tr.aload_n (i := 3) dX6_passOfDay_15 rfl rfl (Eq.refl 16) ?_
  refine Tr.getf dX6_passOfDay_16 fX6_75 rfl rfl (Eq.refl 19) ?_
  refine Tr.aload_n (i := 0) dX6_passOfDay_19 rfl rfl (Eq.refl 20) ?_
  refine Tr.getf dX6_passOfDay_20 fX6_39 rfl rfl (Eq.refl 23) ?_
  refine Tr.callV (L := l_fw) (c_fillWishes E _ P L V X (psS D2) W hV ht) dX6_passOfDay_23 (kX6_78 (Nat.le_of_ble_eq_true rfl)) iX8_fillWishes rfl rfl rfl rfl rfl rfl rfl rfl rfl rfl (Eq.refl 26) ?_
  refine Tr.pic (w' := trX E ad 0 V X P L O S (fwF V P (psS D2) W (npV V)) ch mo z G K bs br rg lr D0 D1 D2 D3 D4) (putB_eq (Lc := [0, 15, 16, 17, 18, 19, 20, 21, 22, 23, 24, 25, 26, 27, 28, 29, 31, 32, 33, 34, 35, 36, 37, 38, 39, 40, 41, 42, 43, 44, 45, 46, 47, 48, 49, 50, 51, 52, 53, 54, 55, 56, 57, 58, 59, 60, 61, 62, 63, 64, 65, 66, 67, 68, 69, 70]) 71 rfl rfl rfl rfl ⟨⟨_, rfl, rfl⟩, ⟨_, rfl, rfl⟩, ⟨_, rfl, rfl⟩, ⟨_, rfl, rfl⟩, ⟨_, rfl, rfl⟩, ⟨_, rfl, rfl⟩, ⟨_, rfl, rfl⟩, ⟨_, rfl, rfl⟩, ⟨_, rfl, rfl⟩, ⟨_, rfl, rfl⟩, ⟨_, rfl, rfl⟩, ⟨_, rfl, rfl⟩, ⟨_, rfl, rfl⟩, ⟨_, rfl, rfl⟩, ⟨_, rfl, rfl⟩, ⟨_, rfl, rfl⟩, ⟨_, rfl, rfl⟩, ⟨_, rfl, rfl⟩, ⟨_, rfl, rfl⟩, ⟨_, rfl, rfl⟩, ⟨_, rfl, rfl⟩, ⟨_, rfl, rfl⟩, ⟨_, rfl, rfl⟩, ⟨_, rfl, rfl⟩, ⟨_, rfl, rfl⟩, ⟨_, rfl, rfl⟩, ⟨_, rfl, rfl⟩, ⟨_, rfl, rfl⟩, ⟨_, rfl, rfl⟩, ⟨_, rfl, rfl⟩, ⟨_, rfl, rfl⟩, ⟨_, rfl, rfl⟩, ⟨_, rfl, rfl⟩, ⟨_, rfl, rfl⟩, ⟨_, rfl, rfl⟩, ⟨_, rfl, rfl⟩, ⟨_, rfl, rfl⟩, ⟨_, rfl, rfl⟩, ⟨_, rfl, rfl⟩, ⟨_, rfl, rfl⟩, ⟨_, rfl, rfl⟩, ⟨_, rfl, rfl⟩, ⟨_, rfl, rfl⟩, ⟨_, rfl, rfl⟩, ⟨_, rfl, rfl⟩, ⟨_, rfl, rfl⟩, ⟨_, rfl, rfl⟩, ⟨_, rfl, rfl⟩, ⟨_, rfl, rfl⟩, ⟨_, rfl, rfl⟩, ⟨_, rfl, rfl⟩, ⟨_, rfl, rfl⟩, ⟨_, rfl, rfl⟩, ⟨_, rfl, rfl⟩, ⟨_, rfl, rfl⟩, ⟨_, rfl, rfl⟩, trivial⟩ (by decide) rfl) ?_
  refine Tr.aload_n (i := 0) dX6_passOfDay_26 rfl rfl (Eq.refl 27) ?_
  refine Tr.getf dX6_passOfDay_27 fX6_12 rfl rfl (Eq.refl 30) ?_
  refine Tr.iload_n (i := 2) dX6_passOfDay_30 rfl rfl (Eq.refl 31) ?_
  refine Tr.aload_n (i := 3) dX6_passOfDay_31 rfl rfl (Eq.refl 32) ?_
  refine Tr.getf dX6_passOfDay_32 fX6_75 rfl rfl (Eq.refl 35) ?_
  refine Tr.callVr (L := l_vi) (c_mustWork E _ V X p (psS D2) hV hp ht) dX6_passOfDay_35 (kX6_116 (Nat.le_of_ble_eq_true rfl)) iX7_mustWork rfl rfl rfl rfl rfl rfl rfl rfl rfl (Eq.refl 38) ?_
  refine Tr.if_neB (tgt := 60) dX6_passOfDay_38 (by decide) (Eq.refl 41) (fun h38 => ?_) (fun h38 => ?_)
  · have hw : fwF V P (psS D2) W (npV V) = W2 := by rw [← hw]; unfold pdW; rw [h38]; rfl
    rw [hw]
    refine Tr.mask [true, true, true, true, false] (lv' := [some (.ref (ad 0)), some (.int (nI 2)), some (.int (nI p)), some (.ref (ad 50)), none]) rfl ?_
    refine Tr.aload_n (i := 0) dX6_passOfDay_60 rfl rfl (Eq.refl 61) ?_
    refine Tr.getf dX6_passOfDay_61 fX6_35 rfl rfl (Eq.refl 64) ?_
    refine Tr.iload_n (i := 1) dX6_passOfDay_64 rfl rfl (Eq.refl 65) ?_
    refine Tr.iconst (v := nI 1) dX6_passOfDay_65 (icN 1) (Eq.refl 66) ?_
    refine Tr.iaddN dX6_passOfDay_66 (Eq.refl 67) ?_
    refine Tr.top (y := nI 3) rfl ?_
    refine Tr.aald dX6_passOfDay_67 rfl rfl (by decide) (by decide) rfl (Eq.refl 68) ?_
    refine Tr.astore dX6_passOfDay_68 rfl rfl (Eq.refl 70) ?_
    refine Tr.aload dX6_passOfDay_70 rfl (Eq.refl 72) ?_
    refine Tr.aload_n (i := 3) dX6_passOfDay_72 rfl rfl (Eq.refl 73) ?_
    refine Tr.callV (L := [57, 58, 59, 60, 61, 62, 63, 50, 51, 52, 53, 54, 55, 56]) (c_scCopy E _ D3 D2) dX6_passOfDay_73 (kX6_68 (Nat.le_of_ble_eq_true rfl)) iX3_copyFrom rfl rfl rfl rfl rfl rfl rfl rfl rfl rfl (Eq.refl 76) ?_
    refine Tr.pic (w' := trX E ad 0 V X P L O S W2 ch mo z G K bs br rg lr D0 D1 D2 D2 D4) (putB_eq (Lc := [0, 1, 2, 3, 4, 5, 6, 7, 8, 9, 10, 11, 12, 13, 14, 15, 16, 17, 18, 19, 20, 21, 22, 23, 24, 25, 26, 27, 28, 29, 30, 31, 32, 33, 34, 35, 36, 37, 38, 39, 40, 41, 42, 43, 44, 45, 46, 47, 48, 49, 64, 65, 66, 67, 68, 69, 70]) 71 rfl rfl rfl rfl ⟨⟨_, rfl, rfl⟩, ⟨_, rfl, rfl⟩, ⟨_, rfl, rfl⟩, ⟨_, rfl, rfl⟩, ⟨_, rfl, rfl⟩, ⟨_, rfl, rfl⟩, ⟨_, rfl, rfl⟩, ⟨_, rfl, rfl⟩, ⟨_, rfl, rfl⟩, ⟨_, rfl, rfl⟩, ⟨_, rfl, rfl⟩, ⟨_, rfl, rfl⟩, ⟨_, rfl, rfl⟩, ⟨_, rfl, rfl⟩, ⟨_, rfl, rfl⟩, ⟨_, rfl, rfl⟩, ⟨_, rfl, rfl⟩, ⟨_, rfl, rfl⟩, ⟨_, rfl, rfl⟩, ⟨_, rfl, rfl⟩, ⟨_, rfl, rfl⟩, ⟨_, rfl, rfl⟩, ⟨_, rfl, rfl⟩, ⟨_, rfl, rfl⟩, ⟨_, rfl, rfl⟩, ⟨_, rfl, rfl⟩, ⟨_, rfl, rfl⟩, ⟨_, rfl, rfl⟩, ⟨_, rfl, rfl⟩, ⟨_, rfl, rfl⟩, ⟨_, rfl, rfl⟩, ⟨_, rfl, rfl⟩, ⟨_, rfl, rfl⟩, ⟨_, rfl, rfl⟩, ⟨_, rfl, rfl⟩, ⟨_, rfl, rfl⟩, ⟨_, rfl, rfl⟩, ⟨_, rfl, rfl⟩, ⟨_, rfl, rfl⟩, ⟨_, rfl, rfl⟩, ⟨_, rfl, rfl⟩, ⟨_, rfl, rfl⟩, ⟨_, rfl, rfl⟩, ⟨_, rfl, rfl⟩, ⟨_, rfl, rfl⟩, ⟨_, rfl, rfl⟩, ⟨_, rfl, rfl⟩, ⟨_, rfl, rfl⟩, ⟨_, rfl, rfl⟩, ⟨_, rfl, rfl⟩, ⟨_, rfl, rfl⟩, ⟨_, rfl, rfl⟩, ⟨_, rfl, rfl⟩, ⟨_, rfl, rfl⟩, ⟨_, rfl, rfl⟩, ⟨_, rfl, rfl⟩, ⟨_, rfl, rfl⟩, trivial⟩ (by decide) rfl) ?_
    refine Tr.aload dX6_passOfDay_76 rfl (Eq.refl 78) ?_
    refine Tr.aload_n (i := 0) dX6_passOfDay_78 rfl rfl (Eq.refl 79) ?_
    refine Tr.getf dX6_passOfDay_79 fX6_12 rfl rfl (Eq.refl 82) ?_
    refine Tr.aload_n (i := 0) dX6_passOfDay_82 rfl rfl (Eq.refl 83) ?_
    refine Tr.getf dX6_passOfDay_83 fX6_21 rfl rfl (Eq.refl 86) ?_
    refine Tr.getf dX6_passOfDay_86 fX6_82 rfl rfl (Eq.refl 89) ?_
    refine Tr.aload_n (i := 0) dX6_passOfDay_89 rfl rfl (Eq.refl 90) ?_
    refine Tr.getf dX6_passOfDay_90 fX6_39 rfl rfl (Eq.refl 93) ?_
    refine Tr.callV (L := [57, 58, 59, 60, 61, 62, 63, 1, 2, 3, 4, 5, 6, 7, 8, 9, 10, 11, 14, 30]) (c_goOn E _ V X D2 L W2 hV hS hW) dX6_passOfDay_93 (kX6_85 (Nat.le_of_ble_eq_true rfl)) iX3_goOn rfl rfl rfl rfl rfl rfl rfl rfl rfl rfl (Eq.refl 96) ?_
    refine Tr.pic (w' := trX E ad 0 V X P L O S W2 ch mo z G K bs br rg lr D0 D1 D2 (gon V L W2 D2) D4) (putB_eq (Lc := [0, 12, 13, 15, 16, 17, 18, 19, 20, 21, 22, 23, 24, 25, 26, 27, 28, 29, 31, 32, 33, 34, 35, 36, 37, 38, 39, 40, 41, 42, 43, 44, 45, 46, 47, 48, 49, 50, 51, 52, 53, 54, 55, 56, 64, 65, 66, 67, 68, 69, 70]) 71 rfl rfl rfl rfl ⟨⟨_, rfl, rfl⟩, ⟨_, rfl, rfl⟩, ⟨_, rfl, rfl⟩, ⟨_, rfl, rfl⟩, ⟨_, rfl, rfl⟩, ⟨_, rfl, rfl⟩, ⟨_, rfl, rfl⟩, ⟨_, rfl, rfl⟩, ⟨_, rfl, rfl⟩, ⟨_, rfl, rfl⟩, ⟨_, rfl, rfl⟩, ⟨_, rfl, rfl⟩, ⟨_, rfl, rfl⟩, ⟨_, rfl, rfl⟩, ⟨_, rfl, rfl⟩, ⟨_, rfl, rfl⟩, ⟨_, rfl, rfl⟩, ⟨_, rfl, rfl⟩, ⟨_, rfl, rfl⟩, ⟨_, rfl, rfl⟩, ⟨_, rfl, rfl⟩, ⟨_, rfl, rfl⟩, ⟨_, rfl, rfl⟩, ⟨_, rfl, rfl⟩, ⟨_, rfl, rfl⟩, ⟨_, rfl, rfl⟩, ⟨_, rfl, rfl⟩, ⟨_, rfl, rfl⟩, ⟨_, rfl, rfl⟩, ⟨_, rfl, rfl⟩, ⟨_, rfl, rfl⟩, ⟨_, rfl, rfl⟩, ⟨_, rfl, rfl⟩, ⟨_, rfl, rfl⟩, ⟨_, rfl, rfl⟩, ⟨_, rfl, rfl⟩, ⟨_, rfl, rfl⟩, ⟨_, rfl, rfl⟩, ⟨_, rfl, rfl⟩, ⟨_, rfl, rfl⟩, ⟨_, rfl, rfl⟩, ⟨_, rfl, rfl⟩, ⟨_, rfl, rfl⟩, ⟨_, rfl, rfl⟩, ⟨_, rfl, rfl⟩, ⟨_, rfl, rfl⟩, ⟨_, rfl, rfl⟩, ⟨_, rfl, rfl⟩, ⟨_, rfl, rfl⟩, ⟨_, rfl, rfl⟩, ⟨_, rfl, rfl⟩, trivial⟩ (by decide) rfl) ?_
    refine Tr.ret dX6_passOfDay_96 rfl rfl ?_
    · rfl
  · have hw : upN (fwF V P (psS D2) W (npV V)) p (plc V (ch 2)) = W2 := by rw [← hw]; unfold pdW; rw [h38]; rfl
    refine Tr.aload_n (i := 0) dX6_passOfDay_41 rfl rfl (Eq.refl 42) ?_
    refine Tr.getf dX6_passOfDay_42 fX6_39 rfl rfl (Eq.refl 45) ?_
    refine Tr.iload_n (i := 2) dX6_passOfDay_45 rfl rfl (Eq.refl 46) ?_
    refine Tr.aload_n (i := 0) dX6_passOfDay_46 rfl rfl (Eq.refl 47) ?_
    refine Tr.aload_n (i := 0) dX6_passOfDay_47 rfl rfl (Eq.refl 48) ?_
    refine Tr.getf dX6_passOfDay_48 fX6_46 rfl rfl (Eq.refl 51) ?_
    refine Tr.getf dX6_passOfDay_51 fX6_120 rfl rfl (Eq.refl 54) ?_
    refine Tr.iload_n (i := 1) dX6_passOfDay_54 rfl rfl (Eq.refl 55) ?_
    refine Tr.ialdN dX6_passOfDay_55 rfl (by decide) (by decide) (Eq.refl 56) ?_
    refine Tr.callVs (c_placeOf E ad (V, X, P, L, O, S, fwF V P (psS D2) W (npV V), ch, mo, z, G, K, bs, br, rg, lr, fun j => if j = 0 then D0 else if j = 1 then D1 else if j = 2 then D2 else if j = 3 then D3 else D4) (ch 2) hV hc) dX6_passOfDay_56 (kX6_123 (Nat.le_of_ble_eq_true rfl)) iX6_placeOf rfl rfl rfl rfl rfl (Nat.le_refl _) rfl rfl (Eq.refl 59) ?_
    refine Tr.iastN dX6_passOfDay_59 rfl (by omega) (by decide) (Eq.refl 60) ?_
    refine Tr.pic (w' := trX E ad 0 V X P L O S W2 ch mo z G K bs br rg lr D0 D1 D2 D3 D4) (by rw [← hw]; unfold trX; rw [cl_upN]; rfl) ?_
    refine Tr.mask [true, true, true, true, false] (lv' := [some (.ref (ad 0)), some (.int (nI 2)), some (.int (nI p)), some (.ref (ad 50)), none]) rfl ?_
    refine Tr.aload_n (i := 0) dX6_passOfDay_60 rfl rfl (Eq.refl 61) ?_
    refine Tr.getf dX6_passOfDay_61 fX6_35 rfl rfl (Eq.refl 64) ?_
    refine Tr.iload_n (i := 1) dX6_passOfDay_64 rfl rfl (Eq.refl 65) ?_
    refine Tr.iconst (v := nI 1) dX6_passOfDay_65 (icN 1) (Eq.refl 66) ?_
    refine Tr.iaddN dX6_passOfDay_66 (Eq.refl 67) ?_
    refine Tr.top (y := nI 3) rfl ?_
    refine Tr.aald dX6_passOfDay_67 rfl rfl (by decide) (by decide) rfl (Eq.refl 68) ?_
    refine Tr.astore dX6_passOfDay_68 rfl rfl (Eq.refl 70) ?_
    refine Tr.aload dX6_passOfDay_70 rfl (Eq.refl 72) ?_
    refine Tr.aload_n (i := 3) dX6_passOfDay_72 rfl rfl (Eq.refl 73) ?_
    refine Tr.callV (L := [57, 58, 59, 60, 61, 62, 63, 50, 51, 52, 53, 54, 55, 56]) (c_scCopy E _ D3 D2) dX6_passOfDay_73 (kX6_68 (Nat.le_of_ble_eq_true rfl)) iX3_copyFrom rfl rfl rfl rfl rfl rfl rfl rfl rfl rfl (Eq.refl 76) ?_
    refine Tr.pic (w' := trX E ad 0 V X P L O S W2 ch mo z G K bs br rg lr D0 D1 D2 D2 D4) (putB_eq (Lc := [0, 1, 2, 3, 4, 5, 6, 7, 8, 9, 10, 11, 12, 13, 14, 15, 16, 17, 18, 19, 20, 21, 22, 23, 24, 25, 26, 27, 28, 29, 30, 31, 32, 33, 34, 35, 36, 37, 38, 39, 40, 41, 42, 43, 44, 45, 46, 47, 48, 49, 64, 65, 66, 67, 68, 69, 70]) 71 rfl rfl rfl rfl ⟨⟨_, rfl, rfl⟩, ⟨_, rfl, rfl⟩, ⟨_, rfl, rfl⟩, ⟨_, rfl, rfl⟩, ⟨_, rfl, rfl⟩, ⟨_, rfl, rfl⟩, ⟨_, rfl, rfl⟩, ⟨_, rfl, rfl⟩, ⟨_, rfl, rfl⟩, ⟨_, rfl, rfl⟩, ⟨_, rfl, rfl⟩, ⟨_, rfl, rfl⟩, ⟨_, rfl, rfl⟩, ⟨_, rfl, rfl⟩, ⟨_, rfl, rfl⟩, ⟨_, rfl, rfl⟩, ⟨_, rfl, rfl⟩, ⟨_, rfl, rfl⟩, ⟨_, rfl, rfl⟩, ⟨_, rfl, rfl⟩, ⟨_, rfl, rfl⟩, ⟨_, rfl, rfl⟩, ⟨_, rfl, rfl⟩, ⟨_, rfl, rfl⟩, ⟨_, rfl, rfl⟩, ⟨_, rfl, rfl⟩, ⟨_, rfl, rfl⟩, ⟨_, rfl, rfl⟩, ⟨_, rfl, rfl⟩, ⟨_, rfl, rfl⟩, ⟨_, rfl, rfl⟩, ⟨_, rfl, rfl⟩, ⟨_, rfl, rfl⟩, ⟨_, rfl, rfl⟩, ⟨_, rfl, rfl⟩, ⟨_, rfl, rfl⟩, ⟨_, rfl, rfl⟩, ⟨_, rfl, rfl⟩, ⟨_, rfl, rfl⟩, ⟨_, rfl, rfl⟩, ⟨_, rfl, rfl⟩, ⟨_, rfl, rfl⟩, ⟨_, rfl, rfl⟩, ⟨_, rfl, rfl⟩, ⟨_, rfl, rfl⟩, ⟨_, rfl, rfl⟩, ⟨_, rfl, rfl⟩, ⟨_, rfl, rfl⟩, ⟨_, rfl, rfl⟩, ⟨_, rfl, rfl⟩, ⟨_, rfl, rfl⟩, ⟨_, rfl, rfl⟩, ⟨_, rfl, rfl⟩, ⟨_, rfl, rfl⟩, ⟨_, rfl, rfl⟩, ⟨_, rfl, rfl⟩, ⟨_, rfl, rfl⟩, trivial⟩ (by decide) rfl) ?_
    refine Tr.aload dX6_passOfDay_76 rfl (Eq.refl 78) ?_
    refine Tr.aload_n (i := 0) dX6_passOfDay_78 rfl rfl (Eq.refl 79) ?_
    refine Tr.getf dX6_passOfDay_79 fX6_12 rfl rfl (Eq.refl 82) ?_
    refine Tr.aload_n (i := 0) dX6_passOfDay_82 rfl rfl (Eq.refl 83) ?_
    refine Tr.getf dX6_passOfDay_83 fX6_21 rfl rfl (Eq.refl 86) ?_
    refine Tr.getf dX6_passOfDay_86 fX6_82 rfl rfl (Eq.refl 89) ?_
    refine Tr.aload_n (i := 0) dX6_passOfDay_89 rfl rfl (Eq.refl 90) ?_
    refine Tr.getf dX6_passOfDay_90 fX6_39 rfl rfl (Eq.refl 93) ?_
    refine Tr.callV (L := [57, 58, 59, 60, 61, 62, 63, 1, 2, 3, 4, 5, 6, 7, 8, 9, 10, 11, 14, 30]) (c_goOn E _ V X D2 L W2 hV hS hW) dX6_passOfDay_93 (kX6_85 (Nat.le_of_ble_eq_true rfl)) iX3_goOn rfl rfl rfl rfl rfl rfl rfl rfl rfl rfl (Eq.refl 96) ?_
    refine Tr.pic (w' := trX E ad 0 V X P L O S W2 ch mo z G K bs br rg lr D0 D1 D2 (gon V L W2 D2) D4) (putB_eq (Lc := [0, 12, 13, 15, 16, 17, 18, 19, 20, 21, 22, 23, 24, 25, 26, 27, 28, 29, 31, 32, 33, 34, 35, 36, 37, 38, 39, 40, 41, 42, 43, 44, 45, 46, 47, 48, 49, 50, 51, 52, 53, 54, 55, 56, 64, 65, 66, 67, 68, 69, 70]) 71 rfl rfl rfl rfl ⟨⟨_, rfl, rfl⟩, ⟨_, rfl, rfl⟩, ⟨_, rfl, rfl⟩, ⟨_, rfl, rfl⟩, ⟨_, rfl, rfl⟩, ⟨_, rfl, rfl⟩, ⟨_, rfl, rfl⟩, ⟨_, rfl, rfl⟩, ⟨_, rfl, rfl⟩, ⟨_, rfl, rfl⟩, ⟨_, rfl, rfl⟩, ⟨_, rfl, rfl⟩, ⟨_, rfl, rfl⟩, ⟨_, rfl, rfl⟩, ⟨_, rfl, rfl⟩, ⟨_, rfl, rfl⟩, ⟨_, rfl, rfl⟩, ⟨_, rfl, rfl⟩, ⟨_, rfl, rfl⟩, ⟨_, rfl, rfl⟩, ⟨_, rfl, rfl⟩, ⟨_, rfl, rfl⟩, ⟨_, rfl, rfl⟩, ⟨_, rfl, rfl⟩, ⟨_, rfl, rfl⟩, ⟨_, rfl, rfl⟩, ⟨_, rfl, rfl⟩, ⟨_, rfl, rfl⟩, ⟨_, rfl, rfl⟩, ⟨_, rfl, rfl⟩, ⟨_, rfl, rfl⟩, ⟨_, rfl, rfl⟩, ⟨_, rfl, rfl⟩, ⟨_, rfl, rfl⟩, ⟨_, rfl, rfl⟩, ⟨_, rfl, rfl⟩, ⟨_, rfl, rfl⟩, ⟨_, rfl, rfl⟩, ⟨_, rfl, rfl⟩, ⟨_, rfl, rfl⟩, ⟨_, rfl, rfl⟩, ⟨_, rfl, rfl⟩, ⟨_, rfl, rfl⟩, ⟨_, rfl, rfl⟩, ⟨_, rfl, rfl⟩, ⟨_, rfl, rfl⟩, ⟨_, rfl, rfl⟩, ⟨_, rfl, rfl⟩, ⟨_, rfl, rfl⟩, ⟨_, rfl, rfl⟩, ⟨_, rfl, rfl⟩, trivial⟩ (by decide) rfl) ?_
    refine Tr.ret dX6_passOfDay_96 rfl rfl ?_
    · rfl
set_option maxHeartbeats 4000000 in
set_option maxRecDepth 100000 in
theorem c_passOfDay_3 (E : EnvT) (ad : Nat → Nat) (T : Tst) (p : Nat) (hV : Vok (vT T)) (hP : Ple (pT T)) (hp : p < npV (vT T)) (hS : Sle (vT T) (dT T 3)) (ht : psS (dT T 3) < 2 ^ 31) (hc : cT T 3 < 2 ^ 31) : Md E mX6_passOfDay ad [.ref (ad 0), .int (nI 3), .int (nI p)] (trC E ad 0 T) none (trC E ad 0 (pdT T 3 p)) := by
  obtain ⟨V, X, P, L, O, S, W, ch, mo, z, G, K, bs, br, rg, lr, D⟩ := T
  have hV : Vok V := hV
  have hP : Ple P := hP
  have hp : p < npV V := hp
  have hS : Sle V (D 3) := hS
  have ht : psS (D 3) < 2 ^ 31 := ht
  have hc : ch 3 < 2 ^ 31 := hc
  have v2 := hV.2.1
  have hW := pdW_le (W := W) (ch := ch) (t := psS (D 3)) (k := 3) (p := p) hV hP
  show Md E _ ad _ (trX E ad 0 V X P L O S W ch mo z G K bs br rg lr (D 0) (D 1) (D 2) (D 3) (D 4)) none (trX E ad 0 V X P L O S (pdW V P ch W (psS (D 3)) 3 p) ch mo z G K bs br rg lr (D 0) (D 1) (D 2) (D 3) (gon V L (pdW V P ch W (psS (D 3)) 3 p) (D 3)))
  generalize hw : pdW V P ch W (psS (D 3)) 3 p = W2 at hW ⊢
  generalize D 0 = D0 at *
  generalize D 1 = D1 at *
  generalize D 2 = D2 at *
  generalize D 3 = D3 at *
  generalize D 4 = D4 at *
  refine Md.of 2 (by decide) rfl rfl ?_
  refine Tr.aload_n (i := 0) dX6_passOfDay_0 rfl rfl (Eq.refl 1) ?_
  refine Tr.getf dX6_passOfDay_1 fX6_35 rfl rfl (Eq.refl 4) ?_
  refine Tr.iload_n (i := 1) dX6_passOfDay_4 rfl rfl (Eq.refl 5) ?_
  refine Tr.aald dX6_passOfDay_5 rfl rfl (by decide) (by decide) rfl (Eq.refl 6) ?_
  refine Tr.astore_n (i := 3) dX6_passOfDay_6 rfl rfl rfl (Eq.refl 7) ?_
  refine Tr.aload_n (i := 0) dX6_passOfDay_7 rfl rfl (Eq.refl 8) ?_
  refine Tr.getf dX6_passOfDay_8 fX6_21 rfl rfl (Eq.refl 11) ?_
  refine Tr.aload_n (i := 0) dX6_passOfDay_11 rfl rfl (Eq.refl 12) ?_
  refine Tr.getf dX6_passOfDay_12 fX6_12 rfl rfl (Eq.refl 15) ?_
  refine Tr.aload_n (i := 3) dX6_passOfDay_15 rfl rfl (Eq.refl 16) ?_
  refine Tr.getf dX6_passOfDay_16 fX6_75 rfl rfl (Eq.refl 19) ?_
  refine Tr.aload_n (i := 0) dX6_passOfDay_19 rfl rfl (Eq.refl 20) ?_
  refine Tr.getf dX6_passOfDay_20 fX6_39 rfl rfl (Eq.refl 23) ?_
  refine Tr.callV (L := l_fw) (c_fillWishes E _ P L V X (psS D3) W hV ht) dX6_passOfDay_23 (kX6_78 (Nat.le_of_ble_eq_true rfl)) iX8_fillWishes rfl rfl rfl rfl rfl rfl rfl rfl rfl rfl (Eq.refl 26) ?_
  refine Tr.pic (w' := trX E ad 0 V X P L O S (fwF V P (psS D3) W (npV V)) ch mo z G K bs br rg lr D0 D1 D2 D3 D4) (putB_eq (Lc := [0, 15, 16, 17, 18, 19, 20, 21, 22, 23, 24, 25, 26, 27, 28, 29, 31, 32, 33, 34, 35, 36, 37, 38, 39, 40, 41, 42, 43, 44, 45, 46, 47, 48, 49, 50, 51, 52, 53, 54, 55, 56, 57, 58, 59, 60, 61, 62, 63, 64, 65, 66, 67, 68, 69, 70]) 71 rfl rfl rfl rfl ⟨⟨_, rfl, rfl⟩, ⟨_, rfl, rfl⟩, ⟨_, rfl, rfl⟩, ⟨_, rfl, rfl⟩, ⟨_, rfl, rfl⟩, ⟨_, rfl, rfl⟩, ⟨_, rfl, rfl⟩, ⟨_, rfl, rfl⟩, ⟨_, rfl, rfl⟩, ⟨_, rfl, rfl⟩, ⟨_, rfl, rfl⟩, ⟨_, rfl, rfl⟩, ⟨_, rfl, rfl⟩, ⟨_, rfl, rfl⟩, ⟨_, rfl, rfl⟩, ⟨_, rfl, rfl⟩, ⟨_, rfl, rfl⟩, ⟨_, rfl, rfl⟩, ⟨_, rfl, rfl⟩, ⟨_, rfl, rfl⟩, ⟨_, rfl, rfl⟩, ⟨_, rfl, rfl⟩, ⟨_, rfl, rfl⟩, ⟨_, rfl, rfl⟩, ⟨_, rfl, rfl⟩, ⟨_, rfl, rfl⟩, ⟨_, rfl, rfl⟩, ⟨_, rfl, rfl⟩, ⟨_, rfl, rfl⟩, ⟨_, rfl, rfl⟩, ⟨_, rfl, rfl⟩, ⟨_, rfl, rfl⟩, ⟨_, rfl, rfl⟩, ⟨_, rfl, rfl⟩, ⟨_, rfl, rfl⟩, ⟨_, rfl, rfl⟩, ⟨_, rfl, rfl⟩, ⟨_, rfl, rfl⟩, ⟨_, rfl, rfl⟩, ⟨_, rfl, rfl⟩, ⟨_, rfl, rfl⟩, ⟨_, rfl, rfl⟩, ⟨_, rfl, rfl⟩, ⟨_, rfl, rfl⟩, ⟨_, rfl, rfl⟩, ⟨_, rfl, rfl⟩, ⟨_, rfl, rfl⟩, ⟨_, rfl, rfl⟩, ⟨_, rfl, rfl⟩, ⟨_, rfl, rfl⟩, ⟨_, rfl, rfl⟩, ⟨_, rfl, rfl⟩, ⟨_, rfl, rfl⟩, ⟨_, rfl, rfl⟩, ⟨_, rfl, rfl⟩, ⟨_, rfl, rfl⟩, trivial⟩ (by decide) rfl) ?_
  refine Tr.aload_n (i := 0) dX6_passOfDay_26 rfl rfl (Eq.refl 27) ?_
  refine Tr.getf dX6_passOfDay_27 fX6_12 rfl rfl (Eq.refl 30) ?_
  refine Tr.iload_n (i := 2) dX6_passOfDay_30 rfl rfl (Eq.refl 31) ?_
  refine Tr.aload_n (i := 3) dX6_passOfDay_31 rfl rfl (Eq.refl 32) ?_
  refine Tr.getf dX6_passOfDay_32 fX6_75 rfl rfl (Eq.refl 35) ?_
  refine Tr.callVr (L := l_vi) (c_mustWork E _ V X p (psS D3) hV hp ht) dX6_passOfDay_35 (kX6_116 (Nat.le_of_ble_eq_true rfl)) iX7_mustWork rfl rfl rfl rfl rfl rfl rfl rfl rfl (Eq.refl 38) ?_
  refine Tr.if_neB (tgt := 60) dX6_passOfDay_38 (by decide) (Eq.refl 41) (fun h38 => ?_) (fun h38 => ?_)
  · have hw : fwF V P (psS D3) W (npV V) = W2 := by rw [← hw]; unfold pdW; rw [h38]; rfl
    rw [hw]
    refine Tr.mask [true, true, true, true, false] (lv' := [some (.ref (ad 0)), some (.int (nI 3)), some (.int (nI p)), some (.ref (ad 57)), none]) rfl ?_
    refine Tr.aload_n (i := 0) dX6_passOfDay_60 rfl rfl (Eq.refl 61) ?_
    refine Tr.getf dX6_passOfDay_61 fX6_35 rfl rfl (Eq.refl 64) ?_
    refine Tr.iload_n (i := 1) dX6_passOfDay_64 rfl rfl (Eq.refl 65) ?_
    refine Tr.iconst (v := nI 1) dX6_passOfDay_65 (icN 1) (Eq.refl 66) ?_
    refine Tr.iaddN dX6_passOfDay_66 (Eq.refl 67) ?_
    refine Tr.top (y := nI 4) rfl ?_
    refine Tr.aald dX6_passOfDay_67 rfl rfl (by decide) (by decide) rfl (Eq.refl 68) ?_
    refine Tr.astore dX6_passOfDay_68 rfl rfl (Eq.refl 70) ?_
    refine Tr.aload dX6_passOfDay_70 rfl (Eq.refl 72) ?_
    refine Tr.aload_n (i := 3) dX6_passOfDay_72 rfl rfl (Eq.refl 73) ?_
    refine Tr.callV (L := [64, 65, 66, 67, 68, 69, 70, 57, 58, 59, 60, 61, 62, 63]) (c_scCopy E _ D4 D3) dX6_passOfDay_73 (kX6_68 (Nat.le_of_ble_eq_true rfl)) iX3_copyFrom rfl rfl rfl rfl rfl rfl rfl rfl rfl rfl (Eq.refl 76) ?_
    refine Tr.pic (w' := trX E ad 0 V X P L O S W2 ch mo z G K bs br rg lr D0 D1 D2 D3 D3) (putB_eq (Lc := [0, 1, 2, 3, 4, 5, 6, 7, 8, 9, 10, 11, 12, 13, 14, 15, 16, 17, 18, 19, 20, 21, 22, 23, 24, 25, 26, 27, 28, 29, 30, 31, 32, 33, 34, 35, 36, 37, 38, 39, 40, 41, 42, 43, 44, 45, 46, 47, 48, 49, 50, 51, 52, 53, 54, 55, 56]) 71 rfl rfl rfl rfl ⟨⟨_, rfl, rfl⟩, ⟨_, rfl, rfl⟩, ⟨_, rfl, rfl⟩, ⟨_, rfl, rfl⟩, ⟨_, rfl, rfl⟩, ⟨_, rfl, rfl⟩, ⟨_, rfl, rfl⟩, ⟨_, rfl, rfl⟩, ⟨_, rfl, rfl⟩, ⟨_, rfl, rfl⟩, ⟨_, rfl, rfl⟩, ⟨_, rfl, rfl⟩, ⟨_, rfl, rfl⟩, ⟨_, rfl, rfl⟩, ⟨_, rfl, rfl⟩, ⟨_, rfl, rfl⟩, ⟨_, rfl, rfl⟩, ⟨_, rfl, rfl⟩, ⟨_, rfl, rfl⟩, ⟨_, rfl, rfl⟩, ⟨_, rfl, rfl⟩, ⟨_, rfl, rfl⟩, ⟨_, rfl, rfl⟩, ⟨_, rfl, rfl⟩, ⟨_, rfl, rfl⟩, ⟨_, rfl, rfl⟩, ⟨_, rfl, rfl⟩, ⟨_, rfl, rfl⟩, ⟨_, rfl, rfl⟩, ⟨_, rfl, rfl⟩, ⟨_, rfl, rfl⟩, ⟨_, rfl, rfl⟩, ⟨_, rfl, rfl⟩, ⟨_, rfl, rfl⟩, ⟨_, rfl, rfl⟩, ⟨_, rfl, rfl⟩, ⟨_, rfl, rfl⟩, ⟨_, rfl, rfl⟩, ⟨_, rfl, rfl⟩, ⟨_, rfl, rfl⟩, ⟨_, rfl, rfl⟩, ⟨_, rfl, rfl⟩, ⟨_, rfl, rfl⟩, ⟨_, rfl, rfl⟩, ⟨_, rfl, rfl⟩, ⟨_, rfl, rfl⟩, ⟨_, rfl, rfl⟩, ⟨_, rfl, rfl⟩, ⟨_, rfl, rfl⟩, ⟨_, rfl, rfl⟩, ⟨_, rfl, rfl⟩, ⟨_, rfl, rfl⟩, ⟨_, rfl, rfl⟩, ⟨_, rfl, rfl⟩, ⟨_, rfl, rfl⟩, ⟨_, rfl, rfl⟩, ⟨_, rfl, rfl⟩, trivial⟩ (by decide) rfl) ?_
    refine Tr.aload dX6_passOfDay_76 rfl (Eq.refl 78) ?_
    refine Tr.aload_n (i := 0) dX6_passOfDay_78 rfl rfl (Eq.refl 79) ?_
    refine Tr.getf dX6_passOfDay_79 fX6_12 rfl rfl (Eq.refl 82) ?_
    refine Tr.aload_n (i := 0) dX6_passOfDay_82 rfl rfl (Eq.refl 83) ?_
    refine Tr.getf dX6_passOfDay_83 fX6_21 rfl rfl (Eq.refl 86) ?_
    refine Tr.getf dX6_passOfDay_86 fX6_82 rfl rfl (Eq.refl 89) ?_
    refine Tr.aload_n (i := 0) dX6_passOfDay_89 rfl rfl (Eq.refl 90) ?_
    refine Tr.getf dX6_passOfDay_90 fX6_39 rfl rfl (Eq.refl 93) ?_
    refine Tr.callV (L := [64, 65, 66, 67, 68, 69, 70, 1, 2, 3, 4, 5, 6, 7, 8, 9, 10, 11, 14, 30]) (c_goOn E _ V X D3 L W2 hV hS hW) dX6_passOfDay_93 (kX6_85 (Nat.le_of_ble_eq_true rfl)) iX3_goOn rfl rfl rfl rfl rfl rfl rfl rfl rfl rfl (Eq.refl 96) ?_
    refine Tr.pic (w' := trX E ad 0 V X P L O S W2 ch mo z G K bs br rg lr D0 D1 D2 D3 (gon V L W2 D3)) (putB_eq (Lc := [0, 12, 13, 15, 16, 17, 18, 19, 20, 21, 22, 23, 24, 25, 26, 27, 28, 29, 31, 32, 33, 34, 35, 36, 37, 38, 39, 40, 41, 42, 43, 44, 45, 46, 47, 48, 49, 50, 51, 52, 53, 54, 55, 56, 57, 58, 59, 60, 61, 62, 63]) 71 rfl rfl rfl rfl ⟨⟨_, rfl, rfl⟩, ⟨_, rfl, rfl⟩, ⟨_, rfl, rfl⟩, ⟨_, rfl, rfl⟩, ⟨_, rfl, rfl⟩, ⟨_, rfl, rfl⟩, ⟨_, rfl, rfl⟩, ⟨_, rfl, rfl⟩, ⟨_, rfl, rfl⟩, ⟨_, rfl, rfl⟩, ⟨_, rfl, rfl⟩, ⟨_, rfl, rfl⟩, ⟨_, rfl, rfl⟩, ⟨_, rfl, rfl⟩, ⟨_, rfl, rfl⟩, ⟨_, rfl, rfl⟩, ⟨_, rfl, rfl⟩, ⟨_, rfl, rfl⟩, ⟨_, rfl, rfl⟩, ⟨_, rfl, rfl⟩, ⟨_, rfl, rfl⟩, ⟨_, rfl, rfl⟩, ⟨_, rfl, rfl⟩, ⟨_, rfl, rfl⟩, ⟨_, rfl, rfl⟩, ⟨_, rfl, rfl⟩, ⟨_, rfl, rfl⟩, ⟨_, rfl, rfl⟩, ⟨_, rfl, rfl⟩, ⟨_, rfl, rfl⟩, ⟨_, rfl, rfl⟩, ⟨_, rfl, rfl⟩, ⟨_, rfl, rfl⟩, ⟨_, rfl, rfl⟩, ⟨_, rfl, rfl⟩, ⟨_, rfl, rfl⟩, ⟨_, rfl, rfl⟩, ⟨_, rfl, rfl⟩, ⟨_, rfl, rfl⟩, ⟨_, rfl, rfl⟩, ⟨_, rfl, rfl⟩, ⟨_, rfl, rfl⟩, ⟨_, rfl, rfl⟩, ⟨_, rfl, rfl⟩, ⟨_, rfl, rfl⟩, ⟨_, rfl, rfl⟩, ⟨_, rfl, rfl⟩, ⟨_, rfl, rfl⟩, ⟨_, rfl, rfl⟩, ⟨_, rfl, rfl⟩, ⟨_, rfl, rfl⟩, trivial⟩ (by decide) rfl) ?_
    refine Tr.ret dX6_passOfDay_96 rfl rfl ?_
    · rfl
  · have hw : upN (fwF V P (psS D3) W (npV V)) p (plc V (ch 3)) = W2 := by rw [← hw]; unfold pdW; rw [h38]; rfl
    refine Tr.aload_n (i := 0) dX6_passOfDay_41 rfl rfl (Eq.refl 42) ?_
    refine Tr.getf dX6_passOfDay_42 fX6_39 rfl rfl (Eq.refl 45) ?_
    refine Tr.iload_n (i := 2) dX6_passOfDay_45 rfl rfl (Eq.refl 46) ?_
    refine Tr.aload_n (i := 0) dX6_passOfDay_46 rfl rfl (Eq.refl 47) ?_
    refine Tr.aload_n (i := 0) dX6_passOfDay_47 rfl rfl (Eq.refl 48) ?_
    refine Tr.getf dX6_passOfDay_48 fX6_46 rfl rfl (Eq.refl 51) ?_
    refine Tr.getf dX6_passOfDay_51 fX6_120 rfl rfl (Eq.refl 54) ?_
    refine Tr.iload_n (i := 1) dX6_passOfDay_54 rfl rfl (Eq.refl 55) ?_
    refine Tr.ialdN dX6_passOfDay_55 rfl (by decide) (by decide) (Eq.refl 56) ?_
    refine Tr.callVs (c_placeOf E ad (V, X, P, L, O, S, fwF V P (psS D3) W (npV V), ch, mo, z, G, K, bs, br, rg, lr, fun j => if j = 0 then D0 else if j = 1 then D1 else if j = 2 then D2 else if j = 3 then D3 else D4) (ch 3) hV hc) dX6_passOfDay_56 (kX6_123 (Nat.le_of_ble_eq_true rfl)) iX6_placeOf rfl rfl rfl rfl rfl (Nat.le_refl _) rfl rfl (Eq.refl 59) ?_
    refine Tr.iastN dX6_passOfDay_59 rfl (by omega) (by decide) (Eq.refl 60) ?_
    refine Tr.pic (w' := trX E ad 0 V X P L O S W2 ch mo z G K bs br rg lr D0 D1 D2 D3 D4) (by rw [← hw]; unfold trX; rw [cl_upN]; rfl) ?_
    refine Tr.mask [true, true, true, true, false] (lv' := [some (.ref (ad 0)), some (.int (nI 3)), some (.int (nI p)), some (.ref (ad 57)), none]) rfl ?_
    refine Tr.aload_n (i := 0) dX6_passOfDay_60 rfl rfl (Eq.refl 61) ?_
    refine Tr.getf dX6_passOfDay_61 fX6_35 rfl rfl (Eq.refl 64) ?_
    refine Tr.iload_n (i := 1) dX6_passOfDay_64 rfl rfl (Eq.refl 65) ?_
    refine Tr.iconst (v := nI 1) dX6_passOfDay_65 (icN 1) (Eq.refl 66) ?_
    refine Tr.iaddN dX6_passOfDay_66 (Eq.refl 67) ?_
    refine Tr.top (y := nI 4) rfl ?_
    refine Tr.aald dX6_passOfDay_67 rfl rfl (by decide) (by decide) rfl (Eq.refl 68) ?_
    refine Tr.astore dX6_passOfDay_68 rfl rfl (Eq.refl 70) ?_
    refine Tr.aload dX6_passOfDay_70 rfl (Eq.refl 72) ?_
    refine Tr.aload_n (i := 3) dX6_passOfDay_72 rfl rfl (Eq.refl 73) ?_
    refine Tr.callV (L := [64, 65, 66, 67, 68, 69, 70, 57, 58, 59, 60, 61, 62, 63]) (c_scCopy E _ D4 D3) dX6_passOfDay_73 (kX6_68 (Nat.le_of_ble_eq_true rfl)) iX3_copyFrom rfl rfl rfl rfl rfl rfl rfl rfl rfl rfl (Eq.refl 76) ?_
    refine Tr.pic (w' := trX E ad 0 V X P L O S W2 ch mo z G K bs br rg lr D0 D1 D2 D3 D3) (putB_eq (Lc := [0, 1, 2, 3, 4, 5, 6, 7, 8, 9, 10, 11, 12, 13, 14, 15, 16, 17, 18, 19, 20, 21, 22, 23, 24, 25, 26, 27, 28, 29, 30, 31, 32, 33, 34, 35, 36, 37, 38, 39, 40, 41, 42, 43, 44, 45, 46, 47, 48, 49, 50, 51, 52, 53, 54, 55, 56]) 71 rfl rfl rfl rfl ⟨⟨_, rfl, rfl⟩, ⟨_, rfl, rfl⟩, ⟨_, rfl, rfl⟩, ⟨_, rfl, rfl⟩, ⟨_, rfl, rfl⟩, ⟨_, rfl, rfl⟩, ⟨_, rfl, rfl⟩, ⟨_, rfl, rfl⟩, ⟨_, rfl, rfl⟩, ⟨_, rfl, rfl⟩, ⟨_, rfl, rfl⟩, ⟨_, rfl, rfl⟩, ⟨_, rfl, rfl⟩, ⟨_, rfl, rfl⟩, ⟨_, rfl, rfl⟩, ⟨_, rfl, rfl⟩, ⟨_, rfl, rfl⟩, ⟨_, rfl, rfl⟩, ⟨_, rfl, rfl⟩, ⟨_, rfl, rfl⟩, ⟨_, rfl, rfl⟩, ⟨_, rfl, rfl⟩, ⟨_, rfl, rfl⟩, ⟨_, rfl, rfl⟩, ⟨_, rfl, rfl⟩, ⟨_, rfl, rfl⟩, ⟨_, rfl, rfl⟩, ⟨_, rfl, rfl⟩, ⟨_, rfl, rfl⟩, ⟨_, rfl, rfl⟩, ⟨_, rfl, rfl⟩, ⟨_, rfl, rfl⟩, ⟨_, rfl, rfl⟩, ⟨_, rfl, rfl⟩, ⟨_, rfl, rfl⟩, ⟨_, rfl, rfl⟩, ⟨_, rfl, rfl⟩, ⟨_, rfl, rfl⟩, ⟨_, rfl, rfl⟩, ⟨_, rfl, rfl⟩, ⟨_, rfl, rfl⟩, ⟨_, rfl, rfl⟩, ⟨_, rfl, rfl⟩, ⟨_, rfl, rfl⟩, ⟨_, rfl, rfl⟩, ⟨_, rfl, rfl⟩, ⟨_, rfl, rfl⟩, ⟨_, rfl, rfl⟩, ⟨_, rfl, rfl⟩, ⟨_, rfl, rfl⟩, ⟨_, rfl, rfl⟩, ⟨_, rfl, rfl⟩, ⟨_, rfl, rfl⟩, ⟨_, rfl, rfl⟩, ⟨_, rfl, rfl⟩, ⟨_, rfl, rfl⟩, ⟨_, rfl, rfl⟩, trivial⟩ (by decide) rfl) ?_
    refine Tr.aload dX6_passOfDay_76 rfl (Eq.refl 78) ?_
    refine Tr.aload_n (i := 0) dX6_passOfDay_78 rfl rfl (Eq.refl 79) ?_
    refine Tr.getf dX6_passOfDay_79 fX6_12 rfl rfl (Eq.refl 82) ?_
    refine Tr.aload_n (i := 0) dX6_passOfDay_82 rfl rfl (Eq.refl 83) ?_
    refine Tr.getf dX6_passOfDay_83 fX6_21 rfl rfl (Eq.refl 86) ?_
    refine Tr.getf dX6_passOfDay_86 fX6_82 rfl rfl (Eq.refl 89) ?_
    refine Tr.aload_n (i := 0) dX6_passOfDay_89 rfl rfl (Eq.refl 90) ?_
    refine Tr.getf dX6_passOfDay_90 fX6_39 rfl rfl (Eq.refl 93) ?_
    refine Tr.callV (L := [64, 65, 66, 67, 68, 69, 70, 1, 2, 3, 4, 5, 6, 7, 8, 9, 10, 11, 14, 30]) (c_goOn E _ V X D3 L W2 hV hS hW) dX6_passOfDay_93 (kX6_85 (Nat.le_of_ble_eq_true rfl)) iX3_goOn rfl rfl rfl rfl rfl rfl rfl rfl rfl rfl (Eq.refl 96) ?_
    refine Tr.pic (w' := trX E ad 0 V X P L O S W2 ch mo z G K bs br rg lr D0 D1 D2 D3 (gon V L W2 D3)) (putB_eq (Lc := [0, 12, 13, 15, 16, 17, 18, 19, 20, 21, 22, 23, 24, 25, 26, 27, 28, 29, 31, 32, 33, 34, 35, 36, 37, 38, 39, 40, 41, 42, 43, 44, 45, 46, 47, 48, 49, 50, 51, 52, 53, 54, 55, 56, 57, 58, 59, 60, 61, 62, 63]) 71 rfl rfl rfl rfl ⟨⟨_, rfl, rfl⟩, ⟨_, rfl, rfl⟩, ⟨_, rfl, rfl⟩, ⟨_, rfl, rfl⟩, ⟨_, rfl, rfl⟩, ⟨_, rfl, rfl⟩, ⟨_, rfl, rfl⟩, ⟨_, rfl, rfl⟩, ⟨_, rfl, rfl⟩, ⟨_, rfl, rfl⟩, ⟨_, rfl, rfl⟩, ⟨_, rfl, rfl⟩, ⟨_, rfl, rfl⟩, ⟨_, rfl, rfl⟩, ⟨_, rfl, rfl⟩, ⟨_, rfl, rfl⟩, ⟨_, rfl, rfl⟩, ⟨_, rfl, rfl⟩, ⟨_, rfl, rfl⟩, ⟨_, rfl, rfl⟩, ⟨_, rfl, rfl⟩, ⟨_, rfl, rfl⟩, ⟨_, rfl, rfl⟩, ⟨_, rfl, rfl⟩, ⟨_, rfl, rfl⟩, ⟨_, rfl, rfl⟩, ⟨_, rfl, rfl⟩, ⟨_, rfl, rfl⟩, ⟨_, rfl, rfl⟩, ⟨_, rfl, rfl⟩, ⟨_, rfl, rfl⟩, ⟨_, rfl, rfl⟩, ⟨_, rfl, rfl⟩, ⟨_, rfl, rfl⟩, ⟨_, rfl, rfl⟩, ⟨_, rfl, rfl⟩, ⟨_, rfl, rfl⟩, ⟨_, rfl, rfl⟩, ⟨_, rfl, rfl⟩, ⟨_, rfl, rfl⟩, ⟨_, rfl, rfl⟩, ⟨_, rfl, rfl⟩, ⟨_, rfl, rfl⟩, ⟨_, rfl, rfl⟩, ⟨_, rfl, rfl⟩, ⟨_, rfl, rfl⟩, ⟨_, rfl, rfl⟩, ⟨_, rfl, rfl⟩, ⟨_, rfl, rfl⟩, ⟨_, rfl, rfl⟩, ⟨_, rfl, rfl⟩, trivial⟩ (by decide) rfl) ?_
    refine Tr.ret dX6_passOfDay_96 rfl rfl ?_
    · rfl
