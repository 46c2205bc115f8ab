/-! THE REFERENCE: reading numbers and names -/
def mvO (ad r : Nat → Nat) (i : Nat → Int32) (len p vl : Nat) (got : Int32) (f : Nat) (fa : Int32) (T : Nat → Nat) : va_E := .inr (10, [.ref (ad 1), .int (i 1), .int (nI len), .int (nI (tkS T len p)), .int (nI (tkE T len p)), .int (nI (tkH T len p)), .int (nI vl), .int (got), .int (nI f), .int (fa), .int (i 10), .int (i 11), .int (i 12), .int (i 13), .int (i 14), .int (i 15), .int (i 16), .int (i 17), .int (i 18), .ref (r 19), .ref (r 20), .ref (r 21), .ref (r 22), .ref (r 23), .ref (r 24), .ref (r 25), .ref (r 26), .ref (r 27), .ref (r 28), .ref (r 29), .ref (r 30), .ref (r 31), .ref (r 32), .ref (r 33), .ref (r 34), .ref (r 35), .ref (r 36), .int (i 37), .ref (r 38), .ref (r 39), .int (i 40), .int (i 41), .int (i 42), .int (i 43), .int (i 44), .int (i 45), .ref (r 46), .ref (r 47), .ref (r 48), .ref (r 49), .ref (r 50), .ref (r 51), .int (i 52), .int (i 53), .ref (r 54), .int (i 55), .int (i 56), .ref (r 57), .ref (r 58), .ref (r 59), .int (i 60)])
/-- object, tape: the token from p on is in hand -/
def mvC (E : EnvT) (ad r : Nat → Nat) (i : Nat → Int32) (len p vl : Nat) (got : Int32) (f : Nat) (fa : Int32) (T : Nat → Nat) : List va_E := [mvO ad r i len p vl got f fa T, aB E 900 (fun k => sb (T k))]
theorem mv_le {E E2 : EnvT} {ad r ad2 r2 : Nat → Nat} {i i2 : Nat → Int32} {len p vl len2 p2 vl2 : Nat} {got fa got2 fa2 : Int32} {f f2 : Nat} {T T2 : Nat → Nat} : (mvC E ad r i len p vl got f fa T).length ≤ (mvC E2 ad2 r2 i2 len2 p2 vl2 got2 f2 fa2 T2).length := Nat.le_refl 2
def iV (got : Int32) (f : Nat) (fa : Int32) (i : Nat → Int32) (k : Nat) : Int32 := if k = 7 then got else if k = 8 then nI f else if k = 9 then fa else i k
theorem tkH_lt (T : Nat → Nat) (len p : Nat) : tkH T len p < 6 := by
  have := tkK_lt T len p
  unfold tkH
  split <;> omega
theorem tkH_1 {T : Nat → Nat} {len p k : Nat} (hk : k < 4) : tkH T len p = k ↔ tkK T len p = k := by
  unfold tkH
  split <;> omega
set_option maxHeartbeats 4000000 in
set_option maxRecDepth 100000 in
theorem m_bad (E : EnvT) (ad r : Nat → Nat) (i : Nat → Int32) (len : Nat) (p : Fin (len + 1)) (vl : Nat) (got : Int32) (f : Nat) (fa : Int32) (T : Nat → Nat) (k : Nat) : Md E mX10_bad ad [.ref (ad 0), .int (nI k)] (mvC E ad r i len p.1 vl got f fa T) (some (.int (bI false))) (mvC E ad r i len p.1 vl got k (nI (tkS T len p.1)) T) := by
  refine Md.of 0 (by decide) rfl rfl ?_
  refine Tr.aload_n (i := 0) dX10_bad_0 rfl rfl (Eq.refl 1) ?_
  refine Tr.iload_n (i := 1) dX10_bad_1 rfl rfl (Eq.refl 2) ?_
  refine Tr.putf dX10_bad_2 pX10_3 rfl (rfl) (rfl) rfl (Eq.refl 5) ?_
  refine Tr.aload_n (i := 0) dX10_bad_5 rfl rfl (Eq.refl 6) ?_
  refine Tr.aload_n (i := 0) dX10_bad_6 rfl rfl (Eq.refl 7) ?_
  refine Tr.getf dX10_bad_7 fX10_7 rfl rfl (Eq.refl 10) ?_
  refine Tr.putf dX10_bad_10 pX10_10 rfl (rfl) (rfl) rfl (Eq.refl 13) ?_
  refine Tr.iconst (v := nI 0) dX10_bad_13 (icN 0) (Eq.refl 14) ?_
  refine Tr.iret dX10_bad_14 rfl (by first | rfl | exact bI_nar _) ?_ ?_
  · rfl
  · rfl
set_option maxHeartbeats 4000000 in
set_option maxRecDepth 100000 in
theorem m_scanV (E : EnvT) (ad r : Nat → Nat) (i : Nat → Int32) (len : Nat) (p : Fin (len + 1)) (vl : Nat) (got : Int32) (f : Nat) (fa : Int32) (T : Nat → Nat) (hl : len ≤ 900) (hT : ∀ k, k < 900 → T k < 256) : Md E mX10_scan ad [.ref (ad 0)] (mvC E ad r i len p.1 vl got f fa T) none (mvC E ad r i len (nxP T len p).1 (tkV T len (tkE T len p.1) vl) got f fa T) := m_scan E ad r (iV got f fa i) len (tkS T len p.1) (tkE T len p.1) (tkH T len p.1) vl T hl hT (tkE_le T (Nat.le_of_lt_succ p.2)).2
/-- a number: whether it is one, got, the state behind it -/
def rnB (T : Nat → Nat) (len p vl : Nat) (lo hi : Int32) : Bool := decide (tkK T len p = 2) && rgB (nI vl) lo hi
set_option maxHeartbeats 4000000 in
set_option maxRecDepth 100000 in
theorem m_number (E : EnvT) (ad r : Nat → Nat) (i : Nat → Int32) (len : Nat) (p : Fin (len + 1)) (vl : Nat) (got : Int32) (f : Nat) (fa : Int32) (T : Nat → Nat) (lo hi : Int32) (hl : len ≤ 900) (hT : ∀ k, k < 900 → T k < 256) (hv : vl < 2 ^ 31) : Md E mX10_number ad [.ref (ad 0), .int lo, .int hi] (mvC E ad r i len p.1 vl got f fa T) (some (.int (bI (rnB T len p.1 vl lo hi)))) (if rnB T len p.1 vl lo hi then (mvC E ad r i len (nxP T len p).1 (tkV T len (tkE T len p.1) vl) (nI vl) f fa T) else if tkK T len p.1 = 2 then (mvC E ad r i len p.1 vl got 2 (nI (tkS T len p.1)) T) else (mvC E ad r i len p.1 vl got 1 (nI (tkS T len p.1)) T)) := by
  have hk := tkH_lt T len p.1
  have h2 := tkH_1 (T := T) (len := len) (p := p.1) (k := 2) (by decide)
  unfold rnB
  refine Md.of 0 (by decide) rfl rfl ?_
  refine Tr.aload_n (i := 0) dX10_number_0 rfl rfl (Eq.refl 1) ?_
  refine Tr.getf dX10_number_1 fX10_27 rfl rfl (Eq.refl 4) ?_
  refine Tr.iconst (v := nI 2) dX10_number_4 (icN 2) (Eq.refl 5) ?_
  refine Tr.icmp_eqN (tgt := 14) dX10_number_5 (by decide) (Eq.refl 8) (by omega) (by omega) (fun h5 => ?_) (fun h5 => ?_)
  · have h5 := h2.mp h5
    rw [decide_eq_true h5, Bool.true_and, if_pos h5]
    refine Tr.aload_n (i := 0) dX10_number_14 rfl rfl (Eq.refl 15) ?_
    refine Tr.getf dX10_number_15 fX10_37 rfl rfl (Eq.refl 18) ?_
    refine Tr.i2l dX10_number_18 rfl (Eq.refl 19) ?_
    refine Tr.iload_n (i := 1) dX10_number_19 rfl rfl (Eq.refl 20) ?_
    refine Tr.i2l dX10_number_20 rfl (Eq.refl 21) ?_
    refine Tr.iload_n (i := 2) dX10_number_21 rfl rfl (Eq.refl 22) ?_
    refine Tr.i2l dX10_number_22 rfl (Eq.refl 23) ?_
    refine Tr.callSr (L := []) (m_in E _ (nI vl).toInt64 lo.toInt64 hi.toInt64) dX10_number_23 (kX10_52 (Nat.le_of_ble_eq_true rfl)) sX10_in rfl rfl rfl rfl rfl rfl rfl (Eq.refl 26) ?_
    rw [in32]
    refine Tr.if_neB (tgt := 35) dX10_number_26 (by decide) (Eq.refl 29) (fun h26 => ?_) (fun h26 => ?_)
    · rw [h26, if_pos rfl]
      refine Tr.aload_n (i := 0) dX10_number_35 rfl rfl (Eq.refl 36) ?_
      refine Tr.aload_n (i := 0) dX10_number_36 rfl rfl (Eq.refl 37) ?_
      refine Tr.getf dX10_number_37 fX10_37 rfl rfl (Eq.refl 40) ?_
      refine Tr.putf dX10_number_40 pX10_56 rfl (rfl) (rfl) rfl (Eq.refl 43) ?_
      refine Tr.pic (w' := mvC E ad r i len p.1 vl (nI vl) f fa T) rfl ?_
      refine Tr.aload_n (i := 0) dX10_number_43 rfl rfl (Eq.refl 44) ?_
      refine Tr.callVs (m_scanV E ad r i len p vl (nI vl) f fa T hl hT) dX10_number_44 (kX10_59 (Nat.le_of_ble_eq_true rfl)) iX10_scan rfl rfl rfl rfl rfl (mv_le) rfl rfl (Eq.refl 47) ?_
      refine Tr.iconst (v := nI 1) dX10_number_47 (icN 1) (Eq.refl 48) ?_
      refine Tr.iret dX10_number_48 rfl (by first | rfl | exact bI_nar _) ?_ ?_
      · rfl
      · rfl
    · rw [h26, if_neg (by decide)]
      refine Tr.aload_n (i := 0) dX10_number_29 rfl rfl (Eq.refl 30) ?_
      refine Tr.iconst (v := nI 2) dX10_number_30 (icN 2) (Eq.refl 31) ?_
      refine Tr.callVs (m_bad E ad r i len p vl got f fa T 2) dX10_number_31 (kX10_49 (Nat.le_of_ble_eq_true rfl)) iX10_bad rfl rfl rfl rfl rfl (mv_le) rfl rfl (Eq.refl 34) ?_
      refine Tr.iret dX10_number_34 rfl (by first | rfl | exact bI_nar _) ?_ ?_
      · rfl
      · rfl
  · have h5 : ¬ tkK T len p.1 = 2 := fun z9 => h5 (h2.mpr z9)
    rw [decide_eq_false h5, Bool.false_and, if_neg h5, if_neg (by decide)]
    refine Tr.aload_n (i := 0) dX10_number_8 rfl rfl (Eq.refl 9) ?_
    refine Tr.iconst (v := nI 1) dX10_number_9 (icN 1) (Eq.refl 10) ?_
    refine Tr.callVs (m_bad E ad r i len p vl got f fa T 1) dX10_number_10 (kX10_49 (Nat.le_of_ble_eq_true rfl)) iX10_bad rfl rfl rfl rfl rfl (mv_le) rfl rfl (Eq.refl 13) ?_
    refine Tr.iret dX10_number_13 rfl (by first | rfl | exact bI_nar _) ?_ ?_
    · rfl
    · rfl
set_option maxHeartbeats 4000000 in
set_option maxRecDepth 100000 in
theorem m_close (E : EnvT) (ad r : Nat → Nat) (i : Nat → Int32) (len : Nat) (p : Fin (len + 1)) (vl : Nat) (got : Int32) (f : Nat) (fa : Int32) (T : Nat → Nat) (hl : len ≤ 900) (hT : ∀ k, k < 900 → T k < 256) : Md E mX10_close ad [.ref (ad 0)] (mvC E ad r i len p.1 vl got f fa T) (some (.int (bI (decide (tkK T len p.1 = 3))))) (if tkK T len p.1 = 3 then (mvC E ad r i len (nxP T len p).1 (tkV T len (tkE T len p.1) vl) got f fa T) else (mvC E ad r i len p.1 vl got 1 (nI (tkS T len p.1)) T)) := by
  have hk := tkH_lt T len p.1
  have h2 := tkH_1 (T := T) (len := len) (p := p.1) (k := 3) (by decide)
  refine Md.of 0 (by decide) rfl rfl ?_
  refine Tr.aload_n (i := 0) dX10_close_0 rfl rfl (Eq.refl 1) ?_
  refine Tr.getf dX10_close_1 fX10_27 rfl rfl (Eq.refl 4) ?_
  refine Tr.iconst (v := nI 3) dX10_close_4 (icN 3) (Eq.refl 5) ?_
  refine Tr.icmp_eqN (tgt := 14) dX10_close_5 (by decide) (Eq.refl 8) (by omega) (by omega) (fun h5 => ?_) (fun h5 => ?_)
  · have h5 := h2.mp h5
    rw [decide_eq_true h5, if_pos h5]
    refine Tr.aload_n (i := 0) dX10_close_14 rfl rfl (Eq.refl 15) ?_
    refine Tr.callVs (m_scanV E ad r i len p vl got f fa T hl hT) dX10_close_15 (kX10_59 (Nat.le_of_ble_eq_true rfl)) iX10_scan rfl rfl rfl rfl rfl (mv_le) rfl rfl (Eq.refl 18) ?_
    refine Tr.iconst (v := nI 1) dX10_close_18 (icN 1) (Eq.refl 19) ?_
    refine Tr.iret dX10_close_19 rfl (by first | rfl | exact bI_nar _) ?_ ?_
    · rfl
    · rfl
  · have h5 : ¬ tkK T len p.1 = 3 := fun z9 => h5 (h2.mpr z9)
    rw [decide_eq_false h5, if_neg h5]
    refine Tr.aload_n (i := 0) dX10_close_8 rfl rfl (Eq.refl 9) ?_
    refine Tr.iconst (v := nI 1) dX10_close_9 (icN 1) (Eq.refl 10) ?_
    refine Tr.callVs (m_bad E ad r i len p vl got f fa T 1) dX10_close_10 (kX10_49 (Nat.le_of_ble_eq_true rfl)) iX10_bad rfl rfl rfl rfl rfl (mv_le) rfl rfl (Eq.refl 13) ?_
    refine Tr.iret dX10_close_13 rfl (by first | rfl | exact bI_nar _) ?_ ?_
    · rfl
    · rfl
theorem runF_all (g : Nat → Bool) (T : Nat → Nat) : ∀ n p k, p ≤ k → k < runF g T n p → g (T k) = true := by
  intro n
  induction n with
  | zero => intro p k h1 h2; exact absurd h2 (by show ¬ k < p; omega)
  | succ n ih =>
    intro p k h1 h2
    by_cases h : g (T p) = true
    · have hu : runF g T (n + 1) p = runF g T n (p + 1) := if_pos h
      rw [hu] at h2
      by_cases e : k = p
      · rw [e]; exact h
      · exact ih (p + 1) k (by omega) h2
    · have hu : runF g T (n + 1) p = p := if_neg h
      rw [hu] at h2
      omega
theorem tk_word {T : Nat → Nat} {len p : Nat} (h : tkK T len p = 1) : tkM T len p = nmN T (tkS T len p) (tkE T len p - tkS T len p) ∧ ∀ k, tkS T len p ≤ k → k < tkE T len p → isSm (T k) = true := by
  have h1 : tkS T len p < len ∧ isSm (T (tkS T len p)) = true := by
    unfold tkK at h
    by_cases a1 : tkS T len p < len
    · rw [if_pos a1] at h
      by_cases a2 : isSm (T (tkS T len p)) = true
      · exact ⟨a1, a2⟩
      · rw [if_neg a2] at h
        exfalso
        revert h
        repeat' split
        all_goals intro h; omega
    · rw [if_neg a1] at h; exact absurd h (by decide)
  refine ⟨if_pos h1, fun k k1 k2 => ?_⟩
  have he : tkE T len p = runF isSm T (len - tkS T len p) (tkS T len p) := by
    unfold tkE
    rw [if_pos h1.1, if_pos h1.2]
  rw [he] at k2
  exact runF_all isSm T _ _ k k1 k2
theorem lor5 {a b : Nat} (h : b < 32) : (lN a <<< ((nI 5).toInt64 &&& 63)) ||| lN b = lN (a * 32 + b) := by
  have hs : ((nI 5).toInt64 &&& 63).toBitVec.smod 64 = 5#64 := by decide
  apply Int64.toBitVec_inj.mp
  apply BitVec.eq_of_toNat_eq
  rw [Int64.toBitVec_or, Int64.toBitVec_shiftLeft, hs, BitVec.toNat_or, BitVec.shiftLeft_eq', BitVec.toNat_shiftLeft]
  show (BitVec.ofNat 64 a).toNat <<< 5 % 2 ^ 64 ||| (BitVec.ofNat 64 b).toNat = (BitVec.ofNat 64 (a * 32 + b)).toNat
  rw [BitVec.toNat_ofNat, BitVec.toNat_ofNat, BitVec.toNat_ofNat, Nat.shiftLeft_eq, Nat.mod_eq_of_lt (show b < 2 ^ 64 by omega)]
  have e1 : a % 2 ^ 64 * 2 ^ 5 % 2 ^ 64 = 2 ^ 5 * (a % 2 ^ 59) := by omega
  rw [e1, ← Nat.two_pow_add_eq_or_of_lt (show b < 2 ^ 5 by omega)]
  omega
set_option maxHeartbeats 4000000 in
set_option maxRecDepth 100000 in
theorem m_byteV (E : EnvT) (ad r : Nat → Nat) (i : Nat → Int32) (len : Nat) (p : Fin (len + 1)) (vl : Nat) (got : Int32) (f : Nat) (fa : Int32) (T : Nat → Nat) (k : Nat) (hl : len ≤ 900) (hT : ∀ k, k < 900 → T k < 256) (hk : k < 2 ^ 31) : Md E mX10_byteAt ad [.ref (ad 0), .int (nI k)] (mvC E ad r i len p.1 vl got f fa T) (some (.int (nI (bAt T len k)))) (mvC E ad r i len p.1 vl got f fa T) := m_byteAt E ad r (iV got f fa i) len (tkS T len p.1) (tkE T len p.1) (tkH T len p.1) vl T k hl hT hk
set_option maxHeartbeats 4000000 in
set_option maxRecDepth 100000 in
theorem m_name (E : EnvT) (ad r : Nat → Nat) (i : Nat → Int32) (len : Nat) (p : Fin (len + 1)) (vl : Nat) (got : Int32) (f : Nat) (fa : Int32) (T : Nat → Nat) (hl : len ≤ 900) (hT : ∀ k, k < 900 → T k < 256) (hw : tkK T len p.1 = 1) : Md E mX10_name ad [.ref (ad 0)] (mvC E ad r i len p.1 vl got f fa T) (some (.long (lN (tkM T len p.1)))) (mvC E ad r i len p.1 vl got f fa T) := by
  have hse := tkE_le T (Nat.le_of_lt_succ p.2)
  obtain ⟨hm, hsm⟩ := tk_word hw
  rw [hm]
  clear hm
  refine Md.of 3 (by decide) rfl rfl ?_
  refine Tr.lconst (v := 0) dX10_name_0 (by decide +kernel) (Eq.refl 1) ?_
  refine Tr.lstore_n (i := 1) dX10_name_1 rfl rfl rfl (Eq.refl 2) ?_
  refine Tr.aload_n (i := 0) dX10_name_2 rfl rfl (Eq.refl 3) ?_
  refine Tr.getf dX10_name_3 fX10_7 rfl rfl (Eq.refl 6) ?_
  refine Tr.istore_n (i := 3) dX10_name_6 rfl rfl rfl (Eq.refl 7) ?_
  refine Tr.mask [true, true, true, true] (lv' := [some (.ref (ad 0)), some (.long (lN (nmN T (tkS T len p.1) 0))), none, some (.int (nI (tkS T len p.1 + 0)))]) rfl ?_
  refine loopD (P := fun j => Tr _ 0 0 7 [some (.ref (ad 0)), some (.long (lN (nmN T (tkS T len p.1) j))), none, some (.int (nI (tkS T len p.1 + j)))] [] (mvC E ad r i len p.1 vl got f fa T)) (tkE T len p.1 - tkS T len p.1) ?_ (fun j hj ih => ?_)
  · refine Tr.iload_n (i := 3) dX10_name_7 rfl rfl (Eq.refl 8) ?_
    refine Tr.aload_n (i := 0) dX10_name_8 rfl rfl (Eq.refl 9) ?_
    refine Tr.getf dX10_name_9 fX10_20 rfl rfl (Eq.refl 12) ?_
    refine Tr.icmp_geN (tgt := 35) dX10_name_12 (by decide) (Eq.refl 15) (by omega) (by omega) (fun h12 => ?_) (fun h12 => ?_)
    · refine Tr.lload_n (i := 1) dX10_name_35 rfl rfl (Eq.refl 36) ?_
      refine Tr.lret dX10_name_36 rfl ?_ ?_
      · rfl
      · rfl
    · exact absurd h12 (by omega)
  · have hs9 := hsm (tkS T len p.1 + j) (by omega) (by omega)
    have hg := isSm_g hs9
    have hb : bAt T len (tkS T len p.1 + j) = T (tkS T len p.1 + j) := if_pos (by omega)
    have hu : nmN T (tkS T len p.1) (j + 1) = nmN T (tkS T len p.1) j * 32 + (T (tkS T len p.1 + j) - 96) := rfl
    rw [hu] at ih
    clear hu
    refine Tr.iload_n (i := 3) dX10_name_7 rfl rfl (Eq.refl 8) ?_
    refine Tr.aload_n (i := 0) dX10_name_8 rfl rfl (Eq.refl 9) ?_
    refine Tr.getf dX10_name_9 fX10_20 rfl rfl (Eq.refl 12) ?_
    refine Tr.icmp_geN (tgt := 35) dX10_name_12 (by decide) (Eq.refl 15) (by omega) (by omega) (fun h12 => ?_) (fun h12 => ?_)
    · exact absurd h12 (by omega)
    · refine Tr.lload_n (i := 1) dX10_name_15 rfl rfl (Eq.refl 16) ?_
      refine Tr.iconst (v := nI 5) dX10_name_16 (icN 5) (Eq.refl 17) ?_
      refine Tr.lshl dX10_name_17 rfl (Eq.refl 18) ?_
      refine Tr.aload_n (i := 0) dX10_name_18 rfl rfl (Eq.refl 19) ?_
      refine Tr.iload_n (i := 3) dX10_name_19 rfl rfl (Eq.refl 20) ?_
      refine Tr.callVs (m_byteV E ad r i len p vl got f fa T (tkS T len p.1 + j) hl hT (by omega)) dX10_name_20 (kX10_23 (Nat.le_of_ble_eq_true rfl)) iX10_byteAt rfl rfl rfl rfl rfl (mv_le) rfl rfl (Eq.refl 23) ?_
      rw [hb]
      refine Tr.bipush (v := nI 96) dX10_name_23 (by decide +kernel) (Eq.refl 25) ?_
      refine Tr.isub dX10_name_25 (Eq.refl 26) ?_
      rw [pk_sub (by omega)]
      refine Tr.i2l dX10_name_26 rfl (Eq.refl 27) ?_
      rw [nI_l (by omega)]
      refine Tr.lor dX10_name_27 (Eq.refl 28) ?_
      refine Tr.topL (lor5 (by omega)) ?_
      refine Tr.lstore_n (i := 1) dX10_name_28 rfl rfl rfl (Eq.refl 29) ?_
      refine Tr.iincN dX10_name_29 rfl rfl rfl (Eq.refl 32) ?_
      refine Tr.goto (pc' := 7) dX10_name_32 (by decide) ?_
      exact Tr.eqs rfl rfl rfl ih
theorem ma_le {E E2 : EnvT} {ad r ad2 r2 : Nat → Nat} {i i2 : Nat → Int32} {len p vl len2 p2 vl2 : Nat} {got fa got2 fa2 : Int32} {f f2 : Nat} {T T2 : Nat → Nat} {g g2 : Nat → Int64} : (mvC E ad r i len p vl got f fa T ++ [aJ E 5 g]).length ≤ (mvC E2 ad2 r2 i2 len2 p2 vl2 got2 f2 fa2 T2 ++ [aJ E2 5 g2]).length := Nat.le_refl 3
set_option maxHeartbeats 4000000 in
set_option maxRecDepth 100000 in
theorem m_find_loop (E : EnvT) (ad r : Nat → Nat) (i : Nat → Int32) (len : Nat) (p : Fin (len + 1)) (vl : Nat) (got : Int32) (f : Nat) (fa : Int32) (T : Nat → Nat) (g : Nat → Int64) (n : Nat) (hl : len ≤ 900) (hT : ∀ k, k < 900 → T k < 256) (hw : tkK T len p.1 = 1) (hn : n ≤ 5) : ∀ (m k : Nat), k + m = n → Tr (E, mX10_find, ad, some (.int (cl (fnd g (lN (tkM T len p.1)) m k))), (mvC E ad r i len p.1 vl got f fa T ++ [aJ E 5 g])) 0 0 2 [some (.ref (ad 0)), some (.ref (ad 2)), some (.int (nI n)), some (.int (nI k))] [] (mvC E ad r i len p.1 vl got f fa T ++ [aJ E 5 g]) := by
  intro m
  induction m with
  | zero =>
    intro k hk
    refine Tr.iload_n (i := 3) dX10_find_2 rfl rfl (Eq.refl 3) ?_
    refine Tr.iload_n (i := 2) dX10_find_3 rfl rfl (Eq.refl 4) ?_
    refine Tr.icmp_geN (tgt := 26) dX10_find_4 (by decide) (Eq.refl 7) (by omega) (by omega) (fun h4 => ?_) (fun h4 => ?_)
    · refine Tr.iconst (v := (-1)) dX10_find_26 (by decide +kernel) (Eq.refl 27) ?_
      refine Tr.iret dX10_find_27 rfl (by first | rfl | exact bI_nar _) ?_ ?_
      · rfl
      · rfl
    · exact absurd h4 (by omega)
  | succ m ih =>
    intro k hk
    have hu : fnd g (lN (tkM T len p.1)) (m + 1) k = if g k = lN (tkM T len p.1) then k else fnd g (lN (tkM T len p.1)) m (k + 1) := rfl
    rw [hu]
    clear hu
    refine Tr.iload_n (i := 3) dX10_find_2 rfl rfl (Eq.refl 3) ?_
    refine Tr.iload_n (i := 2) dX10_find_3 rfl rfl (Eq.refl 4) ?_
    refine Tr.icmp_geN (tgt := 26) dX10_find_4 (by decide) (Eq.refl 7) (by omega) (by omega) (fun h4 => ?_) (fun h4 => ?_)
    · exact absurd h4 (by omega)
    · refine Tr.aload_n (i := 1) dX10_find_7 rfl rfl (Eq.refl 8) ?_
      refine Tr.iload_n (i := 3) dX10_find_8 rfl rfl (Eq.refl 9) ?_
      refine Tr.laldN dX10_find_9 rfl (by omega) (by decide) (Eq.refl 10) ?_
      refine Tr.aload_n (i := 0) dX10_find_10 rfl rfl (Eq.refl 11) ?_
      refine Tr.callVr (L := [0, 1]) (m_name E _ r i len p vl got f fa T hl hT hw) dX10_find_11 (kX10_63 (Nat.le_of_ble_eq_true rfl)) iX10_name rfl rfl rfl rfl rfl rfl rfl rfl rfl (Eq.refl 14) ?_
      refine Tr.lcmp dX10_find_14 (Eq.refl 15) ?_
      refine Tr.if_ne (tgt := 20) dX10_find_15 (by decide) (Eq.refl 18) (fun h15 => ?_) (fun h15 => ?_)
      · rw [lg_cmp_eq] at h15
        rw [if_neg h15]
        refine Tr.iincN dX10_find_20 rfl rfl rfl (Eq.refl 23) ?_
        refine Tr.goto (pc' := 2) dX10_find_23 (by decide) ?_
        exact Tr.eqs rfl rfl rfl (ih (k + 1) (by omega))
      · rw [lg_cmp_eq] at h15
        rw [if_pos h15, cl_lt (by omega)]
        refine Tr.iload_n (i := 3) dX10_find_18 rfl rfl (Eq.refl 19) ?_
        refine Tr.iret dX10_find_19 rfl (by first | rfl | exact bI_nar _) ?_ ?_
        · rfl
        · rfl
set_option maxHeartbeats 4000000 in
set_option maxRecDepth 100000 in
theorem m_find (E : EnvT) (ad r : Nat → Nat) (i : Nat → Int32) (len : Nat) (p : Fin (len + 1)) (vl : Nat) (got : Int32) (f : Nat) (fa : Int32) (T : Nat → Nat) (g : Nat → Int64) (n : Nat) (hl : len ≤ 900) (hT : ∀ k, k < 900 → T k < 256) (hw : tkK T len p.1 = 1) (hn : n ≤ 5) : Md E mX10_find ad [.ref (ad 0), .ref (ad 2), .int (nI n)] (mvC E ad r i len p.1 vl got f fa T ++ [aJ E 5 g]) (some (.int (cl (fnd g (lN (tkM T len p.1)) n 0)))) (mvC E ad r i len p.1 vl got f fa T ++ [aJ E 5 g]) := by
  have hL := m_find_loop E ad r i len p vl got f fa T g n hl hT hw hn n 0 (by omega)
  refine Md.of 1 (by decide) rfl rfl ?_
  refine Tr.iconst (v := nI 0) dX10_find_0 (icN 0) (Eq.refl 1) ?_
  refine Tr.istore_n (i := 3) dX10_find_1 rfl rfl rfl (Eq.refl 2) ?_
  exact Tr.eqs rfl rfl rfl hL
/-- a fresh name -/
def fcN (T : Nat → Nat) (len p : Nat) (g : Nat → Int64) (n : Nat) : Nat := fnd g (lN (tkM T len p)) n 0
set_option maxHeartbeats 4000000 in
set_option maxRecDepth 100000 in
theorem m_fresh (E : EnvT) (ad r : Nat → Nat) (i : Nat → Int32) (len : Nat) (p : Fin (len + 1)) (vl : Nat) (got : Int32) (f : Nat) (fa : Int32) (T : Nat → Nat) (g : Nat → Int64) (n : Nat) (hl : len ≤ 900) (hT : ∀ k, k < 900 → T k < 256) (hn : n < 5) : Md E mX10_fresh ad [.ref (ad 0), .ref (ad 2), .int (nI n)] (mvC E ad r i len p.1 vl got f fa T ++ [aJ E 5 g]) (some (.int (bI (decide (tkK T len p.1 = 1) && decide (fcN T len p.1 g n = 5))))) (if tkK T len p.1 = 1 then (if fcN T len p.1 g n = 5 then (mvC E ad r i len (nxP T len p).1 (tkV T len (tkE T len p.1) vl) got f fa T ++ [aJ E 5 (vp_updL g n (lN (tkM T len p.1)))]) else (mvC E ad r i len p.1 vl got 3 (nI (tkS T len p.1)) T ++ [aJ E 5 g])) else (mvC E ad r i len p.1 vl got 1 (nI (tkS T len p.1)) T ++ [aJ E 5 g])) := by
  have hk := tkH_lt T len p.1
  have h2 := tkH_1 (T := T) (len := len) (p := p.1) (k := 1) (by decide)
  have hfl : fcN T len p.1 g n < 0 + n ∨ fcN T len p.1 g n = 5 := fnd_lt g _ n 0 (by omega)
  by_cases hw : tkK T len p.1 = 1
  · rw [if_pos hw, decide_eq_true hw, Bool.true_and]
    have hF := m_find E ad r i len p vl got f fa T g n hl hT hw (by omega)
    have hF : Md E _ ad _ _ (some (.int (cl (fcN T len p.1 g n)))) _ := hF
    generalize fcN T len p.1 g n = c at *
    refine Md.of 0 (by decide) rfl rfl ?_
    refine Tr.aload_n (i := 0) dX10_fresh_0 rfl rfl (Eq.refl 1) ?_
    refine Tr.getf dX10_fresh_1 fX10_27 rfl rfl (Eq.refl 4) ?_
    refine Tr.iconst (v := nI 1) dX10_fresh_4 (icN 1) (Eq.refl 5) ?_
    refine Tr.icmp_eqN (tgt := 14) dX10_fresh_5 (by decide) (Eq.refl 8) (by omega) (by omega) (fun h5 => ?_) (fun h5 => ?_)
    · refine Tr.aload_n (i := 0) dX10_fresh_14 rfl rfl (Eq.refl 15) ?_
      refine Tr.aload_n (i := 1) dX10_fresh_15 rfl rfl (Eq.refl 16) ?_
      refine Tr.iload_n (i := 2) dX10_fresh_16 rfl rfl (Eq.refl 17) ?_
      refine Tr.callVs (hF) dX10_fresh_17 (kX10_67 (Nat.le_of_ble_eq_true rfl)) iX10_find rfl rfl rfl rfl rfl (ma_le) rfl rfl (Eq.refl 20) ?_
      refine Tr.iconst (v := (-1)) dX10_fresh_20 (by decide +kernel) (Eq.refl 21) ?_
      refine Tr.icmp_eq (tgt := 30) dX10_fresh_21 (by decide) (Eq.refl 24) (fun h21 => ?_) (fun h21 => ?_)
      · rw [cl_none] at h21
        rw [if_pos (show c = 5 by omega), decide_eq_true (show c = 5 by omega)]
        refine Tr.aload_n (i := 1) dX10_fresh_30 rfl rfl (Eq.refl 31) ?_
        refine Tr.iload_n (i := 2) dX10_fresh_31 rfl rfl (Eq.refl 32) ?_
        refine Tr.aload_n (i := 0) dX10_fresh_32 rfl rfl (Eq.refl 33) ?_
        refine Tr.callVr (L := [0, 1]) (m_name E _ r i len p vl got f fa T hl hT hw) dX10_fresh_33 (kX10_63 (Nat.le_of_ble_eq_true rfl)) iX10_name rfl rfl rfl rfl rfl rfl rfl rfl rfl (Eq.refl 36) ?_
        refine Tr.lastN dX10_fresh_36 rfl (by omega) (by decide) (Eq.refl 37) ?_
        refine Tr.pic (w' := mvC E ad r i len p.1 vl got f fa T ++ [aJ E 5 (vp_updL g n (lN (tkM T len p.1)))]) rfl ?_
        refine Tr.aload_n (i := 0) dX10_fresh_37 rfl rfl (Eq.refl 38) ?_
        refine Tr.callV (L := [0, 1]) (m_scanV E _ r i len p vl got f fa T hl hT) dX10_fresh_38 (kX10_59 (Nat.le_of_ble_eq_true rfl)) iX10_scan rfl rfl rfl rfl rfl rfl rfl rfl rfl rfl (Eq.refl 41) ?_
        refine Tr.pic (w' := mvC E ad r i len (nxP T len p).1 (tkV T len (tkE T len p.1) vl) got f fa T ++ [aJ E 5 (vp_updL g n (lN (tkM T len p.1)))]) (putB_eq (Lc := [2]) 3 rfl rfl rfl rfl ⟨⟨_, rfl, rfl⟩, trivial⟩ (by decide) rfl) ?_
        refine Tr.iconst (v := nI 1) dX10_fresh_41 (icN 1) (Eq.refl 42) ?_
        refine Tr.iret dX10_fresh_42 rfl (by first | rfl | exact bI_nar _) ?_ ?_
        · rfl
        · rfl
      · rw [cl_none] at h21
        rw [if_neg (show ¬ c = 5 by omega), decide_eq_false (show ¬ c = 5 by omega)]
        refine Tr.aload_n (i := 0) dX10_fresh_24 rfl rfl (Eq.refl 25) ?_
        refine Tr.iconst (v := nI 3) dX10_fresh_25 (icN 3) (Eq.refl 26) ?_
        refine Tr.callV (L := [0, 1]) (m_bad E _ r i len p vl got f fa T 3) dX10_fresh_26 (kX10_49 (Nat.le_of_ble_eq_true rfl)) iX10_bad rfl rfl rfl rfl rfl rfl rfl rfl rfl rfl (Eq.refl 29) ?_
        refine Tr.pic (w' := mvC E ad r i len p.1 vl got 3 (nI (tkS T len p.1)) T ++ [aJ E 5 g]) (putB_eq (Lc := [2]) 3 rfl rfl rfl rfl ⟨⟨_, rfl, rfl⟩, trivial⟩ (by decide) rfl) ?_
        refine Tr.iret dX10_fresh_29 rfl (by first | rfl | exact bI_nar _) ?_ ?_
        · rfl
        · rfl
    · exact absurd (h2.mpr hw) h5
  · rw [if_neg hw, decide_eq_false hw, Bool.false_and]
    refine Md.of 0 (by decide) rfl rfl ?_
    refine Tr.aload_n (i := 0) dX10_fresh_0 rfl rfl (Eq.refl 1) ?_
    refine Tr.getf dX10_fresh_1 fX10_27 rfl rfl (Eq.refl 4) ?_
    refine Tr.iconst (v := nI 1) dX10_fresh_4 (icN 1) (Eq.refl 5) ?_
    refine Tr.icmp_eqN (tgt := 14) dX10_fresh_5 (by decide) (Eq.refl 8) (by omega) (by omega) (fun h5 => ?_) (fun h5 => ?_)
    · exact absurd (h2.mp h5) hw
    · refine Tr.aload_n (i := 0) dX10_fresh_8 rfl rfl (Eq.refl 9) ?_
      refine Tr.iconst (v := nI 1) dX10_fresh_9 (icN 1) (Eq.refl 10) ?_
      refine Tr.callV (L := [0, 1]) (m_bad E _ r i len p vl got f fa T 1) dX10_fresh_10 (kX10_49 (Nat.le_of_ble_eq_true rfl)) iX10_bad rfl rfl rfl rfl rfl rfl rfl rfl rfl rfl (Eq.refl 13) ?_
      refine Tr.pic (w' := mvC E ad r i len p.1 vl got 1 (nI (tkS T len p.1)) T ++ [aJ E 5 g]) (putB_eq (Lc := [2]) 3 rfl rfl rfl rfl ⟨⟨_, rfl, rfl⟩, trivial⟩ (by decide) rfl) ?_
      refine Tr.iret dX10_fresh_13 rfl (by first | rfl | exact bI_nar _) ?_ ?_
      · rfl
      · rfl
set_option maxHeartbeats 4000000 in
set_option maxRecDepth 100000 in
theorem m_known (E : EnvT) (ad r : Nat → Nat) (i : Nat → Int32) (len : Nat) (p : Fin (len + 1)) (vl : Nat) (got : Int32) (f : Nat) (fa : Int32) (T : Nat → Nat) (g : Nat → Int64) (n : Nat) (hl : len ≤ 900) (hT : ∀ k, k < 900 → T k < 256) (hn : n ≤ 5) : Md E mX10_known ad [.ref (ad 0), .ref (ad 2), .int (nI n)] (mvC E ad r i len p.1 vl got f fa T ++ [aJ E 5 g]) (some (.int (bI (decide (tkK T len p.1 = 1) && !decide (fcN T len p.1 g n = 5))))) (if tkK T len p.1 = 1 then (if fcN T len p.1 g n = 5 then (mvC E ad r i len p.1 vl (-1) 5 (nI (tkS T len p.1)) T ++ [aJ E 5 g]) else (mvC E ad r i len (nxP T len p).1 (tkV T len (tkE T len p.1) vl) (nI (fcN T len p.1 g n)) f fa T ++ [aJ E 5 g])) else (mvC E ad r i len p.1 vl got 1 (nI (tkS T len p.1)) T ++ [aJ E 5 g])) := by
  have hk := tkH_lt T len p.1
  have h2 := tkH_1 (T := T) (len := len) (p := p.1) (k := 1) (by decide)
  have hfl : fcN T len p.1 g n < 0 + n ∨ fcN T len p.1 g n = 5 := fnd_lt g _ n 0 (by omega)
  by_cases hw : tkK T len p.1 = 1
  · rw [if_pos hw, decide_eq_true hw, Bool.true_and]
    have hF := m_find E ad r i len p vl got f fa T g n hl hT hw (by omega)
    have hF : Md E _ ad _ _ (some (.int (cl (fcN T len p.1 g n)))) _ := hF
    generalize fcN T len p.1 g n = c at *
    refine Md.of 0 (by decide) rfl rfl ?_
    refine Tr.aload_n (i := 0) dX10_known_0 rfl rfl (Eq.refl 1) ?_
    refine Tr.getf dX10_known_1 fX10_27 rfl rfl (Eq.refl 4) ?_
    refine Tr.iconst (v := nI 1) dX10_known_4 (icN 1) (Eq.refl 5) ?_
    refine Tr.icmp_eqN (tgt := 14) dX10_known_5 (by decide) (Eq.refl 8) (by omega) (by omega) (fun h5 => ?_) (fun h5 => ?_)
    · refine Tr.aload_n (i := 0) dX10_known_14 rfl rfl (Eq.refl 15) ?_
      refine Tr.aload_n (i := 0) dX10_known_15 rfl rfl (Eq.refl 16) ?_
      refine Tr.aload_n (i := 1) dX10_known_16 rfl rfl (Eq.refl 17) ?_
      refine Tr.iload_n (i := 2) dX10_known_17 rfl rfl (Eq.refl 18) ?_
      refine Tr.callVs (hF) dX10_known_18 (kX10_67 (Nat.le_of_ble_eq_true rfl)) iX10_find rfl rfl rfl rfl rfl (ma_le) rfl rfl (Eq.refl 21) ?_
      refine Tr.putf dX10_known_21 pX10_56 rfl (rfl) (rfl) rfl (Eq.refl 24) ?_
      refine Tr.aload_n (i := 0) dX10_known_24 rfl rfl (Eq.refl 25) ?_
      refine Tr.getf dX10_known_25 fX10_56 rfl rfl (Eq.refl 28) ?_
      refine Tr.iconst (v := (-1)) dX10_known_28 (by decide +kernel) (Eq.refl 29) ?_
      refine Tr.icmp_ne (tgt := 38) dX10_known_29 (by decide) (Eq.refl 32) (fun h29 => ?_) (fun h29 => ?_)
      · rw [cl_none] at h29
        have h29 : c < 5 := by omega
        rw [if_neg (show ¬ c = 5 by omega), decide_eq_false (show ¬ c = 5 by omega)]
        refine Tr.pic (w' := mvC E ad r i len p.1 vl (nI c) f fa T ++ [aJ E 5 g]) (by rw [← cl_lt h29]; rfl) ?_
        refine Tr.aload_n (i := 0) dX10_known_38 rfl rfl (Eq.refl 39) ?_
        refine Tr.callV (L := [0, 1]) (m_scanV E _ r i len p vl (nI c) f fa T hl hT) dX10_known_39 (kX10_59 (Nat.le_of_ble_eq_true rfl)) iX10_scan rfl rfl rfl rfl rfl rfl rfl rfl rfl rfl (Eq.refl 42) ?_
        refine Tr.pic (w' := mvC E ad r i len (nxP T len p).1 (tkV T len (tkE T len p.1) vl) (nI c) f fa T ++ [aJ E 5 g]) (putB_eq (Lc := [2]) 3 rfl rfl rfl rfl ⟨⟨_, rfl, rfl⟩, trivial⟩ (by decide) rfl) ?_
        refine Tr.iconst (v := nI 1) dX10_known_42 (icN 1) (Eq.refl 43) ?_
        refine Tr.iret dX10_known_43 rfl (by first | rfl | exact bI_nar _) ?_ ?_
        · rfl
        · rfl
      · rw [cl_none] at h29
        rw [if_pos (show c = 5 by omega), decide_eq_true (show c = 5 by omega)]
        refine Tr.pic (w' := mvC E ad r i len p.1 vl (-1) f fa T ++ [aJ E 5 g]) (by rw [← cl_ge h29]; rfl) ?_
        refine Tr.aload_n (i := 0) dX10_known_32 rfl rfl (Eq.refl 33) ?_
        refine Tr.iconst (v := nI 5) dX10_known_33 (icN 5) (Eq.refl 34) ?_
        refine Tr.callV (L := [0, 1]) (m_bad E _ r i len p vl (-1) f fa T 5) dX10_known_34 (kX10_49 (Nat.le_of_ble_eq_true rfl)) iX10_bad rfl rfl rfl rfl rfl rfl rfl rfl rfl rfl (Eq.refl 37) ?_
        refine Tr.pic (w' := mvC E ad r i len p.1 vl (-1) 5 (nI (tkS T len p.1)) T ++ [aJ E 5 g]) (putB_eq (Lc := [2]) 3 rfl rfl rfl rfl ⟨⟨_, rfl, rfl⟩, trivial⟩ (by decide) rfl) ?_
        refine Tr.iret dX10_known_37 rfl (by first | rfl | exact bI_nar _) ?_ ?_
        · rfl
        · rfl
    · exact absurd (h2.mpr hw) h5
  · rw [if_neg hw, decide_eq_false hw, Bool.false_and]
    refine Md.of 0 (by decide) rfl rfl ?_
    refine Tr.aload_n (i := 0) dX10_known_0 rfl rfl (Eq.refl 1) ?_
    refine Tr.getf dX10_known_1 fX10_27 rfl rfl (Eq.refl 4) ?_
    refine Tr.iconst (v := nI 1) dX10_known_4 (icN 1) (Eq.refl 5) ?_
    refine Tr.icmp_eqN (tgt := 14) dX10_known_5 (by decide) (Eq.refl 8) (by omega) (by omega) (fun h5 => ?_) (fun h5 => ?_)
    · exact absurd (h2.mp h5) hw
    · refine Tr.aload_n (i := 0) dX10_known_8 rfl rfl (Eq.refl 9) ?_
      refine Tr.iconst (v := nI 1) dX10_known_9 (icN 1) (Eq.refl 10) ?_
      refine Tr.callV (L := [0, 1]) (m_bad E _ r i len p vl got f fa T 1) dX10_known_10 (kX10_49 (Nat.le_of_ble_eq_true rfl)) iX10_bad rfl rfl rfl rfl rfl rfl rfl rfl rfl rfl (Eq.refl 13) ?_
      refine Tr.pic (w' := mvC E ad r i len p.1 vl got 1 (nI (tkS T len p.1)) T ++ [aJ E 5 g]) (putB_eq (Lc := [2]) 3 rfl rfl rfl rfl ⟨⟨_, rfl, rfl⟩, trivial⟩ (by decide) rfl) ?_
      refine Tr.iret dX10_known_13 rfl (by first | rfl | exact bI_nar _) ?_ ?_
      · rfl
      · rfl
