/-! TEXTS: their length and letters; words -/
theorem fl_cs : Cond.fieldLink RJ0 38 "java/lang/String" "COMPACT_STRINGS" "Z" ∈ tbW := tbW_mem (List.mem_of_getElem? (i := 603) (by decide +kernel)) rfl
theorem fl_sf : Cond.fieldLink RJ0 1053 "jdk/internal/util/Preconditions" "SIOOBE_FORMATTER" "Ljava/util/function/BiFunction;" ∈ tbW := tbW_mem (List.mem_of_getElem? (i := 619) (by decide +kernel)) rfl
theorem fl_va : Cond.fieldLink RJ0 9 "java/lang/String" "value" "[B" ∈ tbW := tbW_mem (List.mem_of_getElem? (i := 1774) (by decide +kernel)) rfl
theorem fl_co : Cond.fieldLink RJ0 15 "java/lang/String" "coder" "B" ∈ tbW := tbW_mem (List.mem_of_getElem? (i := 1775) (by decide +kernel)) rfl
def tlN (t : Nat) : Nat := lenS.getD t 0
/-- a letter of a text -/
def tcN (t k : Nat) : Nat := ([[104, 111, 117, 115, 101], [112, 101, 114, 115, 111, 110], [111, 102], [116, 105, 101], [119, 111, 114, 107], [108, 97, 115, 116], [99, 104, 97, 105, 114, 115], [97, 102, 116, 101, 114], [119, 101, 97, 114], [109, 101, 110, 100], [116, 97, 107, 101], [115, 116, 114, 111, 108, 108]].getD t []).getD k 0
theorem tc_all : ∀ t : Fin 12, ∀ k : Fin 6, k.1 < tlN t.1 → (((bytS.getD t.1 []).getD k.1 0 &&& nI 255).toUInt32 % 65536).toInt32 = nI (tcN t.1 k.1) ∧ tcN t.1 k.1 < 128 := by decide +kernel
theorem tl_le : ∀ t : Fin 12, tlN t.1 ≤ 6 := by decide +kernel
theorem tl_6 {t : Nat} (h : t < 12) : tlN t ≤ 6 := tl_le ⟨t, h⟩
theorem tc_e {t k : Nat} (h : t < 12) (hk : k < tlN t) : (((bytS.getD t []).getD k 0 &&& nI 255).toUInt32 % 65536).toInt32 = nI (tcN t k) := (tc_all ⟨t, h⟩ ⟨k, Nat.lt_of_lt_of_le hk (tl_6 h)⟩ hk).1
theorem tc_l {t k : Nat} (h : t < 12) (hk : k < tlN t) : tcN t k < 128 := (tc_all ⟨t, h⟩ ⟨k, Nat.lt_of_lt_of_le hk (tl_6 h)⟩ hk).2
theorem shr0 {n : Nat} (h : n < 2 ^ 31) : nI n >>> ((0 : Int32) &&& 31) = nI n := by
  rw [pk_shrN h _ 0 (by decide)]
  simp
set_option maxHeartbeats 4000000 in
set_option maxRecDepth 100000 in
theorem s_coder (E : EnvT) (ad : Nat → Nat) (t : Nat) (ht : t < 12) : Md E mJ0_coder_7d493 ad [.ref (E.2.2 t)] [] (some (.int 0)) [] := by
  refine Md.of 0 (by decide) rfl rfl ?_
  refine Tr.gsCS dJ0_coder_7d493_0 fl_cs (Eq.refl 3) ?_
  refine Tr.if_eq (tgt := 13) dJ0_coder_7d493_3 (by decide) (Eq.refl 6) (fun h3 => ?_) (fun h3 => ?_)
  · exact absurd h3 (by decide)
  · refine Tr.aload_n (i := 0) dJ0_coder_7d493_6 rfl rfl (Eq.refl 7) ?_
    refine Tr.sCod dJ0_coder_7d493_7 fl_co ht (Eq.refl 10) ?_
    refine Tr.goto (pc' := 14) dJ0_coder_7d493_10 (by decide) ?_
    refine Tr.iret dJ0_coder_7d493_14 rfl (by first | rfl | exact bI_nar _) ?_ ?_
    · rfl
    · rfl
set_option maxHeartbeats 4000000 in
set_option maxRecDepth 100000 in
theorem s_isLatin1 (E : EnvT) (ad : Nat → Nat) (t : Nat) (ht : t < 12) : Md E mJ0_isLatin1_aae02 ad [.ref (E.2.2 t)] [] (some (.int 1)) [] := by
  refine Md.of 0 (by decide) rfl rfl ?_
  refine Tr.gsCS dJ0_isLatin1_aae02_0 fl_cs (Eq.refl 3) ?_
  refine Tr.if_eq (tgt := 17) dJ0_isLatin1_aae02_3 (by decide) (Eq.refl 6) (fun h3 => ?_) (fun h3 => ?_)
  · exact absurd h3 (by decide)
  · refine Tr.aload_n (i := 0) dJ0_isLatin1_aae02_6 rfl rfl (Eq.refl 7) ?_
    refine Tr.sCod dJ0_isLatin1_aae02_7 fl_co ht (Eq.refl 10) ?_
    refine Tr.if_ne (tgt := 17) dJ0_isLatin1_aae02_10 (by decide) (Eq.refl 13) (fun h10 => ?_) (fun h10 => ?_)
    · exact absurd rfl h10
    · refine Tr.iconst (v := nI 1) dJ0_isLatin1_aae02_13 (icN 1) (Eq.refl 14) ?_
      refine Tr.goto (pc' := 18) dJ0_isLatin1_aae02_14 (by decide) ?_
      refine Tr.iret dJ0_isLatin1_aae02_18 rfl (by first | rfl | exact bI_nar _) ?_ ?_
      · rfl
      · rfl
set_option maxHeartbeats 4000000 in
set_option maxRecDepth 100000 in
theorem s_length (E : EnvT) (ad : Nat → Nat) (t : Nat) (ht : t < 12) : Md E mJ0_length_8abf5 ad [.ref (E.2.2 t)] [] (some (.int (nI (tlN t)))) [] := by
  have h6 := tl_6 ht
  refine Md.of 0 (by decide) rfl rfl ?_
  refine Tr.aload_n (i := 0) dJ0_length_8abf5_0 rfl rfl (Eq.refl 1) ?_
  refine Tr.sVal dJ0_length_8abf5_1 fl_va ht (Eq.refl 4) ?_
  refine Tr.sLen dJ0_length_8abf5_4 ht (Eq.refl 5) ?_
  refine Tr.top (y := nI (tlN t)) rfl ?_
  refine Tr.aload_n (i := 0) dJ0_length_8abf5_5 rfl rfl (Eq.refl 6) ?_
  refine Tr.callT (s_coder E _ t ht) dJ0_length_8abf5_6 (kJ0_335 (Nat.le_of_ble_eq_true rfl)) iJ0_coder_7d493 (by omega) rfl rfl rfl rfl rfl rfl (Eq.refl 9) ?_
  refine Tr.ishr dJ0_length_8abf5_9 (Eq.refl 10) ?_
  refine Tr.top (shr0 (by omega)) ?_
  refine Tr.iret dJ0_length_8abf5_10 rfl (by first | rfl | exact bI_nar _) ?_ ?_
  · rfl
  · rfl
set_option maxHeartbeats 4000000 in
set_option maxRecDepth 100000 in
theorem s_check3 (E : EnvT) (ad : Nat → Nat) (a n : Nat) (x : Nat) (h : a < n) (hn : n < 2 ^ 31) : Md E mJ3_checkIndex_8e157 ad [.int (nI a), .int (nI n), .ref x] [] (some (.int (nI a))) [] := by
  refine Md.of 0 (by decide) rfl rfl ?_
  refine Tr.iload_n (i := 0) dJ3_checkIndex_8e157_0 rfl rfl (Eq.refl 1) ?_
  refine Tr.if_lt (tgt := 9) dJ3_checkIndex_8e157_1 (by decide) (Eq.refl 4) (fun h1 => ?_) (fun h1 => ?_)
  · exact absurd h1 (nI_nneg (by omega))
  · refine Tr.iload_n (i := 0) dJ3_checkIndex_8e157_4 rfl rfl (Eq.refl 5) ?_
    refine Tr.iload_n (i := 1) dJ3_checkIndex_8e157_5 rfl rfl (Eq.refl 6) ?_
    refine Tr.icmp_ltN (tgt := 16) dJ3_checkIndex_8e157_6 (by decide) (Eq.refl 9) (by omega) (by omega) (fun h6 => ?_) (fun h6 => ?_)
    · refine Tr.iload_n (i := 0) dJ3_checkIndex_8e157_16 rfl rfl (Eq.refl 17) ?_
      refine Tr.iret dJ3_checkIndex_8e157_17 rfl (by first | rfl | exact bI_nar _) ?_ ?_
      · rfl
      · rfl
    · exact absurd h6 (by omega)
set_option maxHeartbeats 4000000 in
set_option maxRecDepth 100000 in
theorem s_check0 (E : EnvT) (ad : Nat → Nat) (a n : Nat) (h : a < n) (hn : n < 2 ^ 31) : Md E mJ3_checkIndex_8e157 ad [.int (nI a), .int (nI n), .null] [] (some (.int (nI a))) [] := by
  refine Md.of 0 (by decide) rfl rfl ?_
  refine Tr.iload_n (i := 0) dJ3_checkIndex_8e157_0 rfl rfl (Eq.refl 1) ?_
  refine Tr.if_lt (tgt := 9) dJ3_checkIndex_8e157_1 (by decide) (Eq.refl 4) (fun h1 => ?_) (fun h1 => ?_)
  · exact absurd h1 (nI_nneg (by omega))
  · refine Tr.iload_n (i := 0) dJ3_checkIndex_8e157_4 rfl rfl (Eq.refl 5) ?_
    refine Tr.iload_n (i := 1) dJ3_checkIndex_8e157_5 rfl rfl (Eq.refl 6) ?_
    refine Tr.icmp_ltN (tgt := 16) dJ3_checkIndex_8e157_6 (by decide) (Eq.refl 9) (by omega) (by omega) (fun h6 => ?_) (fun h6 => ?_)
    · refine Tr.iload_n (i := 0) dJ3_checkIndex_8e157_16 rfl rfl (Eq.refl 17) ?_
      refine Tr.iret dJ3_checkIndex_8e157_17 rfl (by first | rfl | exact bI_nar _) ?_ ?_
      · rfl
      · rfl
    · exact absurd h6 (by omega)
set_option maxHeartbeats 4000000 in
set_option maxRecDepth 100000 in
theorem s_check (E : EnvT) (ad : Nat → Nat) (a n : Nat) (h : a < n) (hn : n < 2 ^ 31) : Md E mJ0_checkIndex_df160 ad [.int (nI a), .int (nI n)] [] none [] := by
  refine Md.of 0 (by decide) rfl rfl ?_
  refine Tr.iload_n (i := 0) dJ0_checkIndex_df160_0 rfl rfl (Eq.refl 1) ?_
  refine Tr.iload_n (i := 1) dJ0_checkIndex_df160_1 rfl rfl (Eq.refl 2) ?_
  refine Tr.gsSF dJ0_checkIndex_df160_2 fl_sf (Eq.refl 5) ?_ (fun x => ?_)
  · refine Tr.callSr (L := []) (s_check0 E _ a n h hn) dJ0_checkIndex_df160_5 (kJ0_1059 (Nat.le_of_ble_eq_true rfl)) sJ3_checkIndex_8e157 rfl rfl rfl rfl rfl rfl rfl (Eq.refl 8) ?_
    refine Tr.pop dJ0_checkIndex_df160_8 rfl (Eq.refl 9) ?_
    refine Tr.ret dJ0_checkIndex_df160_9 rfl rfl ?_
    rfl
  · refine Tr.callSr (L := []) (s_check3 E _ a n x h hn) dJ0_checkIndex_df160_5 (kJ0_1059 (Nat.le_of_ble_eq_true rfl)) sJ3_checkIndex_8e157 rfl rfl rfl rfl rfl rfl rfl (Eq.refl 8) ?_
    refine Tr.pop dJ0_checkIndex_df160_8 rfl (Eq.refl 9) ?_
    refine Tr.ret dJ0_checkIndex_df160_9 rfl rfl ?_
    rfl
set_option maxHeartbeats 4000000 in
set_option maxRecDepth 100000 in
theorem s_latin (E : EnvT) (ad : Nat → Nat) (t k : Nat) (ht : t < 12) (hk : k < tlN t) : Md E mJ1_charAt_3b067 ad [.ref (E.2.2 (100 + t)), .int (nI k)] [] (some (.int (nI (tcN t k)))) [] := by
  have h6 := tl_6 ht
  have h7 := tc_l ht hk
  refine Md.of 0 (by decide) rfl rfl ?_
  refine Tr.iload_n (i := 1) dJ1_charAt_3b067_0 rfl rfl (Eq.refl 1) ?_
  refine Tr.aload_n (i := 0) dJ1_charAt_3b067_1 rfl rfl (Eq.refl 2) ?_
  refine Tr.sLen dJ1_charAt_3b067_2 ht (Eq.refl 3) ?_
  refine Tr.top (y := nI (tlN t)) rfl ?_
  refine Tr.callSr (L := []) (s_check E _ k (tlN t) hk (by omega)) dJ1_charAt_3b067_3 (kJ1_9 (Nat.le_of_ble_eq_true rfl)) sJ0_checkIndex_df160 rfl rfl rfl rfl rfl rfl rfl (Eq.refl 6) ?_
  refine Tr.aload_n (i := 0) dJ1_charAt_3b067_6 rfl rfl (Eq.refl 7) ?_
  refine Tr.iload_n (i := 1) dJ1_charAt_3b067_7 rfl rfl (Eq.refl 8) ?_
  refine Tr.sByte dJ1_charAt_3b067_8 ht hk (Eq.refl 9) ?_
  refine Tr.sipush (v := nI 255) dJ1_charAt_3b067_9 (by decide +kernel) (Eq.refl 12) ?_
  refine Tr.iand dJ1_charAt_3b067_12 (Eq.refl 13) ?_
  refine Tr.i2c dJ1_charAt_3b067_13 rfl (Eq.refl 14) ?_
  refine Tr.top (tc_e ht hk) ?_
  refine Tr.iret dJ1_charAt_3b067_14 rfl ((pk_charN (q := tcN t k) (by omega)).1) ?_ ?_
  · rfl
  · rfl
set_option maxHeartbeats 4000000 in
set_option maxRecDepth 100000 in
theorem s_charAt (E : EnvT) (ad : Nat → Nat) (t k : Nat) (ht : t < 12) (hk : k < tlN t) : Md E mJ0_charAt_5068e ad [.ref (E.2.2 t), .int (nI k)] [] (some (.int (nI (tcN t k)))) [] := by
  have h7 := tc_l ht hk
  refine Md.of 0 (by decide) rfl rfl ?_
  refine Tr.aload_n (i := 0) dJ0_charAt_5068e_0 rfl rfl (Eq.refl 1) ?_
  refine Tr.callT (s_isLatin1 E _ t ht) dJ0_charAt_5068e_1 (kJ0_492 (Nat.le_of_ble_eq_true rfl)) iJ0_isLatin1_aae02 (by omega) rfl rfl rfl rfl rfl rfl (Eq.refl 4) ?_
  refine Tr.if_eq (tgt := 16) dJ0_charAt_5068e_4 (by decide) (Eq.refl 7) (fun h4 => ?_) (fun h4 => ?_)
  · exact absurd h4 (by decide)
  · refine Tr.aload_n (i := 0) dJ0_charAt_5068e_7 rfl rfl (Eq.refl 8) ?_
    refine Tr.sVal dJ0_charAt_5068e_8 fl_va ht (Eq.refl 11) ?_
    refine Tr.iload_n (i := 1) dJ0_charAt_5068e_11 rfl rfl (Eq.refl 12) ?_
    refine Tr.callSr (L := []) (s_latin E _ t k ht hk) dJ0_charAt_5068e_12 (kJ0_495 (Nat.le_of_ble_eq_true rfl)) sJ1_charAt_3b067 rfl rfl rfl rfl rfl rfl rfl (Eq.refl 15) ?_
    refine Tr.iret dJ0_charAt_5068e_15 rfl ((pk_charN (q := tcN t k) (by omega)).1) ?_ ?_
    · rfl
    · rfl
/-- the letters from s on are the text's: the first so many -/
def wlS (T : Nat → Nat) (s t k : Nat) (_ : Unit) : Bool × Unit := (decide (T (s + k) = tcN t k), ())
/-- a word token is the text -/
def wdB (T : Nat → Nat) (s e kd t : Nat) : Bool := decide (kd = 1) && decide (e - s = tlN t) && (itB (wlS T s t) () (tlN t)).1
theorem sb_c {n c : Nat} (h : n < 256) (hc : c < 128) : sb n = nI c ↔ n = c := by
  have hall : ∀ n : Fin 256, ∀ c : Fin 128, (sb n.1 = nI c.1 ↔ n.1 = c.1) := by decide +kernel
  exact hall ⟨n, h⟩ ⟨c, hc⟩
set_option maxHeartbeats 4000000 in
set_option maxRecDepth 100000 in
theorem m_is (E : EnvT) (ad r : Nat → Nat) (i : Nat → Int32) (len fr bh hd vl : Nat) (T : Nat → Nat) (t : Nat) (ht : t < 12) (hl : len ≤ 900) (hT : ∀ k, k < 900 → T k < 256) (h1 : fr ≤ bh) (h2 : bh ≤ len) (hh : hd < 10) : Md E mX10_is ad [.ref (ad 0), .ref (E.2.2 t)] (msC E ad r i len fr bh hd vl T) (some (.int (bI (wdB T fr bh hd t)))) (msC E ad r i len fr bh hd vl T) := by
  have h6 := tl_6 ht
  by_cases hc : hd = 1 ∧ bh - fr = tlN t
  · have hx : wdB T fr bh hd t = (itB (wlS T fr t) () (tlN t)).1 := by unfold wdB; rw [decide_eq_true hc.1, decide_eq_true hc.2]; rfl
    rw [hx]
    clear hx
    generalize hR : (itB (wlS T fr t) () (tlN t)) = R
    refine Md.of 2 (by decide) rfl rfl ?_
    refine Tr.aload_n (i := 0) dX10_is_0 rfl rfl (Eq.refl 1) ?_
    refine Tr.getf dX10_is_1 fX10_27 rfl rfl (Eq.refl 4) ?_
    refine Tr.iconst (v := nI 1) dX10_is_4 (icN 1) (Eq.refl 5) ?_
    refine Tr.icmp_neN (tgt := 28) dX10_is_5 (by decide) (Eq.refl 8) (by omega) (by omega) (fun h5 => ?_) (fun h5 => ?_)
    · exact absurd hc.1 h5
    · refine Tr.aload_n (i := 0) dX10_is_8 rfl rfl (Eq.refl 9) ?_
      refine Tr.getf dX10_is_9 fX10_20 rfl rfl (Eq.refl 12) ?_
      refine Tr.aload_n (i := 0) dX10_is_12 rfl rfl (Eq.refl 13) ?_
      refine Tr.getf dX10_is_13 fX10_7 rfl rfl (Eq.refl 16) ?_
      refine Tr.isub dX10_is_16 (Eq.refl 17) ?_
      rw [pk_sub h1]
      refine Tr.aload_n (i := 1) dX10_is_17 rfl rfl (Eq.refl 18) ?_
      refine Tr.callT (s_length E _ t ht) dX10_is_18 (kX10_40 (Nat.le_of_ble_eq_true rfl)) iJ0_length_8abf5 (by omega) rfl rfl rfl rfl rfl rfl (Eq.refl 21) ?_
      refine Tr.icmp_neN (tgt := 28) dX10_is_21 (by decide) (Eq.refl 24) (by omega) (by omega) (fun h21 => ?_) (fun h21 => ?_)
      · exact absurd hc.2 h21
      · refine Tr.iconst (v := nI 1) dX10_is_24 (icN 1) (Eq.refl 25) ?_
        refine Tr.goto (pc' := 29) dX10_is_25 (by decide) ?_
        refine Tr.istore_n (i := 2) dX10_is_29 rfl rfl rfl (Eq.refl 30) ?_
        refine Tr.iconst (v := nI 0) dX10_is_30 (icN 0) (Eq.refl 31) ?_
        refine Tr.istore_n (i := 3) dX10_is_31 rfl rfl rfl (Eq.refl 32) ?_
        skip
        refine Tr.mask [true, true, true, true] (lv' := [some (.ref (ad 0)), some (.ref (E.2.2 t)), some (.int (bI (itB (wlS T fr t) () 0).1)), some (.int (nI 0))]) rfl ?_
        refine loopD (P := fun j => Tr _ 0 0 32 [some (.ref (ad 0)), some (.ref (E.2.2 t)), some (.int (bI (itB (wlS T fr t) () j).1)), some (.int (nI j))] [] (msC E ad r i len fr bh hd vl T)) (tlN t) ?_ (fun j hj ih => ?_)
        · rw [hR]
          refine Tr.iload_n (i := 3) dX10_is_32 rfl rfl (Eq.refl 33) ?_
          refine Tr.aload_n (i := 1) dX10_is_33 rfl rfl (Eq.refl 34) ?_
          refine Tr.callT (s_length E _ t ht) dX10_is_34 (kX10_40 (Nat.le_of_ble_eq_true rfl)) iJ0_length_8abf5 (by omega) rfl rfl rfl rfl rfl rfl (Eq.refl 37) ?_
          refine Tr.icmp_geN (tgt := 75) dX10_is_37 (by decide) (Eq.refl 40) (by omega) (by omega) (fun h37 => ?_) (fun h37 => ?_)
          · refine Tr.iload_n (i := 2) dX10_is_75 rfl rfl (Eq.refl 76) ?_
            refine Tr.iret dX10_is_76 rfl (by first | rfl | exact bI_nar _) ?_ ?_
            · rfl
            · rfl
          · exact absurd h37 (by omega)
        · have hTj := hT (fr + j) (by omega)
          have hcj := tc_l ht hj
          refine Tr.iload_n (i := 3) dX10_is_32 rfl rfl (Eq.refl 33) ?_
          refine Tr.aload_n (i := 1) dX10_is_33 rfl rfl (Eq.refl 34) ?_
          refine Tr.callT (s_length E _ t ht) dX10_is_34 (kX10_40 (Nat.le_of_ble_eq_true rfl)) iJ0_length_8abf5 (by omega) rfl rfl rfl rfl rfl rfl (Eq.refl 37) ?_
          refine Tr.icmp_geN (tgt := 75) dX10_is_37 (by decide) (Eq.refl 40) (by omega) (by omega) (fun h37 => ?_) (fun h37 => ?_)
          · exact absurd h37 (by omega)
          · refine Tr.iload_n (i := 2) dX10_is_40 rfl rfl (Eq.refl 41) ?_
            refine Tr.if_eqB (tgt := 75) dX10_is_41 (by decide) (Eq.refl 44) (fun h41 => ?_) (fun h41 => ?_)
            · rw [show R = (itB (wlS T fr t) () j) from by rw [← hR]; exact itB_fr (Nat.le_of_lt hj) h41]
              refine Tr.iload_n (i := 2) dX10_is_75 rfl rfl (Eq.refl 76) ?_
              refine Tr.iret dX10_is_76 rfl (by first | rfl | exact bI_nar _) ?_ ?_
              · rfl
              · rfl
            · rw [itB_s h41] at ih
              refine Tr.aload_n (i := 0) dX10_is_44 rfl rfl (Eq.refl 45) ?_
              refine Tr.getf dX10_is_45 fX10_16 rfl rfl (Eq.refl 48) ?_
              refine Tr.aload_n (i := 0) dX10_is_48 rfl rfl (Eq.refl 49) ?_
              refine Tr.getf dX10_is_49 fX10_7 rfl rfl (Eq.refl 52) ?_
              refine Tr.iload_n (i := 3) dX10_is_52 rfl rfl (Eq.refl 53) ?_
              refine Tr.iaddN dX10_is_53 (Eq.refl 54) ?_
              refine Tr.baldN dX10_is_54 rfl (by omega) (by decide) (Eq.refl 55) ?_
              refine Tr.aload_n (i := 1) dX10_is_55 rfl rfl (Eq.refl 56) ?_
              refine Tr.iload_n (i := 3) dX10_is_56 rfl rfl (Eq.refl 57) ?_
              refine Tr.callT (s_charAt E _ t j ht hj) dX10_is_57 (kX10_45 (Nat.le_of_ble_eq_true rfl)) iJ0_charAt_5068e (by omega) rfl rfl rfl rfl rfl rfl (Eq.refl 60) ?_
              refine Tr.icmp_ne (tgt := 67) dX10_is_60 (by decide) (Eq.refl 63) (fun h60 => ?_) (fun h60 => ?_)
              · rw [sb_c hTj hcj] at h60
                rw [show (wlS T fr t j (itB (wlS T fr t) () j).2).1 = false from decide_eq_false h60] at ih
                refine Tr.iconst (v := nI 0) dX10_is_67 (icN 0) (Eq.refl 68) ?_
                refine Tr.istore_n (i := 2) dX10_is_68 rfl rfl rfl (Eq.refl 69) ?_
                refine Tr.iincN dX10_is_69 rfl rfl rfl (Eq.refl 72) ?_
                refine Tr.goto (pc' := 32) dX10_is_72 (by decide) ?_
                exact Tr.eqs rfl rfl rfl ih
              · rw [sb_c hTj hcj] at h60
                rw [show (wlS T fr t j (itB (wlS T fr t) () j).2).1 = true from decide_eq_true h60] at ih
                refine Tr.iconst (v := nI 1) dX10_is_63 (icN 1) (Eq.refl 64) ?_
                refine Tr.goto (pc' := 68) dX10_is_64 (by decide) ?_
                refine Tr.istore_n (i := 2) dX10_is_68 rfl rfl rfl (Eq.refl 69) ?_
                refine Tr.iincN dX10_is_69 rfl rfl rfl (Eq.refl 72) ?_
                refine Tr.goto (pc' := 32) dX10_is_72 (by decide) ?_
                exact Tr.eqs rfl rfl rfl ih
  · have hx : wdB T fr bh hd t = false := by
      unfold wdB
      by_cases h3 : hd = 1
      · rw [decide_eq_true h3, decide_eq_false (fun z9 => hc ⟨h3, z9⟩)]; rfl
      · rw [decide_eq_false h3]; rfl
    rw [hx]
    clear hx
    refine Md.of 2 (by decide) rfl rfl ?_
    refine Tr.aload_n (i := 0) dX10_is_0 rfl rfl (Eq.refl 1) ?_
    refine Tr.getf dX10_is_1 fX10_27 rfl rfl (Eq.refl 4) ?_
    refine Tr.iconst (v := nI 1) dX10_is_4 (icN 1) (Eq.refl 5) ?_
    refine Tr.icmp_neN (tgt := 28) dX10_is_5 (by decide) (Eq.refl 8) (by omega) (by omega) (fun h5 => ?_) (fun h5 => ?_)
    · refine Tr.iconst (v := nI 0) dX10_is_28 (icN 0) (Eq.refl 29) ?_
      refine Tr.istore_n (i := 2) dX10_is_29 rfl rfl rfl (Eq.refl 30) ?_
      refine Tr.iconst (v := nI 0) dX10_is_30 (icN 0) (Eq.refl 31) ?_
      refine Tr.istore_n (i := 3) dX10_is_31 rfl rfl rfl (Eq.refl 32) ?_
      refine Tr.iload_n (i := 3) dX10_is_32 rfl rfl (Eq.refl 33) ?_
      refine Tr.aload_n (i := 1) dX10_is_33 rfl rfl (Eq.refl 34) ?_
      refine Tr.callT (s_length E _ t ht) dX10_is_34 (kX10_40 (Nat.le_of_ble_eq_true rfl)) iJ0_length_8abf5 (by omega) rfl rfl rfl rfl rfl rfl (Eq.refl 37) ?_
      refine Tr.icmp_geN (tgt := 75) dX10_is_37 (by decide) (Eq.refl 40) (by omega) (by omega) (fun h37 => ?_) (fun h37 => ?_)
      · skip
        refine Tr.iload_n (i := 2) dX10_is_75 rfl rfl (Eq.refl 76) ?_
        refine Tr.iret dX10_is_76 rfl (by first | rfl | exact bI_nar _) ?_ ?_
        · rfl
        · rfl
      · skip
        refine Tr.iload_n (i := 2) dX10_is_40 rfl rfl (Eq.refl 41) ?_
        refine Tr.if_eq (tgt := 75) dX10_is_41 (by decide) (Eq.refl 44) (fun _ => ?_) (fun h => absurd h (by decide))
        refine Tr.iload_n (i := 2) dX10_is_75 rfl rfl (Eq.refl 76) ?_
        refine Tr.iret dX10_is_76 rfl (by first | rfl | exact bI_nar _) ?_ ?_
        · rfl
        · rfl
    · refine Tr.aload_n (i := 0) dX10_is_8 rfl rfl (Eq.refl 9) ?_
      refine Tr.getf dX10_is_9 fX10_20 rfl rfl (Eq.refl 12) ?_
      refine Tr.aload_n (i := 0) dX10_is_12 rfl rfl (Eq.refl 13) ?_
      refine Tr.getf dX10_is_13 fX10_7 rfl rfl (Eq.refl 16) ?_
      refine Tr.isub dX10_is_16 (Eq.refl 17) ?_
      rw [pk_sub h1]
      refine Tr.aload_n (i := 1) dX10_is_17 rfl rfl (Eq.refl 18) ?_
      refine Tr.callT (s_length E _ t ht) dX10_is_18 (kX10_40 (Nat.le_of_ble_eq_true rfl)) iJ0_length_8abf5 (by omega) rfl rfl rfl rfl rfl rfl (Eq.refl 21) ?_
      refine Tr.icmp_neN (tgt := 28) dX10_is_21 (by decide) (Eq.refl 24) (by omega) (by omega) (fun h21 => ?_) (fun h21 => ?_)
      · refine Tr.iconst (v := nI 0) dX10_is_28 (icN 0) (Eq.refl 29) ?_
        refine Tr.istore_n (i := 2) dX10_is_29 rfl rfl rfl (Eq.refl 30) ?_
        refine Tr.iconst (v := nI 0) dX10_is_30 (icN 0) (Eq.refl 31) ?_
        refine Tr.istore_n (i := 3) dX10_is_31 rfl rfl rfl (Eq.refl 32) ?_
        refine Tr.iload_n (i := 3) dX10_is_32 rfl rfl (Eq.refl 33) ?_
        refine Tr.aload_n (i := 1) dX10_is_33 rfl rfl (Eq.refl 34) ?_
        refine Tr.callT (s_length E _ t ht) dX10_is_34 (kX10_40 (Nat.le_of_ble_eq_true rfl)) iJ0_length_8abf5 (by omega) rfl rfl rfl rfl rfl rfl (Eq.refl 37) ?_
        refine Tr.icmp_geN (tgt := 75) dX10_is_37 (by decide) (Eq.refl 40) (by omega) (by omega) (fun h37 => ?_) (fun h37 => ?_)
        · skip
          refine Tr.iload_n (i := 2) dX10_is_75 rfl rfl (Eq.refl 76) ?_
          refine Tr.iret dX10_is_76 rfl (by first | rfl | exact bI_nar _) ?_ ?_
          · rfl
          · rfl
        · skip
          refine Tr.iload_n (i := 2) dX10_is_40 rfl rfl (Eq.refl 41) ?_
          refine Tr.if_eq (tgt := 75) dX10_is_41 (by decide) (Eq.refl 44) (fun _ => ?_) (fun h => absurd h (by decide))
          refine Tr.iload_n (i := 2) dX10_is_75 rfl rfl (Eq.refl 76) ?_
          refine Tr.iret dX10_is_76 rfl (by first | rfl | exact bI_nar _) ?_ ?_
          · rfl
          · rfl
      · exact absurd ⟨h5, h21⟩ hc
