/-! THE REFERENCE: a village told -/
def tiR (np : Nat) (g : Nat → Int32) (k : Nat) : Int32 := if k / 5 < np ∧ k % 5 < np then g k else nI 0
theorem cl_pre (g f : Nat → Nat) (j : Nat) : upd (fun k => cl (pre g f j k)) j (cl (g j)) = (fun k => cl (pre g f (j + 1) k)) := by
  rw [pre_sN, cl_upN]
theorem bI_pre (g f : Nat → Bool) (j : Nat) : upd (fun k => bI (pre g f j k)) j (bI (g j)) = (fun k => bI (pre g f (j + 1) k)) := by
  funext k
  unfold pre
  by_cases h : k = j
  · subst h; rw [upd_self, if_pos (by omega)]
  · rw [upd_ne _ _ h]
    by_cases h2 : k < j
    · rw [if_pos h2, if_pos (by omega)]
    · rw [if_neg h2, if_neg (by omega)]
set_option maxHeartbeats 4000000 in
set_option maxRecDepth 100000 in
theorem m_villageN (E : EnvT) (ad : Nat → Nat) (V : Vil) (D : Dvi) (tp : Nat) (T : Nat → Nat) (k : Tki) (f : Nat) (fa : Int32) (VR : Vil) (XR : Vix) (N : Nwi) (J : Jk) (K : Nat → Int32) (kb : Nat → Bool) (fn : Nat) (hb : Bool) (F : Nat → Nat) (b : Bki) (hl : tp ≤ 900) (hTa : ∀ k, T k < 256) (hv : k.2.2.2.2.1 < 100000) (y : Rst tp) (b0 : Bool) (hRb : rVF T (tp + 1) (rV0 (p0F tp, tkV T tp 0 k.2.2.2.2.1, k.2.2.2.2.2, VR, XR, 0, -1)) = (b0, y)) (hb0 : b0 = false) : Md E mX10_village ad [.ref (ad 0)] (mA E ad V D tp T k f fa VR XR N J K kb fn hb F b) (some (.int (-1))) (mA E ad V D 0 T (tp, tkS T tp y.1.1, tkE T tp y.1.1, tkH T tp y.1.1, y.2.1, y.2.2.1) y.2.2.2.2.2.1 y.2.2.2.2.2.2 y.2.2.2.1 y.2.2.2.2.1 N J K kb fn hb F b) := by
  have hT : ∀ k, k < 900 → T k < 256 := fun k _ => hTa k
  have hv0 : ((p0F tp, tkV T tp 0 k.2.2.2.2.1, k.2.2.2.2.2, VR, XR, 0, -1) : Rst tp).2.1 < 100000 := tkV_lt hTa hv
  have hRV := fun ad r i => m_readVillage E ad r i tp T (p0F tp, tkV T tp 0 k.2.2.2.2.1, k.2.2.2.2.2, VR, XR, 0, -1) hl hTa hv0
  rw [hRb, hb0] at hRV
  refine Md.of 1 (by decide) rfl rfl ?_
  refine Tr.aload_n (i := 0) dX10_village_0 rfl rfl (Eq.refl 1) ?_
  refine Tr.iconst (v := nI 0) dX10_village_1 (icN 0) (Eq.refl 2) ?_
  refine Tr.putf dX10_village_2 pX10_3 rfl (rfl) (rfl) rfl (Eq.refl 5) ?_
  refine Tr.aload_n (i := 0) dX10_village_5 rfl rfl (Eq.refl 6) ?_
  refine Tr.iconst (v := (-1)) dX10_village_6 (by decide +kernel) (Eq.refl 7) ?_
  refine Tr.putf dX10_village_7 pX10_10 rfl (rfl) (rfl) rfl (Eq.refl 10) ?_
  refine Tr.aload_n (i := 0) dX10_village_10 rfl rfl (Eq.refl 11) ?_
  refine Tr.callV (L := [0, 1]) (m_open E _ (rA ad) (iA V D tp k 0 (-1) VR XR J fn hb b) tp T k 0 (-1) hl hT) dX10_village_11 (kX10_276 (Nat.le_of_ble_eq_true rfl)) iX10_open rfl rfl rfl rfl rfl rfl rfl rfl rfl rfl (Eq.refl 14) ?_
  refine Tr.pic (w' := (mA E ad V D 0 T (tp, tkS T tp 0, tkE T tp 0, tkH T tp 0, tkV T tp 0 k.2.2.2.2.1, k.2.2.2.2.2) 0 (-1) VR XR N J K kb fn hb F b)) (putB_eq (Lc := [2, 3, 4, 5, 6, 7, 8, 9, 10, 11, 12, 13, 14, 15, 16, 17, 18, 19, 20, 21, 22, 23, 24, 25, 26, 27, 28, 29, 30, 31]) 32 rfl rfl rfl rfl ⟨⟨_, rfl, rfl⟩, ⟨_, rfl, rfl⟩, ⟨_, rfl, rfl⟩, ⟨_, rfl, rfl⟩, ⟨_, rfl, rfl⟩, ⟨_, rfl, rfl⟩, ⟨_, rfl, rfl⟩, ⟨_, rfl, rfl⟩, ⟨_, rfl, rfl⟩, ⟨_, rfl, rfl⟩, ⟨_, rfl, rfl⟩, ⟨_, rfl, rfl⟩, ⟨_, rfl, rfl⟩, ⟨_, rfl, rfl⟩, ⟨_, rfl, rfl⟩, ⟨_, rfl, rfl⟩, ⟨_, rfl, rfl⟩, ⟨_, rfl, rfl⟩, ⟨_, rfl, rfl⟩, ⟨_, rfl, rfl⟩, ⟨_, rfl, rfl⟩, ⟨_, rfl, rfl⟩, ⟨_, rfl, rfl⟩, ⟨_, rfl, rfl⟩, ⟨_, rfl, rfl⟩, ⟨_, rfl, rfl⟩, ⟨_, rfl, rfl⟩, ⟨_, rfl, rfl⟩, ⟨_, rfl, rfl⟩, ⟨_, rfl, rfl⟩, trivial⟩ (by decide) rfl) ?_
  refine Tr.aload_n (i := 0) dX10_village_14 rfl rfl (Eq.refl 15) ?_
  refine Tr.callV (L := [0, 1, 3, 11, 12, 13, 14, 15, 16, 17, 18, 19]) (hRV _ (rA ad) (iA V D 0 (tp, tkS T tp 0, tkE T tp 0, tkH T tp 0, tkV T tp 0 k.2.2.2.2.1, k.2.2.2.2.2) 0 (-1) VR XR J fn hb b)) dX10_village_15 (kX10_279 (Nat.le_of_ble_eq_true rfl)) iX10_readVillage rfl rfl rfl rfl rfl rfl rfl rfl rfl rfl (Eq.refl 18) ?_
  refine Tr.pic (w' := (mA E ad V D 0 T (tp, tkS T tp y.1.1, tkE T tp y.1.1, tkH T tp y.1.1, y.2.1, y.2.2.1) y.2.2.2.2.2.1 y.2.2.2.2.2.2 y.2.2.2.1 y.2.2.2.2.1 N J K kb fn hb F b)) (putB_eq (Lc := [2, 4, 5, 6, 7, 8, 9, 10, 20, 21, 22, 23, 24, 25, 26, 27, 28, 29, 30, 31]) 32 rfl rfl rfl rfl ⟨⟨_, rfl, rfl⟩, ⟨_, rfl, rfl⟩, ⟨_, rfl, rfl⟩, ⟨_, rfl, rfl⟩, ⟨_, rfl, rfl⟩, ⟨_, rfl, rfl⟩, ⟨_, rfl, rfl⟩, ⟨_, rfl, rfl⟩, ⟨_, rfl, rfl⟩, ⟨_, rfl, rfl⟩, ⟨_, rfl, rfl⟩, ⟨_, rfl, rfl⟩, ⟨_, rfl, rfl⟩, ⟨_, rfl, rfl⟩, ⟨_, rfl, rfl⟩, ⟨_, rfl, rfl⟩, ⟨_, rfl, rfl⟩, ⟨_, rfl, rfl⟩, ⟨_, rfl, rfl⟩, ⟨_, rfl, rfl⟩, trivial⟩ (by decide) rfl) ?_
  refine Tr.if_neB (tgt := 23) dX10_village_18 (by decide) (Eq.refl 21) (fun h18 => ?_) (fun h18 => ?_)
  · exact absurd h18 nft
  · refine Tr.iconst (v := (-1)) dX10_village_21 (by decide +kernel) (Eq.refl 22) ?_
    refine Tr.iret dX10_village_22 rfl (by first | rfl | exact bI_nar _) ?_ ?_
    · rfl
    · rfl
set_option maxHeartbeats 4000000 in
set_option maxRecDepth 100000 in
theorem m_villageY (E : EnvT) (ad : Nat → Nat) (V : Vil) (D : Dvi) (tp : Nat) (T : Nat → Nat) (k : Tki) (f : Nat) (fa : Int32) (VR : Vil) (XR : Vix) (N : Nwi) (J : Jk) (K : Nat → Int32) (kb : Nat → Bool) (fn : Nat) (hb : Bool) (F : Nat → Nat) (b : Bki) (hl : tp ≤ 900) (hTa : ∀ k, T k < 256) (hv : k.2.2.2.2.1 < 100000) (y : Rst tp) (b0 : Bool) (hRb : rVF T (tp + 1) (rV0 (p0F tp, tkV T tp 0 k.2.2.2.2.1, k.2.2.2.2.2, VR, XR, 0, -1)) = (b0, y)) (hb0 : b0 = true) (h1 : nhV y.2.2.2.1 ≤ 5) (h2 : npV y.2.2.2.1 ≤ 5) (h3 : ∀ p, p < npV y.2.2.2.1 → hoV y.2.2.2.1 p ≤ 5) : Md E mX10_village ad [.ref (ad 0)] (mA E ad V D tp T k f fa VR XR N J K kb fn hb F b) (some (.int y.2.2.2.2.1.1)) (mA E ad (nhV y.2.2.2.1, npV y.2.2.2.1, laV y.2.2.2.1, pre (ruV y.2.2.2.1) (ruV V) 6, pre (woV y.2.2.2.1) (woV V) (nhV y.2.2.2.1), pre (owV y.2.2.2.1) (owV V) (nhV y.2.2.2.1), pre (hoV y.2.2.2.1) (hoV V) (npV y.2.2.2.1), pre (wkV y.2.2.2.1) (wkV V) (npV y.2.2.2.1), pre (tiR (npV y.2.2.2.1) (tiV y.2.2.2.1)) (tiV V) 25) (pre y.2.2.2.2.1.2.2.2.2.1 D.1 (nhV y.2.2.2.1), pre y.2.2.2.2.1.2.2.2.2.2.1 D.2.1 (nhV y.2.2.2.1), y.2.2.2.2.1.1) 0 T (tp, tkS T tp y.1.1, tkE T tp y.1.1, tkH T tp y.1.1, y.2.1, y.2.2.1) y.2.2.2.2.2.1 y.2.2.2.2.2.2 y.2.2.2.1 y.2.2.2.2.1 (bgS (nhV y.2.2.2.1) (npV y.2.2.2.1) (pre y.2.2.2.2.1.2.2.2.2.1 D.1 (nhV y.2.2.2.1)) (pre y.2.2.2.2.1.2.2.2.2.2.1 D.2.1 (nhV y.2.2.2.1)) (pre (hoV y.2.2.2.1) (hoV V) (npV y.2.2.2.1)), bpP (npV y.2.2.2.1) (pre (hoV y.2.2.2.1) (hoV V) (npV y.2.2.2.1)) (fun _ => 0) 5, bpL (fun _ => 0) 5, N.2.2.2) J K (pre (fun _ => false) kb 3) fn false F b) := by
  have hT : ∀ k, k < 900 → T k < 256 := fun k _ => hTa k
  have hv0 : ((p0F tp, tkV T tp 0 k.2.2.2.2.1, k.2.2.2.2.2, VR, XR, 0, -1) : Rst tp).2.1 < 100000 := tkV_lt hTa hv
  have hRV := fun ad r i => m_readVillage E ad r i tp T (p0F tp, tkV T tp 0 k.2.2.2.2.1, k.2.2.2.2.2, VR, XR, 0, -1) hl hTa hv0
  rw [hRb, hb0] at hRV
  clear hRb
  refine Md.of 1 (by decide) rfl rfl ?_
  refine Tr.aload_n (i := 0) dX10_village_0 rfl rfl (Eq.refl 1) ?_
  refine Tr.iconst (v := nI 0) dX10_village_1 (icN 0) (Eq.refl 2) ?_
  refine Tr.putf dX10_village_2 pX10_3 rfl (rfl) (rfl) rfl (Eq.refl 5) ?_
  refine Tr.aload_n (i := 0) dX10_village_5 rfl rfl (Eq.refl 6) ?_
  refine Tr.iconst (v := (-1)) dX10_village_6 (by decide +kernel) (Eq.refl 7) ?_
  refine Tr.putf dX10_village_7 pX10_10 rfl (rfl) (rfl) rfl (Eq.refl 10) ?_
  refine Tr.aload_n (i := 0) dX10_village_10 rfl rfl (Eq.refl 11) ?_
  refine Tr.callV (L := [0, 1]) (m_open E _ (rA ad) (iA V D tp k 0 (-1) VR XR J fn hb b) tp T k 0 (-1) hl hT) dX10_village_11 (kX10_276 (Nat.le_of_ble_eq_true rfl)) iX10_open rfl rfl rfl rfl rfl rfl rfl rfl rfl rfl (Eq.refl 14) ?_
  refine Tr.pic (w' := (mA E ad V D 0 T (tp, tkS T tp 0, tkE T tp 0, tkH T tp 0, tkV T tp 0 k.2.2.2.2.1, k.2.2.2.2.2) 0 (-1) VR XR N J K kb fn hb F b)) (putB_eq (Lc := [2, 3, 4, 5, 6, 7, 8, 9, 10, 11, 12, 13, 14, 15, 16, 17, 18, 19, 20, 21, 22, 23, 24, 25, 26, 27, 28, 29, 30, 31]) 32 rfl rfl rfl rfl ⟨⟨_, rfl, rfl⟩, ⟨_, rfl, rfl⟩, ⟨_, rfl, rfl⟩, ⟨_, rfl, rfl⟩, ⟨_, rfl, rfl⟩, ⟨_, rfl, rfl⟩, ⟨_, rfl, rfl⟩, ⟨_, rfl, rfl⟩, ⟨_, rfl, rfl⟩, ⟨_, rfl, rfl⟩, ⟨_, rfl, rfl⟩, ⟨_, rfl, rfl⟩, ⟨_, rfl, rfl⟩, ⟨_, rfl, rfl⟩, ⟨_, rfl, rfl⟩, ⟨_, rfl, rfl⟩, ⟨_, rfl, rfl⟩, ⟨_, rfl, rfl⟩, ⟨_, rfl, rfl⟩, ⟨_, rfl, rfl⟩, ⟨_, rfl, rfl⟩, ⟨_, rfl, rfl⟩, ⟨_, rfl, rfl⟩, ⟨_, rfl, rfl⟩, ⟨_, rfl, rfl⟩, ⟨_, rfl, rfl⟩, ⟨_, rfl, rfl⟩, ⟨_, rfl, rfl⟩, ⟨_, rfl, rfl⟩, ⟨_, rfl, rfl⟩, trivial⟩ (by decide) rfl) ?_
  refine Tr.aload_n (i := 0) dX10_village_14 rfl rfl (Eq.refl 15) ?_
  refine Tr.callV (L := [0, 1, 3, 11, 12, 13, 14, 15, 16, 17, 18, 19]) (hRV _ (rA ad) (iA V D 0 (tp, tkS T tp 0, tkE T tp 0, tkH T tp 0, tkV T tp 0 k.2.2.2.2.1, k.2.2.2.2.2) 0 (-1) VR XR J fn hb b)) dX10_village_15 (kX10_279 (Nat.le_of_ble_eq_true rfl)) iX10_readVillage rfl rfl rfl rfl rfl rfl rfl rfl rfl rfl (Eq.refl 18) ?_
  refine Tr.pic (w' := (mA E ad V D 0 T (tp, tkS T tp y.1.1, tkE T tp y.1.1, tkH T tp y.1.1, y.2.1, y.2.2.1) y.2.2.2.2.2.1 y.2.2.2.2.2.2 y.2.2.2.1 y.2.2.2.2.1 N J K kb fn hb F b)) (putB_eq (Lc := [2, 4, 5, 6, 7, 8, 9, 10, 20, 21, 22, 23, 24, 25, 26, 27, 28, 29, 30, 31]) 32 rfl rfl rfl rfl ⟨⟨_, rfl, rfl⟩, ⟨_, rfl, rfl⟩, ⟨_, rfl, rfl⟩, ⟨_, rfl, rfl⟩, ⟨_, rfl, rfl⟩, ⟨_, rfl, rfl⟩, ⟨_, rfl, rfl⟩, ⟨_, rfl, rfl⟩, ⟨_, rfl, rfl⟩, ⟨_, rfl, rfl⟩, ⟨_, rfl, rfl⟩, ⟨_, rfl, rfl⟩, ⟨_, rfl, rfl⟩, ⟨_, rfl, rfl⟩, ⟨_, rfl, rfl⟩, ⟨_, rfl, rfl⟩, ⟨_, rfl, rfl⟩, ⟨_, rfl, rfl⟩, ⟨_, rfl, rfl⟩, ⟨_, rfl, rfl⟩, trivial⟩ (by decide) rfl) ?_
  refine Tr.if_neB (tgt := 23) dX10_village_18 (by decide) (Eq.refl 21) (fun h18 => ?_) (fun h18 => ?_)
  · refine Tr.aload_n (i := 0) dX10_village_23 rfl rfl (Eq.refl 24) ?_
    refine Tr.aload_n (i := 0) dX10_village_24 rfl rfl (Eq.refl 25) ?_
    refine Tr.getf dX10_village_25 fX10_74 rfl rfl (Eq.refl 28) ?_
    refine Tr.putf dX10_village_28 pX10_282 rfl (rfl) (rfl) rfl (Eq.refl 31) ?_
    refine Tr.aload_n (i := 0) dX10_village_31 rfl rfl (Eq.refl 32) ?_
    refine Tr.aload_n (i := 0) dX10_village_32 rfl rfl (Eq.refl 33) ?_
    refine Tr.getf dX10_village_33 fX10_102 rfl rfl (Eq.refl 36) ?_
    refine Tr.putf dX10_village_36 pX10_285 rfl (rfl) (rfl) rfl (Eq.refl 39) ?_
    refine Tr.aload_n (i := 0) dX10_village_39 rfl rfl (Eq.refl 40) ?_
    refine Tr.aload_n (i := 0) dX10_village_40 rfl rfl (Eq.refl 41) ?_
    refine Tr.getf dX10_village_41 fX10_149 rfl rfl (Eq.refl 44) ?_
    refine Tr.putf dX10_village_44 pX10_288 rfl (bI_nar _) (bI_fit _) rfl (Eq.refl 47) ?_
    refine Tr.aload_n (i := 0) dX10_village_47 rfl rfl (Eq.refl 48) ?_
    refine Tr.aload_n (i := 0) dX10_village_48 rfl rfl (Eq.refl 49) ?_
    refine Tr.getf dX10_village_49 fX10_159 rfl rfl (Eq.refl 52) ?_
    refine Tr.putf dX10_village_52 pX10_291 rfl (rfl) (rfl) rfl (Eq.refl 55) ?_
    refine Tr.iconst (v := nI 0) dX10_village_55 (icN 0) (Eq.refl 56) ?_
    refine Tr.istore_n (i := 1) dX10_village_56 rfl rfl rfl (Eq.refl 57) ?_
    skip
    refine Tr.mask [true, true] (lv' := [some (.ref (ad 0)), some (.int (nI 0))]) rfl ?_
    refine Tr.pic (w' := (mA E ad (nhV y.2.2.2.1, npV y.2.2.2.1, laV y.2.2.2.1, pre (ruV y.2.2.2.1) (ruV V) 0, woV V, owV V, hoV V, wkV V, tiV V) (D.1, D.2.1, y.2.2.2.2.1.1) 0 T (tp, tkS T tp y.1.1, tkE T tp y.1.1, tkH T tp y.1.1, y.2.1, y.2.2.1) y.2.2.2.2.2.1 y.2.2.2.2.2.2 y.2.2.2.1 y.2.2.2.2.1 N J K kb fn hb F b)) (by rw [pre_0]; rfl) ?_
    refine loopD (P := fun j => Tr _ 0 0 57 [some (.ref (ad 0)), some (.int (nI j))] [] (mA E ad (nhV y.2.2.2.1, npV y.2.2.2.1, laV y.2.2.2.1, pre (ruV y.2.2.2.1) (ruV V) j, woV V, owV V, hoV V, wkV V, tiV V) (D.1, D.2.1, y.2.2.2.2.1.1) 0 T (tp, tkS T tp y.1.1, tkE T tp y.1.1, tkH T tp y.1.1, y.2.1, y.2.2.1) y.2.2.2.2.2.1 y.2.2.2.2.2.2 y.2.2.2.1 y.2.2.2.2.1 N J K kb fn hb F b)) 6 ?_ (fun j hj ih => ?_)
    · refine Tr.iload_n (i := 1) dX10_village_57 rfl rfl (Eq.refl 58) ?_
      refine Tr.bipush (v := nI 6) dX10_village_58 (by decide +kernel) (Eq.refl 60) ?_
      refine Tr.icmp_geN (tgt := 81) dX10_village_60 (by decide) (Eq.refl 63) (by omega) (by omega) (fun h60 => ?_) (fun h60 => ?_)
      · refine Tr.iconst (v := nI 0) dX10_village_81 (icN 0) (Eq.refl 82) ?_
        refine Tr.istore_n (i := 1) dX10_village_82 rfl rfl rfl (Eq.refl 83) ?_
        skip
        refine Tr.mask [true, true] (lv' := [some (.ref (ad 0)), some (.int (nI 0))]) rfl ?_
        refine Tr.pic (w' := (mA E ad (nhV y.2.2.2.1, npV y.2.2.2.1, laV y.2.2.2.1, pre (ruV y.2.2.2.1) (ruV V) 6, pre (woV y.2.2.2.1) (woV V) 0, pre (owV y.2.2.2.1) (owV V) 0, hoV V, wkV V, tiV V) (pre y.2.2.2.2.1.2.2.2.2.1 D.1 0, pre y.2.2.2.2.1.2.2.2.2.2.1 D.2.1 0, y.2.2.2.2.1.1) 0 T (tp, tkS T tp y.1.1, tkE T tp y.1.1, tkH T tp y.1.1, y.2.1, y.2.2.1) y.2.2.2.2.2.1 y.2.2.2.2.2.2 y.2.2.2.1 y.2.2.2.2.1 N J K kb fn hb F b)) (by rw [pre_0, pre_0, pre_0, pre_0]) ?_
        refine loopD (P := fun j => Tr _ 0 0 83 [some (.ref (ad 0)), some (.int (nI j))] [] (mA E ad (nhV y.2.2.2.1, npV y.2.2.2.1, laV y.2.2.2.1, pre (ruV y.2.2.2.1) (ruV V) 6, pre (woV y.2.2.2.1) (woV V) j, pre (owV y.2.2.2.1) (owV V) j, hoV V, wkV V, tiV V) (pre y.2.2.2.2.1.2.2.2.2.1 D.1 j, pre y.2.2.2.2.1.2.2.2.2.2.1 D.2.1 j, y.2.2.2.2.1.1) 0 T (tp, tkS T tp y.1.1, tkE T tp y.1.1, tkH T tp y.1.1, y.2.1, y.2.2.1) y.2.2.2.2.2.1 y.2.2.2.2.2.2 y.2.2.2.1 y.2.2.2.2.1 N J K kb fn hb F b)) (nhV y.2.2.2.1) ?_ (fun j hj ih => ?_)
        · refine Tr.iload_n (i := 1) dX10_village_83 rfl rfl (Eq.refl 84) ?_
          refine Tr.aload_n (i := 0) dX10_village_84 rfl rfl (Eq.refl 85) ?_
          refine Tr.getf dX10_village_85 fX10_282 rfl rfl (Eq.refl 88) ?_
          refine Tr.top (y := nI (nhV y.2.2.2.1)) rfl ?_
          refine Tr.icmp_geN (tgt := 145) dX10_village_88 (by decide) (Eq.refl 91) (by omega) (by omega) (fun h88 => ?_) (fun h88 => ?_)
          · refine Tr.iconst (v := nI 0) dX10_village_145 (icN 0) (Eq.refl 146) ?_
            refine Tr.istore_n (i := 1) dX10_village_146 rfl rfl rfl (Eq.refl 147) ?_
            skip
            refine Tr.mask [true, true] (lv' := [some (.ref (ad 0)), some (.int (nI 0))]) rfl ?_
            refine Tr.pic (w' := (mA E ad (nhV y.2.2.2.1, npV y.2.2.2.1, laV y.2.2.2.1, pre (ruV y.2.2.2.1) (ruV V) 6, pre (woV y.2.2.2.1) (woV V) (nhV y.2.2.2.1), pre (owV y.2.2.2.1) (owV V) (nhV y.2.2.2.1), pre (hoV y.2.2.2.1) (hoV V) 0, pre (wkV y.2.2.2.1) (wkV V) 0, tiV V) (pre y.2.2.2.2.1.2.2.2.2.1 D.1 (nhV y.2.2.2.1), pre y.2.2.2.2.1.2.2.2.2.2.1 D.2.1 (nhV y.2.2.2.1), y.2.2.2.2.1.1) 0 T (tp, tkS T tp y.1.1, tkE T tp y.1.1, tkH T tp y.1.1, y.2.1, y.2.2.1) y.2.2.2.2.2.1 y.2.2.2.2.2.2 y.2.2.2.1 y.2.2.2.2.1 N J K kb fn hb F b)) (by rw [pre_0, pre_0]) ?_
            refine loopD (P := fun j => Tr _ 0 0 147 [some (.ref (ad 0)), some (.int (nI j))] [] (mA E ad (nhV y.2.2.2.1, npV y.2.2.2.1, laV y.2.2.2.1, pre (ruV y.2.2.2.1) (ruV V) 6, pre (woV y.2.2.2.1) (woV V) (nhV y.2.2.2.1), pre (owV y.2.2.2.1) (owV V) (nhV y.2.2.2.1), pre (hoV y.2.2.2.1) (hoV V) j, pre (wkV y.2.2.2.1) (wkV V) j, tiV V) (pre y.2.2.2.2.1.2.2.2.2.1 D.1 (nhV y.2.2.2.1), pre y.2.2.2.2.1.2.2.2.2.2.1 D.2.1 (nhV y.2.2.2.1), y.2.2.2.2.1.1) 0 T (tp, tkS T tp y.1.1, tkE T tp y.1.1, tkH T tp y.1.1, y.2.1, y.2.2.1) y.2.2.2.2.2.1 y.2.2.2.2.2.2 y.2.2.2.1 y.2.2.2.2.1 N J K kb fn hb F b)) (npV y.2.2.2.1) ?_ (fun j hj ih => ?_)
            · refine Tr.iload_n (i := 1) dX10_village_147 rfl rfl (Eq.refl 148) ?_
              refine Tr.aload_n (i := 0) dX10_village_148 rfl rfl (Eq.refl 149) ?_
              refine Tr.getf dX10_village_149 fX10_285 rfl rfl (Eq.refl 152) ?_
              refine Tr.top (y := nI (npV y.2.2.2.1)) rfl ?_
              refine Tr.icmp_geN (tgt := 185) dX10_village_152 (by decide) (Eq.refl 155) (by omega) (by omega) (fun h152 => ?_) (fun h152 => ?_)
              · refine Tr.iconst (v := nI 0) dX10_village_185 (icN 0) (Eq.refl 186) ?_
                refine Tr.istore_n (i := 1) dX10_village_186 rfl rfl rfl (Eq.refl 187) ?_
                skip
                refine Tr.mask [true, true] (lv' := [some (.ref (ad 0)), some (.int (nI 0))]) rfl ?_
                refine Tr.pic (w' := (mA E ad (nhV y.2.2.2.1, npV y.2.2.2.1, laV y.2.2.2.1, pre (ruV y.2.2.2.1) (ruV V) 6, pre (woV y.2.2.2.1) (woV V) (nhV y.2.2.2.1), pre (owV y.2.2.2.1) (owV V) (nhV y.2.2.2.1), pre (hoV y.2.2.2.1) (hoV V) (npV y.2.2.2.1), pre (wkV y.2.2.2.1) (wkV V) (npV y.2.2.2.1), pre (tiR (npV y.2.2.2.1) (tiV y.2.2.2.1)) (tiV V) 0) (pre y.2.2.2.2.1.2.2.2.2.1 D.1 (nhV y.2.2.2.1), pre y.2.2.2.2.1.2.2.2.2.2.1 D.2.1 (nhV y.2.2.2.1), y.2.2.2.2.1.1) 0 T (tp, tkS T tp y.1.1, tkE T tp y.1.1, tkH T tp y.1.1, y.2.1, y.2.2.1) y.2.2.2.2.2.1 y.2.2.2.2.2.2 y.2.2.2.1 y.2.2.2.2.1 N J K kb fn hb F b)) (by rw [pre_0]) ?_
                refine loopD (P := fun j => Tr _ 0 0 187 [some (.ref (ad 0)), some (.int (nI j))] [] (mA E ad (nhV y.2.2.2.1, npV y.2.2.2.1, laV y.2.2.2.1, pre (ruV y.2.2.2.1) (ruV V) 6, pre (woV y.2.2.2.1) (woV V) (nhV y.2.2.2.1), pre (owV y.2.2.2.1) (owV V) (nhV y.2.2.2.1), pre (hoV y.2.2.2.1) (hoV V) (npV y.2.2.2.1), pre (wkV y.2.2.2.1) (wkV V) (npV y.2.2.2.1), pre (tiR (npV y.2.2.2.1) (tiV y.2.2.2.1)) (tiV V) j) (pre y.2.2.2.2.1.2.2.2.2.1 D.1 (nhV y.2.2.2.1), pre y.2.2.2.2.1.2.2.2.2.2.1 D.2.1 (nhV y.2.2.2.1), y.2.2.2.2.1.1) 0 T (tp, tkS T tp y.1.1, tkE T tp y.1.1, tkH T tp y.1.1, y.2.1, y.2.2.1) y.2.2.2.2.2.1 y.2.2.2.2.2.2 y.2.2.2.1 y.2.2.2.2.1 N J K kb fn hb F b)) 25 ?_ (fun j hj ih => ?_)
                · refine Tr.iload_n (i := 1) dX10_village_187 rfl rfl (Eq.refl 188) ?_
                  refine Tr.bipush (v := nI 25) dX10_village_188 (by decide +kernel) (Eq.refl 190) ?_
                  refine Tr.icmp_geN (tgt := 235) dX10_village_190 (by decide) (Eq.refl 193) (by omega) (by omega) (fun h190 => ?_) (fun h190 => ?_)
                  · skip
                    have hf56 : rwF N.1 N.2.1 N.2.2.1 N.2.2.2 56 = nI N.2.2.2 := rfl
                    have hh3 : ∀ p, p < (npV y.2.2.2.1) → (pre (hoV y.2.2.2.1) (hoV V) (npV y.2.2.2.1)) p ≤ 5 := fun p hp => by rw [pre_n hp]; exact h3 p hp
                    refine Tr.aload_n (i := 0) dX10_village_235 rfl rfl (Eq.refl 236) ?_
                    refine Tr.aload_n (i := 0) dX10_village_236 rfl rfl (Eq.refl 237) ?_
                    refine Tr.getf dX10_village_237 fX10_219 rfl rfl (Eq.refl 240) ?_
                    refine Tr.callV (L := [0, 4, 6, 8, 20]) (m_begin E _ (rA ad) (iA (nhV y.2.2.2.1, npV y.2.2.2.1, laV y.2.2.2.1, pre (ruV y.2.2.2.1) (ruV V) 6, pre (woV y.2.2.2.1) (woV V) (nhV y.2.2.2.1), pre (owV y.2.2.2.1) (owV V) (nhV y.2.2.2.1), pre (hoV y.2.2.2.1) (hoV V) (npV y.2.2.2.1), pre (wkV y.2.2.2.1) (wkV V) (npV y.2.2.2.1), pre (tiR (npV y.2.2.2.1) (tiV y.2.2.2.1)) (tiV V) 25) (pre y.2.2.2.2.1.2.2.2.2.1 D.1 (nhV y.2.2.2.1), pre y.2.2.2.2.1.2.2.2.2.2.1 D.2.1 (nhV y.2.2.2.1), y.2.2.2.2.1.1) 0 (tp, tkS T tp y.1.1, tkE T tp y.1.1, tkH T tp y.1.1, y.2.1, y.2.2.1) y.2.2.2.2.2.1 y.2.2.2.2.2.2 y.2.2.2.1 y.2.2.2.2.1 J fn hb b) (nhV y.2.2.2.1) (npV y.2.2.2.1) (pre y.2.2.2.2.1.2.2.2.2.1 D.1 (nhV y.2.2.2.1)) (pre y.2.2.2.2.1.2.2.2.2.2.1 D.2.1 (nhV y.2.2.2.1)) (pre (hoV y.2.2.2.1) (hoV V) (npV y.2.2.2.1)) (rwF N.1 N.2.1 N.2.2.1 N.2.2.2) N.2.2.2 h1 h2 hh3 hf56) dX10_village_240 (kX10_268 (Nat.le_of_ble_eq_true rfl)) iX10_begin rfl rfl rfl rfl rfl rfl rfl rfl rfl rfl (Eq.refl 243) ?_
                    refine Tr.pic (w' := (mA E ad (nhV y.2.2.2.1, npV y.2.2.2.1, laV y.2.2.2.1, pre (ruV y.2.2.2.1) (ruV V) 6, pre (woV y.2.2.2.1) (woV V) (nhV y.2.2.2.1), pre (owV y.2.2.2.1) (owV V) (nhV y.2.2.2.1), pre (hoV y.2.2.2.1) (hoV V) (npV y.2.2.2.1), pre (wkV y.2.2.2.1) (wkV V) (npV y.2.2.2.1), pre (tiR (npV y.2.2.2.1) (tiV y.2.2.2.1)) (tiV V) 25) (pre y.2.2.2.2.1.2.2.2.2.1 D.1 (nhV y.2.2.2.1), pre y.2.2.2.2.1.2.2.2.2.2.1 D.2.1 (nhV y.2.2.2.1), y.2.2.2.2.1.1) 0 T (tp, tkS T tp y.1.1, tkE T tp y.1.1, tkH T tp y.1.1, y.2.1, y.2.2.1) y.2.2.2.2.2.1 y.2.2.2.2.2.2 y.2.2.2.1 y.2.2.2.2.1 (bgS (nhV y.2.2.2.1) (npV y.2.2.2.1) (pre y.2.2.2.2.1.2.2.2.2.1 D.1 (nhV y.2.2.2.1)) (pre y.2.2.2.2.1.2.2.2.2.2.1 D.2.1 (nhV y.2.2.2.1)) (pre (hoV y.2.2.2.1) (hoV V) (npV y.2.2.2.1)), bpP (npV y.2.2.2.1) (pre (hoV y.2.2.2.1) (hoV V) (npV y.2.2.2.1)) (fun _ => 0) 5, bpL (fun _ => 0) 5, N.2.2.2) J K kb fn hb F b)) (putB_eq (Lc := [1, 2, 3, 5, 7, 9, 10, 11, 12, 13, 14, 15, 16, 17, 18, 19, 21, 22, 23, 24, 25, 26, 27, 28, 29, 30, 31]) 32 rfl rfl rfl rfl ⟨⟨_, rfl, rfl⟩, ⟨_, rfl, rfl⟩, ⟨_, rfl, rfl⟩, ⟨_, rfl, rfl⟩, ⟨_, rfl, rfl⟩, ⟨_, rfl, rfl⟩, ⟨_, rfl, rfl⟩, ⟨_, rfl, rfl⟩, ⟨_, rfl, rfl⟩, ⟨_, rfl, rfl⟩, ⟨_, rfl, rfl⟩, ⟨_, rfl, rfl⟩, ⟨_, rfl, rfl⟩, ⟨_, rfl, rfl⟩, ⟨_, rfl, rfl⟩, ⟨_, rfl, rfl⟩, ⟨_, rfl, rfl⟩, ⟨_, rfl, rfl⟩, ⟨_, rfl, rfl⟩, ⟨_, rfl, rfl⟩, ⟨_, rfl, rfl⟩, ⟨_, rfl, rfl⟩, ⟨_, rfl, rfl⟩, ⟨_, rfl, rfl⟩, ⟨_, rfl, rfl⟩, ⟨_, rfl, rfl⟩, ⟨_, rfl, rfl⟩, trivial⟩ (by decide) rfl) ?_
                    refine Tr.iconst (v := nI 0) dX10_village_243 (icN 0) (Eq.refl 244) ?_
                    refine Tr.istore_n (i := 1) dX10_village_244 rfl rfl rfl (Eq.refl 245) ?_
                    skip
                    refine Tr.mask [true, true] (lv' := [some (.ref (ad 0)), some (.int (nI 0))]) rfl ?_
                    refine Tr.pic (w' := (mA E ad (nhV y.2.2.2.1, npV y.2.2.2.1, laV y.2.2.2.1, pre (ruV y.2.2.2.1) (ruV V) 6, pre (woV y.2.2.2.1) (woV V) (nhV y.2.2.2.1), pre (owV y.2.2.2.1) (owV V) (nhV y.2.2.2.1), pre (hoV y.2.2.2.1) (hoV V) (npV y.2.2.2.1), pre (wkV y.2.2.2.1) (wkV V) (npV y.2.2.2.1), pre (tiR (npV y.2.2.2.1) (tiV y.2.2.2.1)) (tiV V) 25) (pre y.2.2.2.2.1.2.2.2.2.1 D.1 (nhV y.2.2.2.1), pre y.2.2.2.2.1.2.2.2.2.2.1 D.2.1 (nhV y.2.2.2.1), y.2.2.2.2.1.1) 0 T (tp, tkS T tp y.1.1, tkE T tp y.1.1, tkH T tp y.1.1, y.2.1, y.2.2.1) y.2.2.2.2.2.1 y.2.2.2.2.2.2 y.2.2.2.1 y.2.2.2.2.1 (bgS (nhV y.2.2.2.1) (npV y.2.2.2.1) (pre y.2.2.2.2.1.2.2.2.2.1 D.1 (nhV y.2.2.2.1)) (pre y.2.2.2.2.1.2.2.2.2.2.1 D.2.1 (nhV y.2.2.2.1)) (pre (hoV y.2.2.2.1) (hoV V) (npV y.2.2.2.1)), bpP (npV y.2.2.2.1) (pre (hoV y.2.2.2.1) (hoV V) (npV y.2.2.2.1)) (fun _ => 0) 5, bpL (fun _ => 0) 5, N.2.2.2) J K (pre (fun _ => false) kb 0) fn hb F b)) (by rw [pre_0]) ?_
                    refine loopD (P := fun j => Tr _ 0 0 245 [some (.ref (ad 0)), some (.int (nI j))] [] (mA E ad (nhV y.2.2.2.1, npV y.2.2.2.1, laV y.2.2.2.1, pre (ruV y.2.2.2.1) (ruV V) 6, pre (woV y.2.2.2.1) (woV V) (nhV y.2.2.2.1), pre (owV y.2.2.2.1) (owV V) (nhV y.2.2.2.1), pre (hoV y.2.2.2.1) (hoV V) (npV y.2.2.2.1), pre (wkV y.2.2.2.1) (wkV V) (npV y.2.2.2.1), pre (tiR (npV y.2.2.2.1) (tiV y.2.2.2.1)) (tiV V) 25) (pre y.2.2.2.2.1.2.2.2.2.1 D.1 (nhV y.2.2.2.1), pre y.2.2.2.2.1.2.2.2.2.2.1 D.2.1 (nhV y.2.2.2.1), y.2.2.2.2.1.1) 0 T (tp, tkS T tp y.1.1, tkE T tp y.1.1, tkH T tp y.1.1, y.2.1, y.2.2.1) y.2.2.2.2.2.1 y.2.2.2.2.2.2 y.2.2.2.1 y.2.2.2.2.1 (bgS (nhV y.2.2.2.1) (npV y.2.2.2.1) (pre y.2.2.2.2.1.2.2.2.2.1 D.1 (nhV y.2.2.2.1)) (pre y.2.2.2.2.1.2.2.2.2.2.1 D.2.1 (nhV y.2.2.2.1)) (pre (hoV y.2.2.2.1) (hoV V) (npV y.2.2.2.1)), bpP (npV y.2.2.2.1) (pre (hoV y.2.2.2.1) (hoV V) (npV y.2.2.2.1)) (fun _ => 0) 5, bpL (fun _ => 0) 5, N.2.2.2) J K (pre (fun _ => false) kb j) fn hb F b)) 3 ?_ (fun j hj ih => ?_)
                    · refine Tr.iload_n (i := 1) dX10_village_245 rfl rfl (Eq.refl 246) ?_
                      refine Tr.iconst (v := nI 3) dX10_village_246 (icN 3) (Eq.refl 247) ?_
                      refine Tr.icmp_geN (tgt := 263) dX10_village_247 (by decide) (Eq.refl 250) (by omega) (by omega) (fun h247 => ?_) (fun h247 => ?_)
                      · refine Tr.aload_n (i := 0) dX10_village_263 rfl rfl (Eq.refl 264) ?_
                        refine Tr.iconst (v := nI 0) dX10_village_264 (icN 0) (Eq.refl 265) ?_
                        refine Tr.putf dX10_village_265 pX10_294 rfl (rfl) (rfl) rfl (Eq.refl 268) ?_
                        refine Tr.aload_n (i := 0) dX10_village_268 rfl rfl (Eq.refl 269) ?_
                        refine Tr.getf dX10_village_269 fX10_291 rfl rfl (Eq.refl 272) ?_
                        refine Tr.iret dX10_village_272 rfl (by first | rfl | exact bI_nar _) ?_ ?_
                        · rfl
                        · rfl
                      · exact absurd h247 (by omega)
                    · refine Tr.iload_n (i := 1) dX10_village_245 rfl rfl (Eq.refl 246) ?_
                      refine Tr.iconst (v := nI 3) dX10_village_246 (icN 3) (Eq.refl 247) ?_
                      refine Tr.icmp_geN (tgt := 263) dX10_village_247 (by decide) (Eq.refl 250) (by omega) (by omega) (fun h247 => ?_) (fun h247 => ?_)
                      · exact absurd h247 (by omega)
                      · have e9 : upd (fun k => bI (pre (fun _ => false) kb j k)) j (vp_nar .boolean (nI 0)) = (fun k => bI (pre (fun _ => false) kb (j + 1) k)) := by rw [show vp_nar .boolean (nI 0) = bI false from bI_vp false]; exact bI_pre _ _ _
                        refine Tr.aload_n (i := 0) dX10_village_250 rfl rfl (Eq.refl 251) ?_
                        refine Tr.getf dX10_village_251 fX10_246 rfl rfl (Eq.refl 254) ?_
                        refine Tr.iload_n (i := 1) dX10_village_254 rfl rfl (Eq.refl 255) ?_
                        refine Tr.iconst (v := nI 0) dX10_village_255 (icN 0) (Eq.refl 256) ?_
                        refine Tr.zastN dX10_village_256 rfl (by omega) (by decide) (Eq.refl 257) ?_
                        refine Tr.pic (w' := (mA E ad (nhV y.2.2.2.1, npV y.2.2.2.1, laV y.2.2.2.1, pre (ruV y.2.2.2.1) (ruV V) 6, pre (woV y.2.2.2.1) (woV V) (nhV y.2.2.2.1), pre (owV y.2.2.2.1) (owV V) (nhV y.2.2.2.1), pre (hoV y.2.2.2.1) (hoV V) (npV y.2.2.2.1), pre (wkV y.2.2.2.1) (wkV V) (npV y.2.2.2.1), pre (tiR (npV y.2.2.2.1) (tiV y.2.2.2.1)) (tiV V) 25) (pre y.2.2.2.2.1.2.2.2.2.1 D.1 (nhV y.2.2.2.1), pre y.2.2.2.2.1.2.2.2.2.2.1 D.2.1 (nhV y.2.2.2.1), y.2.2.2.2.1.1) 0 T (tp, tkS T tp y.1.1, tkE T tp y.1.1, tkH T tp y.1.1, y.2.1, y.2.2.1) y.2.2.2.2.2.1 y.2.2.2.2.2.2 y.2.2.2.1 y.2.2.2.2.1 (bgS (nhV y.2.2.2.1) (npV y.2.2.2.1) (pre y.2.2.2.2.1.2.2.2.2.1 D.1 (nhV y.2.2.2.1)) (pre y.2.2.2.2.1.2.2.2.2.2.1 D.2.1 (nhV y.2.2.2.1)) (pre (hoV y.2.2.2.1) (hoV V) (npV y.2.2.2.1)), bpP (npV y.2.2.2.1) (pre (hoV y.2.2.2.1) (hoV V) (npV y.2.2.2.1)) (fun _ => 0) 5, bpL (fun _ => 0) 5, N.2.2.2) J K (pre (fun _ => false) kb (j + 1)) fn hb F b)) (by rw [e9]; rfl) ?_
                        refine Tr.iincN dX10_village_257 rfl rfl rfl (Eq.refl 260) ?_
                        refine Tr.goto (pc' := 245) dX10_village_260 (by decide) ?_
                        exact Tr.eqs rfl rfl rfl ih
                  · exact absurd h190 (by omega)
                · refine Tr.iload_n (i := 1) dX10_village_187 rfl rfl (Eq.refl 188) ?_
                  refine Tr.bipush (v := nI 25) dX10_village_188 (by decide +kernel) (Eq.refl 190) ?_
                  refine Tr.icmp_geN (tgt := 235) dX10_village_190 (by decide) (Eq.refl 193) (by omega) (by omega) (fun h190 => ?_) (fun h190 => ?_)
                  · exact absurd h190 (by omega)
                  · refine Tr.aload_n (i := 0) dX10_village_193 rfl rfl (Eq.refl 194) ?_
                    refine Tr.getf dX10_village_194 fX10_217 rfl rfl (Eq.refl 197) ?_
                    refine Tr.iload_n (i := 1) dX10_village_197 rfl rfl (Eq.refl 198) ?_
                    refine Tr.iload_n (i := 1) dX10_village_198 rfl rfl (Eq.refl 199) ?_
                    refine Tr.iconst (v := nI 5) dX10_village_199 (icN 5) (Eq.refl 200) ?_
                    refine Tr.idiv dX10_village_200 (by decide +kernel) (Eq.refl 201) ?_
                    refine Tr.top (y := nI (j / 5)) (pk_div (by omega) (by decide) (by decide)) ?_
                    refine Tr.aload_n (i := 0) dX10_village_201 rfl rfl (Eq.refl 202) ?_
                    refine Tr.getf dX10_village_202 fX10_285 rfl rfl (Eq.refl 205) ?_
                    refine Tr.top (y := nI (npV y.2.2.2.1)) rfl ?_
                    refine Tr.icmp_geN (tgt := 227) dX10_village_205 (by decide) (Eq.refl 208) (by omega) (by omega) (fun h205 => ?_) (fun h205 => ?_)
                    · have e9 : tiR (npV y.2.2.2.1) (tiV y.2.2.2.1) j = nI 0 := if_neg (fun z9 => by omega)
                      refine Tr.iconst (v := nI 0) dX10_village_227 (icN 0) (Eq.refl 228) ?_
                      refine Tr.iastN dX10_village_228 rfl (by omega) (by decide) (Eq.refl 229) ?_
                      refine Tr.pic (w' := (mA E ad (nhV y.2.2.2.1, npV y.2.2.2.1, laV y.2.2.2.1, pre (ruV y.2.2.2.1) (ruV V) 6, pre (woV y.2.2.2.1) (woV V) (nhV y.2.2.2.1), pre (owV y.2.2.2.1) (owV V) (nhV y.2.2.2.1), pre (hoV y.2.2.2.1) (hoV V) (npV y.2.2.2.1), pre (wkV y.2.2.2.1) (wkV V) (npV y.2.2.2.1), pre (tiR (npV y.2.2.2.1) (tiV y.2.2.2.1)) (tiV V) (j + 1)) (pre y.2.2.2.2.1.2.2.2.2.1 D.1 (nhV y.2.2.2.1), pre y.2.2.2.2.1.2.2.2.2.2.1 D.2.1 (nhV y.2.2.2.1), y.2.2.2.2.1.1) 0 T (tp, tkS T tp y.1.1, tkE T tp y.1.1, tkH T tp y.1.1, y.2.1, y.2.2.1) y.2.2.2.2.2.1 y.2.2.2.2.2.2 y.2.2.2.1 y.2.2.2.2.1 N J K kb fn hb F b)) (by unfold mA; rw [show tiV (nhV y.2.2.2.1, npV y.2.2.2.1, laV y.2.2.2.1, pre (ruV y.2.2.2.1) (ruV V) 6, pre (woV y.2.2.2.1) (woV V) (nhV y.2.2.2.1), pre (owV y.2.2.2.1) (owV V) (nhV y.2.2.2.1), pre (hoV y.2.2.2.1) (hoV V) (npV y.2.2.2.1), pre (wkV y.2.2.2.1) (wkV V) (npV y.2.2.2.1), pre (tiR (npV y.2.2.2.1) (tiV y.2.2.2.1)) (tiV V) (j + 1)) = upd (pre (tiR (npV y.2.2.2.1) (tiV y.2.2.2.1)) (tiV V) j) j (tiR (npV y.2.2.2.1) (tiV y.2.2.2.1) j) from (pre_s _ _ _).symm, e9]; rfl) ?_
                      refine Tr.iincN dX10_village_229 rfl rfl rfl (Eq.refl 232) ?_
                      refine Tr.goto (pc' := 187) dX10_village_232 (by decide) ?_
                      exact Tr.eqs rfl rfl rfl ih
                    · refine Tr.iload_n (i := 1) dX10_village_208 rfl rfl (Eq.refl 209) ?_
                      refine Tr.iconst (v := nI 5) dX10_village_209 (icN 5) (Eq.refl 210) ?_
                      refine Tr.irem dX10_village_210 (by decide +kernel) (Eq.refl 211) ?_
                      refine Tr.top (y := nI (j % 5)) (pk_rem (by omega) (by decide) (by decide)) ?_
                      refine Tr.aload_n (i := 0) dX10_village_211 rfl rfl (Eq.refl 212) ?_
                      refine Tr.getf dX10_village_212 fX10_285 rfl rfl (Eq.refl 215) ?_
                      refine Tr.top (y := nI (npV y.2.2.2.1)) rfl ?_
                      refine Tr.icmp_geN (tgt := 227) dX10_village_215 (by decide) (Eq.refl 218) (by omega) (by omega) (fun h215 => ?_) (fun h215 => ?_)
                      · have e9 : tiR (npV y.2.2.2.1) (tiV y.2.2.2.1) j = nI 0 := if_neg (fun z9 => by omega)
                        refine Tr.iconst (v := nI 0) dX10_village_227 (icN 0) (Eq.refl 228) ?_
                        refine Tr.iastN dX10_village_228 rfl (by omega) (by decide) (Eq.refl 229) ?_
                        refine Tr.pic (w' := (mA E ad (nhV y.2.2.2.1, npV y.2.2.2.1, laV y.2.2.2.1, pre (ruV y.2.2.2.1) (ruV V) 6, pre (woV y.2.2.2.1) (woV V) (nhV y.2.2.2.1), pre (owV y.2.2.2.1) (owV V) (nhV y.2.2.2.1), pre (hoV y.2.2.2.1) (hoV V) (npV y.2.2.2.1), pre (wkV y.2.2.2.1) (wkV V) (npV y.2.2.2.1), pre (tiR (npV y.2.2.2.1) (tiV y.2.2.2.1)) (tiV V) (j + 1)) (pre y.2.2.2.2.1.2.2.2.2.1 D.1 (nhV y.2.2.2.1), pre y.2.2.2.2.1.2.2.2.2.2.1 D.2.1 (nhV y.2.2.2.1), y.2.2.2.2.1.1) 0 T (tp, tkS T tp y.1.1, tkE T tp y.1.1, tkH T tp y.1.1, y.2.1, y.2.2.1) y.2.2.2.2.2.1 y.2.2.2.2.2.2 y.2.2.2.1 y.2.2.2.2.1 N J K kb fn hb F b)) (by unfold mA; rw [show tiV (nhV y.2.2.2.1, npV y.2.2.2.1, laV y.2.2.2.1, pre (ruV y.2.2.2.1) (ruV V) 6, pre (woV y.2.2.2.1) (woV V) (nhV y.2.2.2.1), pre (owV y.2.2.2.1) (owV V) (nhV y.2.2.2.1), pre (hoV y.2.2.2.1) (hoV V) (npV y.2.2.2.1), pre (wkV y.2.2.2.1) (wkV V) (npV y.2.2.2.1), pre (tiR (npV y.2.2.2.1) (tiV y.2.2.2.1)) (tiV V) (j + 1)) = upd (pre (tiR (npV y.2.2.2.1) (tiV y.2.2.2.1)) (tiV V) j) j (tiR (npV y.2.2.2.1) (tiV y.2.2.2.1) j) from (pre_s _ _ _).symm, e9]; rfl) ?_
                        refine Tr.iincN dX10_village_229 rfl rfl rfl (Eq.refl 232) ?_
                        refine Tr.goto (pc' := 187) dX10_village_232 (by decide) ?_
                        exact Tr.eqs rfl rfl rfl ih
                      · have e9 : tiR (npV y.2.2.2.1) (tiV y.2.2.2.1) j = tiV y.2.2.2.1 j := if_pos ⟨by omega, by omega⟩
                        refine Tr.aload_n (i := 0) dX10_village_218 rfl rfl (Eq.refl 219) ?_
                        refine Tr.getf dX10_village_219 fX10_114 rfl rfl (Eq.refl 222) ?_
                        refine Tr.iload_n (i := 1) dX10_village_222 rfl rfl (Eq.refl 223) ?_
                        refine Tr.ialdN dX10_village_223 rfl (by omega) (by decide) (Eq.refl 224) ?_
                        refine Tr.goto (pc' := 228) dX10_village_224 (by decide) ?_
                        refine Tr.iastN dX10_village_228 rfl (by omega) (by decide) (Eq.refl 229) ?_
                        refine Tr.pic (w' := (mA E ad (nhV y.2.2.2.1, npV y.2.2.2.1, laV y.2.2.2.1, pre (ruV y.2.2.2.1) (ruV V) 6, pre (woV y.2.2.2.1) (woV V) (nhV y.2.2.2.1), pre (owV y.2.2.2.1) (owV V) (nhV y.2.2.2.1), pre (hoV y.2.2.2.1) (hoV V) (npV y.2.2.2.1), pre (wkV y.2.2.2.1) (wkV V) (npV y.2.2.2.1), pre (tiR (npV y.2.2.2.1) (tiV y.2.2.2.1)) (tiV V) (j + 1)) (pre y.2.2.2.2.1.2.2.2.2.1 D.1 (nhV y.2.2.2.1), pre y.2.2.2.2.1.2.2.2.2.2.1 D.2.1 (nhV y.2.2.2.1), y.2.2.2.2.1.1) 0 T (tp, tkS T tp y.1.1, tkE T tp y.1.1, tkH T tp y.1.1, y.2.1, y.2.2.1) y.2.2.2.2.2.1 y.2.2.2.2.2.2 y.2.2.2.1 y.2.2.2.2.1 N J K kb fn hb F b)) (by unfold mA; rw [show tiV (nhV y.2.2.2.1, npV y.2.2.2.1, laV y.2.2.2.1, pre (ruV y.2.2.2.1) (ruV V) 6, pre (woV y.2.2.2.1) (woV V) (nhV y.2.2.2.1), pre (owV y.2.2.2.1) (owV V) (nhV y.2.2.2.1), pre (hoV y.2.2.2.1) (hoV V) (npV y.2.2.2.1), pre (wkV y.2.2.2.1) (wkV V) (npV y.2.2.2.1), pre (tiR (npV y.2.2.2.1) (tiV y.2.2.2.1)) (tiV V) (j + 1)) = upd (pre (tiR (npV y.2.2.2.1) (tiV y.2.2.2.1)) (tiV V) j) j (tiR (npV y.2.2.2.1) (tiV y.2.2.2.1) j) from (pre_s _ _ _).symm, e9]; rfl) ?_
                        refine Tr.iincN dX10_village_229 rfl rfl rfl (Eq.refl 232) ?_
                        refine Tr.goto (pc' := 187) dX10_village_232 (by decide) ?_
                        exact Tr.eqs rfl rfl rfl ih
              · exact absurd h152 (by omega)
            · refine Tr.iload_n (i := 1) dX10_village_147 rfl rfl (Eq.refl 148) ?_
              refine Tr.aload_n (i := 0) dX10_village_148 rfl rfl (Eq.refl 149) ?_
              refine Tr.getf dX10_village_149 fX10_285 rfl rfl (Eq.refl 152) ?_
              refine Tr.top (y := nI (npV y.2.2.2.1)) rfl ?_
              refine Tr.icmp_geN (tgt := 185) dX10_village_152 (by decide) (Eq.refl 155) (by omega) (by omega) (fun h152 => ?_) (fun h152 => ?_)
              · exact absurd h152 (by omega)
              · refine Tr.aload_n (i := 0) dX10_village_155 rfl rfl (Eq.refl 156) ?_
                refine Tr.getf dX10_village_156 fX10_212 rfl rfl (Eq.refl 159) ?_
                refine Tr.iload_n (i := 1) dX10_village_159 rfl rfl (Eq.refl 160) ?_
                refine Tr.aload_n (i := 0) dX10_village_160 rfl rfl (Eq.refl 161) ?_
                refine Tr.getf dX10_village_161 fX10_108 rfl rfl (Eq.refl 164) ?_
                refine Tr.iload_n (i := 1) dX10_village_164 rfl rfl (Eq.refl 165) ?_
                refine Tr.ialdN dX10_village_165 rfl (by omega) (by decide) (Eq.refl 166) ?_
                refine Tr.iastN dX10_village_166 rfl (by omega) (by decide) (Eq.refl 167) ?_
                refine Tr.aload_n (i := 0) dX10_village_167 rfl rfl (Eq.refl 168) ?_
                refine Tr.getf dX10_village_168 fX10_215 rfl rfl (Eq.refl 171) ?_
                refine Tr.iload_n (i := 1) dX10_village_171 rfl rfl (Eq.refl 172) ?_
                refine Tr.aload_n (i := 0) dX10_village_172 rfl rfl (Eq.refl 173) ?_
                refine Tr.getf dX10_village_173 fX10_111 rfl rfl (Eq.refl 176) ?_
                refine Tr.iload_n (i := 1) dX10_village_176 rfl rfl (Eq.refl 177) ?_
                refine Tr.ialdN dX10_village_177 rfl (by omega) (by decide) (Eq.refl 178) ?_
                refine Tr.iastN dX10_village_178 rfl (by omega) (by decide) (Eq.refl 179) ?_
                refine Tr.pic (w' := (mA E ad (nhV y.2.2.2.1, npV y.2.2.2.1, laV y.2.2.2.1, pre (ruV y.2.2.2.1) (ruV V) 6, pre (woV y.2.2.2.1) (woV V) (nhV y.2.2.2.1), pre (owV y.2.2.2.1) (owV V) (nhV y.2.2.2.1), pre (hoV y.2.2.2.1) (hoV V) (j + 1), pre (wkV y.2.2.2.1) (wkV V) (j + 1), tiV V) (pre y.2.2.2.2.1.2.2.2.2.1 D.1 (nhV y.2.2.2.1), pre y.2.2.2.2.1.2.2.2.2.2.1 D.2.1 (nhV y.2.2.2.1), y.2.2.2.2.1.1) 0 T (tp, tkS T tp y.1.1, tkE T tp y.1.1, tkH T tp y.1.1, y.2.1, y.2.2.1) y.2.2.2.2.2.1 y.2.2.2.2.2.2 y.2.2.2.1 y.2.2.2.2.1 N J K kb fn hb F b)) (by unfold mA; rw [show wkV (nhV y.2.2.2.1, npV y.2.2.2.1, laV y.2.2.2.1, pre (ruV y.2.2.2.1) (ruV V) 6, pre (woV y.2.2.2.1) (woV V) (nhV y.2.2.2.1), pre (owV y.2.2.2.1) (owV V) (nhV y.2.2.2.1), pre (hoV y.2.2.2.1) (hoV V) (j + 1), pre (wkV y.2.2.2.1) (wkV V) (j + 1), tiV V) = upd (pre (wkV y.2.2.2.1) (wkV V) j) j (wkV y.2.2.2.1 j) from (pre_s _ _ _).symm, show (fun k => cl (hoV (nhV y.2.2.2.1, npV y.2.2.2.1, laV y.2.2.2.1, pre (ruV y.2.2.2.1) (ruV V) 6, pre (woV y.2.2.2.1) (woV V) (nhV y.2.2.2.1), pre (owV y.2.2.2.1) (owV V) (nhV y.2.2.2.1), pre (hoV y.2.2.2.1) (hoV V) (j + 1), pre (wkV y.2.2.2.1) (wkV V) (j + 1), tiV V) k)) = upd (fun k => cl (pre (hoV y.2.2.2.1) (hoV V) j k)) j (cl (hoV y.2.2.2.1 j)) from (cl_pre _ _ _).symm]; rfl) ?_
                refine Tr.iincN dX10_village_179 rfl rfl rfl (Eq.refl 182) ?_
                refine Tr.goto (pc' := 147) dX10_village_182 (by decide) ?_
                exact Tr.eqs rfl rfl rfl ih
          · exact absurd h88 (by omega)
        · refine Tr.iload_n (i := 1) dX10_village_83 rfl rfl (Eq.refl 84) ?_
          refine Tr.aload_n (i := 0) dX10_village_84 rfl rfl (Eq.refl 85) ?_
          refine Tr.getf dX10_village_85 fX10_282 rfl rfl (Eq.refl 88) ?_
          refine Tr.top (y := nI (nhV y.2.2.2.1)) rfl ?_
          refine Tr.icmp_geN (tgt := 145) dX10_village_88 (by decide) (Eq.refl 91) (by omega) (by omega) (fun h88 => ?_) (fun h88 => ?_)
          · exact absurd h88 (by omega)
          · refine Tr.aload_n (i := 0) dX10_village_91 rfl rfl (Eq.refl 92) ?_
            refine Tr.getf dX10_village_92 fX10_200 rfl rfl (Eq.refl 95) ?_
            refine Tr.iload_n (i := 1) dX10_village_95 rfl rfl (Eq.refl 96) ?_
            refine Tr.aload_n (i := 0) dX10_village_96 rfl rfl (Eq.refl 97) ?_
            refine Tr.getf dX10_village_97 fX10_89 rfl rfl (Eq.refl 100) ?_
            refine Tr.iload_n (i := 1) dX10_village_100 rfl rfl (Eq.refl 101) ?_
            refine Tr.ialdN dX10_village_101 rfl (by omega) (by decide) (Eq.refl 102) ?_
            refine Tr.iastN dX10_village_102 rfl (by omega) (by decide) (Eq.refl 103) ?_
            refine Tr.aload_n (i := 0) dX10_village_103 rfl rfl (Eq.refl 104) ?_
            refine Tr.getf dX10_village_104 fX10_203 rfl rfl (Eq.refl 107) ?_
            refine Tr.iload_n (i := 1) dX10_village_107 rfl rfl (Eq.refl 108) ?_
            refine Tr.aload_n (i := 0) dX10_village_108 rfl rfl (Eq.refl 109) ?_
            refine Tr.getf dX10_village_109 fX10_93 rfl rfl (Eq.refl 112) ?_
            refine Tr.iload_n (i := 1) dX10_village_112 rfl rfl (Eq.refl 113) ?_
            refine Tr.ialdN dX10_village_113 rfl (by omega) (by decide) (Eq.refl 114) ?_
            refine Tr.iastN dX10_village_114 rfl (by omega) (by decide) (Eq.refl 115) ?_
            refine Tr.aload_n (i := 0) dX10_village_115 rfl rfl (Eq.refl 116) ?_
            refine Tr.getf dX10_village_116 fX10_206 rfl rfl (Eq.refl 119) ?_
            refine Tr.iload_n (i := 1) dX10_village_119 rfl rfl (Eq.refl 120) ?_
            refine Tr.aload_n (i := 0) dX10_village_120 rfl rfl (Eq.refl 121) ?_
            refine Tr.getf dX10_village_121 fX10_96 rfl rfl (Eq.refl 124) ?_
            refine Tr.iload_n (i := 1) dX10_village_124 rfl rfl (Eq.refl 125) ?_
            refine Tr.ialdN dX10_village_125 rfl (by omega) (by decide) (Eq.refl 126) ?_
            refine Tr.iastN dX10_village_126 rfl (by omega) (by decide) (Eq.refl 127) ?_
            refine Tr.aload_n (i := 0) dX10_village_127 rfl rfl (Eq.refl 128) ?_
            refine Tr.getf dX10_village_128 fX10_209 rfl rfl (Eq.refl 131) ?_
            refine Tr.iload_n (i := 1) dX10_village_131 rfl rfl (Eq.refl 132) ?_
            refine Tr.aload_n (i := 0) dX10_village_132 rfl rfl (Eq.refl 133) ?_
            refine Tr.getf dX10_village_133 fX10_99 rfl rfl (Eq.refl 136) ?_
            refine Tr.iload_n (i := 1) dX10_village_136 rfl rfl (Eq.refl 137) ?_
            refine Tr.ialdN dX10_village_137 rfl (by omega) (by decide) (Eq.refl 138) ?_
            refine Tr.iastN dX10_village_138 rfl (by omega) (by decide) (Eq.refl 139) ?_
            refine Tr.pic (w' := (mA E ad (nhV y.2.2.2.1, npV y.2.2.2.1, laV y.2.2.2.1, pre (ruV y.2.2.2.1) (ruV V) 6, pre (woV y.2.2.2.1) (woV V) (j + 1), pre (owV y.2.2.2.1) (owV V) (j + 1), hoV V, wkV V, tiV V) (pre y.2.2.2.2.1.2.2.2.2.1 D.1 (j + 1), pre y.2.2.2.2.1.2.2.2.2.2.1 D.2.1 (j + 1), y.2.2.2.2.1.1) 0 T (tp, tkS T tp y.1.1, tkE T tp y.1.1, tkH T tp y.1.1, y.2.1, y.2.2.1) y.2.2.2.2.2.1 y.2.2.2.2.2.2 y.2.2.2.1 y.2.2.2.2.1 N J K kb fn hb F b)) (by unfold mA; rw [← pre_s y.2.2.2.2.1.2.2.2.2.1 D.1 j, ← pre_s y.2.2.2.2.1.2.2.2.2.2.1 D.2.1 j, show woV (nhV y.2.2.2.1, npV y.2.2.2.1, laV y.2.2.2.1, pre (ruV y.2.2.2.1) (ruV V) 6, pre (woV y.2.2.2.1) (woV V) (j + 1), pre (owV y.2.2.2.1) (owV V) (j + 1), hoV V, wkV V, tiV V) = upd (pre (woV y.2.2.2.1) (woV V) j) j (woV y.2.2.2.1 j) from (pre_s _ _ _).symm, show (fun k => cl (owV (nhV y.2.2.2.1, npV y.2.2.2.1, laV y.2.2.2.1, pre (ruV y.2.2.2.1) (ruV V) 6, pre (woV y.2.2.2.1) (woV V) (j + 1), pre (owV y.2.2.2.1) (owV V) (j + 1), hoV V, wkV V, tiV V) k)) = upd (fun k => cl (pre (owV y.2.2.2.1) (owV V) j k)) j (cl (owV y.2.2.2.1 j)) from (cl_pre _ _ _).symm]; rfl) ?_
            refine Tr.iincN dX10_village_139 rfl rfl rfl (Eq.refl 142) ?_
            refine Tr.goto (pc' := 83) dX10_village_142 (by decide) ?_
            exact Tr.eqs rfl rfl rfl ih
      · exact absurd h60 (by omega)
    · refine Tr.iload_n (i := 1) dX10_village_57 rfl rfl (Eq.refl 58) ?_
      refine Tr.bipush (v := nI 6) dX10_village_58 (by decide +kernel) (Eq.refl 60) ?_
      refine Tr.icmp_geN (tgt := 81) dX10_village_60 (by decide) (Eq.refl 63) (by omega) (by omega) (fun h60 => ?_) (fun h60 => ?_)
      · exact absurd h60 (by omega)
      · refine Tr.aload_n (i := 0) dX10_village_63 rfl rfl (Eq.refl 64) ?_
        refine Tr.getf dX10_village_64 fX10_197 rfl rfl (Eq.refl 67) ?_
        refine Tr.iload_n (i := 1) dX10_village_67 rfl rfl (Eq.refl 68) ?_
        refine Tr.aload_n (i := 0) dX10_village_68 rfl rfl (Eq.refl 69) ?_
        refine Tr.getf dX10_village_69 fX10_156 rfl rfl (Eq.refl 72) ?_
        refine Tr.iload_n (i := 1) dX10_village_72 rfl rfl (Eq.refl 73) ?_
        refine Tr.ialdN dX10_village_73 rfl (by omega) (by decide) (Eq.refl 74) ?_
        refine Tr.iastN dX10_village_74 rfl (by omega) (by decide) (Eq.refl 75) ?_
        refine Tr.pic (w' := (mA E ad (nhV y.2.2.2.1, npV y.2.2.2.1, laV y.2.2.2.1, pre (ruV y.2.2.2.1) (ruV V) (j + 1), woV V, owV V, hoV V, wkV V, tiV V) (D.1, D.2.1, y.2.2.2.2.1.1) 0 T (tp, tkS T tp y.1.1, tkE T tp y.1.1, tkH T tp y.1.1, y.2.1, y.2.2.1) y.2.2.2.2.2.1 y.2.2.2.2.2.2 y.2.2.2.1 y.2.2.2.2.1 N J K kb fn hb F b)) (by unfold mA; rw [show ruV (nhV y.2.2.2.1, npV y.2.2.2.1, laV y.2.2.2.1, pre (ruV y.2.2.2.1) (ruV V) (j + 1), woV V, owV V, hoV V, wkV V, tiV V) = upd (pre (ruV y.2.2.2.1) (ruV V) j) j (ruV y.2.2.2.1 j) from (pre_s _ _ _).symm]; rfl) ?_
        refine Tr.iincN dX10_village_75 rfl rfl rfl (Eq.refl 78) ?_
        refine Tr.goto (pc' := 57) dX10_village_78 (by decide) ?_
        exact Tr.eqs rfl rfl rfl ih
  · exact absurd (show true = false from h18) (by decide)
