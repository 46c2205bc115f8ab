/-! THE REFERENCE: a quarter passes -/
/-- wishes that can be -/
def Wok (V : Vil) (W : Nat → Nat) : Prop := ∀ p, p < npV V → W p < nhV V ∨ W p = 5
theorem Wok.le {V : Vil} {W : Nat → Nat} (hV : Vok V) (h : Wok V W) : Wle V W := fun p hp => by have := h p hp; have := hV.1; omega
theorem bI_vp (b : Bool) : vp_nar .boolean (bI b) = bI b := Value.int.inj (bI_nar b)
theorem bit01 (x : Int32) : x &&& nI 1 = nI 0 ∨ x &&& nI 1 = nI 1 := by
  obtain ⟨j, h1, h2⟩ := pk_andE x (m := nI 1) 1 (by decide)
  rw [h2]
  rcases (show j = 0 ∨ j = 1 by omega) with rfl | rfl
  · exact Or.inl rfl
  · exact Or.inr rfl
/-- one comes -/
def cmS (V : Vil) (L : Nat → Int32) (W : Nat → Nat) (T : Scn) (p : Nat) : Scn := if may V T L p (W p) then (psS T, upN (whS T) p (W p), sdS T, ltS T, alS T, soS T, stS T) else T
theorem guF_ov (V : Vil) (o : Ovr) (S : Scn) (h : Nat) : ∀ n, guF (ovr V o) S h n = guF V S h n := by
  intro n
  induction n with
  | zero => rfl
  | succ n ih =>
    show (if gst V S h n then guF (ovr V o) S h n + 1 else guF (ovr V o) S h n) = _
    rw [ih]
    rfl
theorem tsF_ov (V : Vil) (o : Ovr) (S : Scn) (p : Nat) : ∀ n, tsF (ovr V o) S p n = tsF V S p n := by
  intro n
  induction n with
  | zero => rfl
  | succ n ih =>
    show (if (!decide (n = p)) && decide (whS S n = whS S p) then tsF (ovr V o) S p n + tiV V (p * 5 + n) else tsF (ovr V o) S p n) = _
    rw [ih]
    rfl
theorem tsG_ov (V : Vil) (o : Ovr) (S : Scn) (p : Nat) : tsG (ovr V o) S p = tsG V S p := by
  unfold tsG
  rw [tsF_ov]
  rfl
theorem gue_ov (V : Vil) (o : Ovr) (S : Scn) (h : Nat) : gue (ovr V o) S h = gue V S h := guF_ov V o S h _
set_option maxHeartbeats 4000000 in
set_option maxRecDepth 100000 in
theorem m_comes (E : EnvT) (ad r : Nat → Nat) (i : Nat → Int32) (V : Vil) (o : Ovr) (W : Nat → Nat) (B : Nat → Int32) (S : Scn) (P : Nat → Nat) (L : Nat → Int32) (a : Nat) (p : Nat) (hV : Vok V) (hp : p < npV V) (hS : Sle V S) (hW : Wok V W) : Md E mX10_comes ad [.ref (ad 0), .ref (ad 9), .int (nI p)] (mqC E ad r i V o W B (rwF S P L a)) none (mqC E ad r i V o W B (rwF (cmS (ovr V o) L W S p) P L a)) := by
  have v1 := hV.1
  have v2 := hV.2.1
  have hw := hW p hp
  have v4 := hV.2.2.2.1 p hp
  have hm : may (ovr V o) S L p (W p) = (decide (W p < nhV V) && (decide (owV V (W p) = p) || (decide (nI (gue V S (W p)) < ruV (ovr V o) 0) && (decide (hav (ovr V o) S (W p) = 5) || bt (L (hav (ovr V o) S (W p))) p)))) := by
    unfold may
    rw [gue_ov]
    rfl
  have hr : ruV (ovr V o) 0 = if o.2.1 = -1 then ruV V 0 else o.2.1 := rfl
  have hc : cmS (ovr V o) L W S p = if may (ovr V o) S L p (W p) then (psS S, upN (whS S) p (W p), sdS S, ltS S, alS S, soS S, stS S) else S := rfl
  rw [hc]
  clear hc
  have hlv := fun (h9 : W p < nhV V) => hav_lt (ovr_ok o hV) S (h := W p) h9
  have hiff := fun (h9 : W p < nhV V) => hV.2.2.2.2 (W p) p h9 hp
  have hgl := fun (h9 : W p < nhV V) => guF_le V S (W p) (npV V)
  have en : npV (ovr V o) = npV V := rfl
  have eg : gue V S (W p) = guF V S (W p) (npV V) := rfl
  refine Md.of 2 (by decide) rfl rfl ?_
  refine Tr.aload_n (i := 0) dX10_comes_0 rfl rfl (Eq.refl 1) ?_
  refine Tr.getf dX10_comes_1 fX10_236 rfl rfl (Eq.refl 4) ?_
  refine Tr.iload_n (i := 2) dX10_comes_4 rfl rfl (Eq.refl 5) ?_
  refine Tr.ialdN dX10_comes_5 rfl (by omega) (by decide) (Eq.refl 6) ?_
  refine Tr.istore_n (i := 3) dX10_comes_6 rfl rfl rfl (Eq.refl 7) ?_
  refine Tr.iload_n (i := 3) dX10_comes_7 rfl rfl (Eq.refl 8) ?_
  refine Tr.iconst (v := nI 5) dX10_comes_8 (icN 5) (Eq.refl 9) ?_
  refine Tr.icmp_neN (tgt := 13) dX10_comes_9 (by decide) (Eq.refl 12) (by omega) (by omega) (fun h9 => ?_) (fun h9 => ?_)
  · have h9 : W p < nhV V := by omega
    refine Tr.aload_n (i := 0) dX10_comes_13 rfl rfl (Eq.refl 14) ?_
    refine Tr.getf dX10_comes_14 fX10_212 rfl rfl (Eq.refl 17) ?_
    refine Tr.iload_n (i := 2) dX10_comes_17 rfl rfl (Eq.refl 18) ?_
    refine Tr.ialdN dX10_comes_18 rfl (by omega) (by decide) (Eq.refl 19) ?_
    refine Tr.iload_n (i := 3) dX10_comes_19 rfl rfl (Eq.refl 20) ?_
    refine Tr.icmp_eq (tgt := 82) dX10_comes_20 (by decide) (Eq.refl 23) (fun h20 => ?_) (fun h20 => ?_)
    · rw [cl_eq (by omega)] at h20
      rw [show may (ovr V o) S L p (W p) = true from by rw [hm]; simp [h9, (hiff h9).mpr h20]]
      refine Tr.aload_n (i := 1) dX10_comes_82 rfl rfl (Eq.refl 83) ?_
      refine Tr.iconst (v := nI 0) dX10_comes_83 (icN 0) (Eq.refl 84) ?_
      refine Tr.iload_n (i := 2) dX10_comes_84 rfl rfl (Eq.refl 85) ?_
      refine Tr.iaddN dX10_comes_85 (Eq.refl 86) ?_
      refine Tr.iload_n (i := 3) dX10_comes_86 rfl rfl (Eq.refl 87) ?_
      refine Tr.iastN dX10_comes_87 rfl (by omega) (by decide) (Eq.refl 88) ?_
      refine Tr.pic (w' := (mqC E ad r i V o W B (rwF (psS S, upN (whS S) p (W p), sdS S, ltS S, alS S, soS S, stS S) P L a))) (by unfold mqC; rw [← wr_wh (show p < 5 by omega)]; rfl) ?_
      refine Tr.ret dX10_comes_88 rfl rfl ?_
      · rfl
    · rw [cl_eq (by omega)] at h20
      refine Tr.aload_n (i := 0) dX10_comes_23 rfl rfl (Eq.refl 24) ?_
      refine Tr.aload_n (i := 1) dX10_comes_24 rfl rfl (Eq.refl 25) ?_
      refine Tr.iload_n (i := 3) dX10_comes_25 rfl rfl (Eq.refl 26) ?_
      refine Tr.callVs (m_has E ad r i V o W B S P L a (W p) hV h9 hS) dX10_comes_26 (kX10_346 (Nat.le_of_ble_eq_true rfl)) iX10_has rfl rfl rfl rfl rfl (Nat.le_refl _) rfl rfl (Eq.refl 29) ?_
      refine Tr.istore dX10_comes_29 rfl rfl (Eq.refl 31) ?_
      refine Tr.aload_n (i := 0) dX10_comes_31 rfl rfl (Eq.refl 32) ?_
      refine Tr.aload_n (i := 1) dX10_comes_32 rfl rfl (Eq.refl 33) ?_
      refine Tr.iload_n (i := 3) dX10_comes_33 rfl rfl (Eq.refl 34) ?_
      refine Tr.callVs (m_guests E ad r i V o W B S P L a (W p) hV h9 hS) dX10_comes_34 (kX10_349 (Nat.le_of_ble_eq_true rfl)) iX10_guests rfl rfl rfl rfl rfl (Nat.le_refl _) rfl rfl (Eq.refl 37) ?_
      refine Tr.aload_n (i := 0) dX10_comes_37 rfl rfl (Eq.refl 38) ?_
      refine Tr.getf dX10_comes_38 fX10_228 rfl rfl (Eq.refl 41) ?_
      refine Tr.iconst (v := (-1)) dX10_comes_41 (by decide +kernel) (Eq.refl 42) ?_
      refine Tr.icmp_ne (tgt := 54) dX10_comes_42 (by decide) (Eq.refl 45) (fun h42 => ?_) (fun h42 => ?_)
      · rw [if_neg h42] at hr
        refine Tr.aload_n (i := 0) dX10_comes_54 rfl rfl (Eq.refl 55) ?_
        refine Tr.getf dX10_comes_55 fX10_228 rfl rfl (Eq.refl 58) ?_
        rw [← hr]
        refine Tr.icmp_geL (tgt := 81) dX10_comes_58 (by decide) (Eq.refl 61) (fun h58 => ?_) (fun h58 => ?_)
        · rw [show may (ovr V o) S L p (W p) = false from by rw [hm]; simp [h9, h20, h58]; exact fun z9 => absurd ((hiff h9).mp z9) h20]
          refine Tr.ret dX10_comes_81 rfl rfl ?_
          · rfl
        · skip
          refine Tr.iload dX10_comes_61 rfl (Eq.refl 63) ?_
          refine Tr.iconst (v := (-1)) dX10_comes_63 (by decide +kernel) (Eq.refl 64) ?_
          refine Tr.icmp_eq (tgt := 82) dX10_comes_64 (by decide) (Eq.refl 67) (fun h64 => ?_) (fun h64 => ?_)
          · have h64 : hav (ovr V o) S (W p) = 5 := by rw [cl_none] at h64; omega
            rw [show may (ovr V o) S L p (W p) = true from by rw [hm]; simp [h9, h58, h64]]
            refine Tr.aload_n (i := 1) dX10_comes_82 rfl rfl (Eq.refl 83) ?_
            refine Tr.iconst (v := nI 0) dX10_comes_83 (icN 0) (Eq.refl 84) ?_
            refine Tr.iload_n (i := 2) dX10_comes_84 rfl rfl (Eq.refl 85) ?_
            refine Tr.iaddN dX10_comes_85 (Eq.refl 86) ?_
            refine Tr.iload_n (i := 3) dX10_comes_86 rfl rfl (Eq.refl 87) ?_
            refine Tr.iastN dX10_comes_87 rfl (by omega) (by decide) (Eq.refl 88) ?_
            refine Tr.pic (w' := (mqC E ad r i V o W B (rwF (psS S, upN (whS S) p (W p), sdS S, ltS S, alS S, soS S, stS S) P L a))) (by unfold mqC; rw [← wr_wh (show p < 5 by omega)]; rfl) ?_
            refine Tr.ret dX10_comes_88 rfl rfl ?_
            · rfl
          · have h64 : hav (ovr V o) S (W p) < 5 := by rw [cl_none] at h64; omega
            have h64b : ¬ hav (ovr V o) S (W p) = 5 := by omega
            rw [cl_lt h64]
            refine Tr.aload_n (i := 1) dX10_comes_67 rfl rfl (Eq.refl 68) ?_
            refine Tr.bipush (v := nI 30) dX10_comes_68 (by decide +kernel) (Eq.refl 70) ?_
            refine Tr.iload dX10_comes_70 rfl (Eq.refl 72) ?_
            refine Tr.iaddN dX10_comes_72 (Eq.refl 73) ?_
            refine Tr.ialdN dX10_comes_73 rfl (by omega) (by decide) (Eq.refl 74) ?_
            refine Tr.top (rd_le (by omega)) ?_
            refine Tr.iload_n (i := 2) dX10_comes_74 rfl rfl (Eq.refl 75) ?_
            refine Tr.ishr dX10_comes_75 (Eq.refl 76) ?_
            refine Tr.iconst (v := nI 1) dX10_comes_76 (icN 1) (Eq.refl 77) ?_
            refine Tr.iand dX10_comes_77 (Eq.refl 78) ?_
            refine Tr.if_ne (tgt := 82) dX10_comes_78 (by decide) (Eq.refl 81) (fun h78 => ?_) (fun h78 => ?_)
            · rw [show may (ovr V o) S L p (W p) = true from by rw [hm]; have h78b := (bit01 _).resolve_left h78; simp [h9, h58, bt, h78b]]
              refine Tr.aload_n (i := 1) dX10_comes_82 rfl rfl (Eq.refl 83) ?_
              refine Tr.iconst (v := nI 0) dX10_comes_83 (icN 0) (Eq.refl 84) ?_
              refine Tr.iload_n (i := 2) dX10_comes_84 rfl rfl (Eq.refl 85) ?_
              refine Tr.iaddN dX10_comes_85 (Eq.refl 86) ?_
              refine Tr.iload_n (i := 3) dX10_comes_86 rfl rfl (Eq.refl 87) ?_
              refine Tr.iastN dX10_comes_87 rfl (by omega) (by decide) (Eq.refl 88) ?_
              refine Tr.pic (w' := (mqC E ad r i V o W B (rwF (psS S, upN (whS S) p (W p), sdS S, ltS S, alS S, soS S, stS S) P L a))) (by unfold mqC; rw [← wr_wh (show p < 5 by omega)]; rfl) ?_
              refine Tr.ret dX10_comes_88 rfl rfl ?_
              · rfl
            · rw [show may (ovr V o) S L p (W p) = false from by rw [hm]; simp [h9, h20, h58, h64b, bt, h78]; exact ⟨fun z9 => absurd ((hiff h9).mp z9) h20, by decide⟩]
              refine Tr.ret dX10_comes_81 rfl rfl ?_
              · rfl
      · rw [if_pos h42] at hr
        refine Tr.aload_n (i := 0) dX10_comes_45 rfl rfl (Eq.refl 46) ?_
        refine Tr.getf dX10_comes_46 fX10_197 rfl rfl (Eq.refl 49) ?_
        refine Tr.iconst (v := nI 0) dX10_comes_49 (icN 0) (Eq.refl 50) ?_
        refine Tr.ialdN dX10_comes_50 rfl (by omega) (by decide) (Eq.refl 51) ?_
        refine Tr.goto (pc' := 58) dX10_comes_51 (by decide) ?_
        rw [← hr]
        refine Tr.icmp_geL (tgt := 81) dX10_comes_58 (by decide) (Eq.refl 61) (fun h58 => ?_) (fun h58 => ?_)
        · rw [show may (ovr V o) S L p (W p) = false from by rw [hm]; simp [h9, h20, h58]; exact fun z9 => absurd ((hiff h9).mp z9) h20]
          refine Tr.ret dX10_comes_81 rfl rfl ?_
          · rfl
        · skip
          refine Tr.iload dX10_comes_61 rfl (Eq.refl 63) ?_
          refine Tr.iconst (v := (-1)) dX10_comes_63 (by decide +kernel) (Eq.refl 64) ?_
          refine Tr.icmp_eq (tgt := 82) dX10_comes_64 (by decide) (Eq.refl 67) (fun h64 => ?_) (fun h64 => ?_)
          · have h64 : hav (ovr V o) S (W p) = 5 := by rw [cl_none] at h64; omega
            rw [show may (ovr V o) S L p (W p) = true from by rw [hm]; simp [h9, h58, h64]]
            refine Tr.aload_n (i := 1) dX10_comes_82 rfl rfl (Eq.refl 83) ?_
            refine Tr.iconst (v := nI 0) dX10_comes_83 (icN 0) (Eq.refl 84) ?_
            refine Tr.iload_n (i := 2) dX10_comes_84 rfl rfl (Eq.refl 85) ?_
            refine Tr.iaddN dX10_comes_85 (Eq.refl 86) ?_
            refine Tr.iload_n (i := 3) dX10_comes_86 rfl rfl (Eq.refl 87) ?_
            refine Tr.iastN dX10_comes_87 rfl (by omega) (by decide) (Eq.refl 88) ?_
            refine Tr.pic (w' := (mqC E ad r i V o W B (rwF (psS S, upN (whS S) p (W p), sdS S, ltS S, alS S, soS S, stS S) P L a))) (by unfold mqC; rw [← wr_wh (show p < 5 by omega)]; rfl) ?_
            refine Tr.ret dX10_comes_88 rfl rfl ?_
            · rfl
          · have h64 : hav (ovr V o) S (W p) < 5 := by rw [cl_none] at h64; omega
            have h64b : ¬ hav (ovr V o) S (W p) = 5 := by omega
            rw [cl_lt h64]
            refine Tr.aload_n (i := 1) dX10_comes_67 rfl rfl (Eq.refl 68) ?_
            refine Tr.bipush (v := nI 30) dX10_comes_68 (by decide +kernel) (Eq.refl 70) ?_
            refine Tr.iload dX10_comes_70 rfl (Eq.refl 72) ?_
            refine Tr.iaddN dX10_comes_72 (Eq.refl 73) ?_
            refine Tr.ialdN dX10_comes_73 rfl (by omega) (by decide) (Eq.refl 74) ?_
            refine Tr.top (rd_le (by omega)) ?_
            refine Tr.iload_n (i := 2) dX10_comes_74 rfl rfl (Eq.refl 75) ?_
            refine Tr.ishr dX10_comes_75 (Eq.refl 76) ?_
            refine Tr.iconst (v := nI 1) dX10_comes_76 (icN 1) (Eq.refl 77) ?_
            refine Tr.iand dX10_comes_77 (Eq.refl 78) ?_
            refine Tr.if_ne (tgt := 82) dX10_comes_78 (by decide) (Eq.refl 81) (fun h78 => ?_) (fun h78 => ?_)
            · rw [show may (ovr V o) S L p (W p) = true from by rw [hm]; have h78b := (bit01 _).resolve_left h78; simp [h9, h58, bt, h78b]]
              refine Tr.aload_n (i := 1) dX10_comes_82 rfl rfl (Eq.refl 83) ?_
              refine Tr.iconst (v := nI 0) dX10_comes_83 (icN 0) (Eq.refl 84) ?_
              refine Tr.iload_n (i := 2) dX10_comes_84 rfl rfl (Eq.refl 85) ?_
              refine Tr.iaddN dX10_comes_85 (Eq.refl 86) ?_
              refine Tr.iload_n (i := 3) dX10_comes_86 rfl rfl (Eq.refl 87) ?_
              refine Tr.iastN dX10_comes_87 rfl (by omega) (by decide) (Eq.refl 88) ?_
              refine Tr.pic (w' := (mqC E ad r i V o W B (rwF (psS S, upN (whS S) p (W p), sdS S, ltS S, alS S, soS S, stS S) P L a))) (by unfold mqC; rw [← wr_wh (show p < 5 by omega)]; rfl) ?_
              refine Tr.ret dX10_comes_88 rfl rfl ?_
              · rfl
            · rw [show may (ovr V o) S L p (W p) = false from by rw [hm]; simp [h9, h20, h58, h64b, bt, h78]; exact ⟨fun z9 => absurd ((hiff h9).mp z9) h20, by decide⟩]
              refine Tr.ret dX10_comes_81 rfl rfl ?_
              · rfl
  · rw [show may (ovr V o) S L p (W p) = false from by rw [hm]; simp [show ¬ W p < nhV V by omega]]
    refine Tr.ret dX10_comes_12 rfl rfl ?_
    · rfl
set_option maxHeartbeats 4000000 in
set_option maxRecDepth 100000 in
theorem m_tiesOf (E : EnvT) (ad r : Nat → Nat) (i : Nat → Int32) (V : Vil) (o : Ovr) (W : Nat → Nat) (B : Nat → Int32) (S : Scn) (P : Nat → Nat) (L : Nat → Int32) (a : Nat) (p : Nat) (hV : Vok V) (hp : p < npV V) (hS : Sle V S) : Md E mX10_tiesOf ad [.ref (ad 0), .ref (ad 9), .int (nI p)] (mqC E ad r i V o W B (rwF S P L a)) (some (.int (tsG V S p))) (mqC E ad r i V o W B (rwF S P L a)) := by
  have v2 := hV.2.1
  have hw := hS p hp
  have hx : tsG V S p = if whS S p = 5 then nI 0 else tsF V S p (npV V) := rfl
  rw [hx]
  clear hx
  by_cases h5 : whS S p = 5
  · rw [if_pos h5]
    refine Md.of 2 (by decide) rfl rfl ?_
    refine Tr.iconst (v := nI 0) dX10_tiesOf_0 (icN 0) (Eq.refl 1) ?_
    refine Tr.istore_n (i := 3) dX10_tiesOf_1 rfl rfl rfl (Eq.refl 2) ?_
    refine Tr.iconst (v := nI 0) dX10_tiesOf_2 (icN 0) (Eq.refl 3) ?_
    refine Tr.istore dX10_tiesOf_3 rfl rfl (Eq.refl 5) ?_
    refine Tr.iload dX10_tiesOf_5 rfl (Eq.refl 7) ?_
    refine Tr.aload_n (i := 0) dX10_tiesOf_7 rfl rfl (Eq.refl 8) ?_
    refine Tr.getf dX10_tiesOf_8 fX10_285 rfl rfl (Eq.refl 11) ?_
    refine Tr.icmp_geN (tgt := 67) dX10_tiesOf_11 (by decide) (Eq.refl 14) (by omega) (by omega) (fun h11 => ?_) (fun h11 => ?_)
    · exact absurd h11 (by omega)
    · refine Tr.aload_n (i := 1) dX10_tiesOf_14 rfl rfl (Eq.refl 15) ?_
      refine Tr.iconst (v := nI 0) dX10_tiesOf_15 (icN 0) (Eq.refl 16) ?_
      refine Tr.iload_n (i := 2) dX10_tiesOf_16 rfl rfl (Eq.refl 17) ?_
      refine Tr.iaddN dX10_tiesOf_17 (Eq.refl 18) ?_
      refine Tr.ialdN dX10_tiesOf_18 rfl (by omega) (by decide) (Eq.refl 19) ?_
      refine Tr.top (rd_wh (by omega)) ?_
      refine Tr.iconst (v := nI 5) dX10_tiesOf_19 (icN 5) (Eq.refl 20) ?_
      refine Tr.icmp_eqN (tgt := 67) dX10_tiesOf_20 (by decide) (Eq.refl 23) (by omega) (by omega) (fun h20 => ?_) (fun h20 => ?_)
      · refine Tr.iload_n (i := 3) dX10_tiesOf_67 rfl rfl (Eq.refl 68) ?_
        refine Tr.iret dX10_tiesOf_68 rfl (by first | rfl | exact bI_nar _) ?_ ?_
        · rfl
        · rfl
      · exact absurd h5 h20
  · rw [if_neg h5]
    refine Md.of 2 (by decide) rfl rfl ?_
    refine Tr.iconst (v := nI 0) dX10_tiesOf_0 (icN 0) (Eq.refl 1) ?_
    refine Tr.istore_n (i := 3) dX10_tiesOf_1 rfl rfl rfl (Eq.refl 2) ?_
    refine Tr.iconst (v := nI 0) dX10_tiesOf_2 (icN 0) (Eq.refl 3) ?_
    refine Tr.istore dX10_tiesOf_3 rfl rfl (Eq.refl 5) ?_
    refine Tr.mask [true, true, true, true, true] (lv' := [some (.ref (ad 0)), some (.ref (ad 9)), some (.int (nI p)), some (.int (tsF V S p 0)), some (.int (nI 0))]) rfl ?_
    refine loopD (P := fun j => Tr _ 0 0 5 [some (.ref (ad 0)), some (.ref (ad 9)), some (.int (nI p)), some (.int (tsF V S p j)), some (.int (nI j))] [] _) (npV V) ?_ (fun j hj ih => ?_)
    · refine Tr.iload dX10_tiesOf_5 rfl (Eq.refl 7) ?_
      refine Tr.aload_n (i := 0) dX10_tiesOf_7 rfl rfl (Eq.refl 8) ?_
      refine Tr.getf dX10_tiesOf_8 fX10_285 rfl rfl (Eq.refl 11) ?_
      refine Tr.icmp_geN (tgt := 67) dX10_tiesOf_11 (by decide) (Eq.refl 14) (by omega) (by omega) (fun h11 => ?_) (fun h11 => ?_)
      · refine Tr.iload_n (i := 3) dX10_tiesOf_67 rfl rfl (Eq.refl 68) ?_
        refine Tr.iret dX10_tiesOf_68 rfl (by first | rfl | exact bI_nar _) ?_ ?_
        · rfl
        · rfl
      · exact absurd h11 (by omega)
    · have hwj := hS j hj
      have hu : tsF V S p (j + 1) = if (!decide (j = p)) && decide (whS S j = whS S p) then tsF V S p j + tiV V (p * 5 + j) else tsF V S p j := rfl
      rw [hu] at ih
      clear hu
      refine Tr.iload dX10_tiesOf_5 rfl (Eq.refl 7) ?_
      refine Tr.aload_n (i := 0) dX10_tiesOf_7 rfl rfl (Eq.refl 8) ?_
      refine Tr.getf dX10_tiesOf_8 fX10_285 rfl rfl (Eq.refl 11) ?_
      refine Tr.icmp_geN (tgt := 67) dX10_tiesOf_11 (by decide) (Eq.refl 14) (by omega) (by omega) (fun h11 => ?_) (fun h11 => ?_)
      · exact absurd h11 (by omega)
      · refine Tr.aload_n (i := 1) dX10_tiesOf_14 rfl rfl (Eq.refl 15) ?_
        refine Tr.iconst (v := nI 0) dX10_tiesOf_15 (icN 0) (Eq.refl 16) ?_
        refine Tr.iload_n (i := 2) dX10_tiesOf_16 rfl rfl (Eq.refl 17) ?_
        refine Tr.iaddN dX10_tiesOf_17 (Eq.refl 18) ?_
        refine Tr.ialdN dX10_tiesOf_18 rfl (by omega) (by decide) (Eq.refl 19) ?_
        refine Tr.top (rd_wh (by omega)) ?_
        refine Tr.iconst (v := nI 5) dX10_tiesOf_19 (icN 5) (Eq.refl 20) ?_
        refine Tr.icmp_eqN (tgt := 67) dX10_tiesOf_20 (by decide) (Eq.refl 23) (by omega) (by omega) (fun h20 => ?_) (fun h20 => ?_)
        · exact absurd h20 h5
        · refine Tr.iload_n (i := 3) dX10_tiesOf_23 rfl rfl (Eq.refl 24) ?_
          refine Tr.iload dX10_tiesOf_24 rfl (Eq.refl 26) ?_
          refine Tr.iload_n (i := 2) dX10_tiesOf_26 rfl rfl (Eq.refl 27) ?_
          refine Tr.icmp_eqN (tgt := 58) dX10_tiesOf_27 (by decide) (Eq.refl 30) (by omega) (by omega) (fun h27 => ?_) (fun h27 => ?_)
          · rw [if_neg (by simp [h27])] at ih
            refine Tr.iconst (v := nI 0) dX10_tiesOf_58 (icN 0) (Eq.refl 59) ?_
            refine Tr.iadd dX10_tiesOf_59 (Eq.refl 60) ?_
            refine Tr.istore_n (i := 3) dX10_tiesOf_60 rfl rfl rfl (Eq.refl 61) ?_
            refine Tr.iincN dX10_tiesOf_61 rfl rfl rfl (Eq.refl 64) ?_
            refine Tr.goto (pc' := 5) dX10_tiesOf_64 (by decide) ?_
            first | exact Tr.eqs rfl rfl rfl ih | exact Tr.eqs (by rw [nI_0, Int32.add_zero]; rfl) rfl rfl ih
          · refine Tr.aload_n (i := 1) dX10_tiesOf_30 rfl rfl (Eq.refl 31) ?_
            refine Tr.iconst (v := nI 0) dX10_tiesOf_31 (icN 0) (Eq.refl 32) ?_
            refine Tr.iload dX10_tiesOf_32 rfl (Eq.refl 34) ?_
            refine Tr.iaddN dX10_tiesOf_34 (Eq.refl 35) ?_
            refine Tr.ialdN dX10_tiesOf_35 rfl (by omega) (by decide) (Eq.refl 36) ?_
            refine Tr.top (rd_wh (by omega)) ?_
            refine Tr.aload_n (i := 1) dX10_tiesOf_36 rfl rfl (Eq.refl 37) ?_
            refine Tr.iconst (v := nI 0) dX10_tiesOf_37 (icN 0) (Eq.refl 38) ?_
            refine Tr.iload_n (i := 2) dX10_tiesOf_38 rfl rfl (Eq.refl 39) ?_
            refine Tr.iaddN dX10_tiesOf_39 (Eq.refl 40) ?_
            refine Tr.ialdN dX10_tiesOf_40 rfl (by omega) (by decide) (Eq.refl 41) ?_
            refine Tr.top (rd_wh (by omega)) ?_
            refine Tr.icmp_neN (tgt := 58) dX10_tiesOf_41 (by decide) (Eq.refl 44) (by omega) (by omega) (fun h41 => ?_) (fun h41 => ?_)
            · rw [if_neg (by simp [h41])] at ih
              refine Tr.iconst (v := nI 0) dX10_tiesOf_58 (icN 0) (Eq.refl 59) ?_
              refine Tr.iadd dX10_tiesOf_59 (Eq.refl 60) ?_
              refine Tr.istore_n (i := 3) dX10_tiesOf_60 rfl rfl rfl (Eq.refl 61) ?_
              refine Tr.iincN dX10_tiesOf_61 rfl rfl rfl (Eq.refl 64) ?_
              refine Tr.goto (pc' := 5) dX10_tiesOf_64 (by decide) ?_
              first | exact Tr.eqs rfl rfl rfl ih | exact Tr.eqs (by rw [nI_0, Int32.add_zero]; rfl) rfl rfl ih
            · rw [if_pos (by simp [h27, h41])] at ih
              refine Tr.aload_n (i := 0) dX10_tiesOf_44 rfl rfl (Eq.refl 45) ?_
              refine Tr.getf dX10_tiesOf_45 fX10_217 rfl rfl (Eq.refl 48) ?_
              refine Tr.iconst (v := nI 5) dX10_tiesOf_48 (icN 5) (Eq.refl 49) ?_
              refine Tr.iload_n (i := 2) dX10_tiesOf_49 rfl rfl (Eq.refl 50) ?_
              refine Tr.imulN dX10_tiesOf_50 (Eq.refl 51) ?_
              refine Tr.iload dX10_tiesOf_51 rfl (Eq.refl 53) ?_
              refine Tr.iaddN dX10_tiesOf_53 (Eq.refl 54) ?_
              refine Tr.ialdN dX10_tiesOf_54 rfl (by omega) (by decide) (Eq.refl 55) ?_
              refine Tr.top (y := tiV V (p * 5 + j)) (by rw [Nat.mul_comm]) ?_
              refine Tr.goto (pc' := 59) dX10_tiesOf_55 (by decide) ?_
              refine Tr.iadd dX10_tiesOf_59 (Eq.refl 60) ?_
              refine Tr.istore_n (i := 3) dX10_tiesOf_60 rfl rfl rfl (Eq.refl 61) ?_
              refine Tr.iincN dX10_tiesOf_61 rfl rfl rfl (Eq.refl 64) ?_
              refine Tr.goto (pc' := 5) dX10_tiesOf_64 (by decide) ?_
              first | exact Tr.eqs rfl rfl rfl ih | exact Tr.eqs (by rw [nI_0, Int32.add_zero]; rfl) rfl rfl ih
/-- who leaves, as truths -/
def lbF (W : Nat → Nat) (S : Scn) (B : Nat → Int32) : Nat → Nat → Int32
  | 0 => B
  | p + 1 => upd (lbF W S B p) p (bI (!decide (whS S p = W p)))
theorem lbF_at (W : Nat → Nat) (S : Scn) (B : Nat → Int32) : ∀ n p, p < n → lbF W S B n p = bI (!decide (whS S p = W p)) := by
  intro n
  induction n with
  | zero => intro p hp; omega
  | succ n ih =>
    intro p hp
    show upd (lbF W S B n) n _ p = _
    by_cases e : p = n
    · rw [e, upd_self]
    · rw [upd_ne _ _ e]; exact ih p (by omega)
theorem lvF_wh' {W : Nat → Nat} {S : Scn} {n : Nat} : whS (lvF W S n) n = whS S n := by rw [lvF_wh, if_neg (Nat.lt_irrefl n)]
theorem cmF_cm (V : Vil) (L : Nat → Int32) (W : Nat → Nat) (S : Scn) (p : Nat) : cmF V L W S (p + 1) = if (!decide (whS S p = W p)) then cmS V L W (cmF V L W S p) p else cmF V L W S p := by
  show cmStep V L W S (cmF V L W S p) p = _
  unfold cmStep cmS
  by_cases h : whS S p = W p
  · simp [h]
  · simp [h]
set_option maxHeartbeats 4000000 in
set_option maxRecDepth 100000 in
theorem m_goQuarter (E : EnvT) (ad r : Nat → Nat) (i : Nat → Int32) (V : Vil) (o : Ovr) (W : Nat → Nat) (B : Nat → Int32) (S : Scn) (P : Nat → Nat) (L : Nat → Int32) (a : Nat) (hV : Vok V) (hS : Sle V S) (hW : Wok V W) (ht : psS S < 2 ^ 30) : Md E mX10_goQuarter ad [.ref (ad 0), .ref (ad 9)] (mqC E ad r i V o W B (rwF S P L a)) none (mqC E ad r i V o W (lbF W S B (npV V)) (rwF (gon (ovr V o) L W S) P L a)) := by
  have v1 := hV.1
  have v2 := hV.2.1
  have hWl : Wle V W := hW.le hV
  have hb := lbF_at W S B (npV V)
  have hps := gon_ps (ovr V o) L W S
  have hgo : gon (ovr V o) L W S = (psS (alF (usF (ovr V o) (ltF (ovr V o) (cmF (ovr V o) L W S (npV V)) (npV V)) (nhV V)) (npV V)) + 1, whS (alF (usF (ovr V o) (ltF (ovr V o) (cmF (ovr V o) L W S (npV V)) (npV V)) (nhV V)) (npV V)), sdS (alF (usF (ovr V o) (ltF (ovr V o) (cmF (ovr V o) L W S (npV V)) (npV V)) (nhV V)) (npV V)), ltS (alF (usF (ovr V o) (ltF (ovr V o) (cmF (ovr V o) L W S (npV V)) (npV V)) (nhV V)) (npV V)), alS (alF (usF (ovr V o) (ltF (ovr V o) (cmF (ovr V o) L W S (npV V)) (npV V)) (nhV V)) (npV V)), soS (alF (usF (ovr V o) (ltF (ovr V o) (cmF (ovr V o) L W S (npV V)) (npV V)) (nhV V)) (npV V)), stS (alF (usF (ovr V o) (ltF (ovr V o) (cmF (ovr V o) L W S (npV V)) (npV V)) (nhV V)) (npV V))) := rfl
  rw [hgo] at hps ⊢
  have hps : psS (alF (usF (ovr V o) (ltF (ovr V o) (cmF (ovr V o) L W S (npV V)) (npV V)) (nhV V)) (npV V)) + 1 = psS S + 1 := hps
  clear hgo
  refine Md.of 3 (by decide) rfl rfl ?_
  refine Tr.iconst (v := nI 0) dX10_goQuarter_0 (icN 0) (Eq.refl 1) ?_
  refine Tr.istore_n (i := 2) dX10_goQuarter_1 rfl rfl rfl (Eq.refl 2) ?_
  refine Tr.mask [true, true, true, true, true] (lv' := [some (.ref (ad 0)), some (.ref (ad 9)), some (.int (nI 0)), none, none]) rfl ?_
  refine Tr.pic (w' := (mqC E ad r i V o W (lbF W S B 0) (rwF (lvF W S 0) P L a))) rfl ?_
  refine loopD (P := fun j => Tr _ 0 0 2 [some (.ref (ad 0)), some (.ref (ad 9)), some (.int (nI j)), none, none] [] (mqC E ad r i V o W (lbF W S B j) (rwF (lvF W S j) P L a))) (npV V) ?_ (fun j hj ih => ?_)
  · refine Tr.iload_n (i := 2) dX10_goQuarter_2 rfl rfl (Eq.refl 3) ?_
    refine Tr.aload_n (i := 0) dX10_goQuarter_3 rfl rfl (Eq.refl 4) ?_
    refine Tr.getf dX10_goQuarter_4 fX10_285 rfl rfl (Eq.refl 7) ?_
    refine Tr.icmp_geN (tgt := 83) dX10_goQuarter_7 (by decide) (Eq.refl 10) (by omega) (by omega) (fun h7 => ?_) (fun h7 => ?_)
    · refine Tr.iconst (v := nI 0) dX10_goQuarter_83 (icN 0) (Eq.refl 84) ?_
      refine Tr.istore_n (i := 2) dX10_goQuarter_84 rfl rfl rfl (Eq.refl 85) ?_
      skip
      refine Tr.mask [true, true, true, false, false] (lv' := [some (.ref (ad 0)), some (.ref (ad 9)), some (.int (nI 0)), none, none]) rfl ?_
      refine Tr.pic (w' := (mqC E ad r i V o W (lbF W S B (npV V)) (rwF (cmF (ovr V o) L W S 0) P L a))) rfl ?_
      refine loopD (P := fun j => Tr _ 0 0 85 [some (.ref (ad 0)), some (.ref (ad 9)), some (.int (nI j)), none, none] [] (mqC E ad r i V o W (lbF W S B (npV V)) (rwF (cmF (ovr V o) L W S j) P L a))) (npV V) ?_ (fun j hj ih => ?_)
      · refine Tr.iload_n (i := 2) dX10_goQuarter_85 rfl rfl (Eq.refl 86) ?_
        refine Tr.aload_n (i := 0) dX10_goQuarter_86 rfl rfl (Eq.refl 87) ?_
        refine Tr.getf dX10_goQuarter_87 fX10_285 rfl rfl (Eq.refl 90) ?_
        refine Tr.icmp_geN (tgt := 114) dX10_goQuarter_90 (by decide) (Eq.refl 93) (by omega) (by omega) (fun h90 => ?_) (fun h90 => ?_)
        · refine Tr.iconst (v := nI 0) dX10_goQuarter_114 (icN 0) (Eq.refl 115) ?_
          refine Tr.istore_n (i := 2) dX10_goQuarter_115 rfl rfl rfl (Eq.refl 116) ?_
          skip
          refine Tr.mask [true, true, true, false, false] (lv' := [some (.ref (ad 0)), some (.ref (ad 9)), some (.int (nI 0)), none, none]) rfl ?_
          refine Tr.pic (w' := (mqC E ad r i V o W (lbF W S B (npV V)) (rwF (ltF (ovr V o) (cmF (ovr V o) L W S (npV V)) 0) P L a))) rfl ?_
          refine loopD (P := fun j => Tr _ 0 0 116 [some (.ref (ad 0)), some (.ref (ad 9)), some (.int (nI j)), none, none] [] (mqC E ad r i V o W (lbF W S B (npV V)) (rwF (ltF (ovr V o) (cmF (ovr V o) L W S (npV V)) j) P L a))) (npV V) ?_ (fun j hj ih => ?_)
          · refine Tr.iload_n (i := 2) dX10_goQuarter_116 rfl rfl (Eq.refl 117) ?_
            refine Tr.aload_n (i := 0) dX10_goQuarter_117 rfl rfl (Eq.refl 118) ?_
            refine Tr.getf dX10_goQuarter_118 fX10_285 rfl rfl (Eq.refl 121) ?_
            refine Tr.icmp_geN (tgt := 142) dX10_goQuarter_121 (by decide) (Eq.refl 124) (by omega) (by omega) (fun h121 => ?_) (fun h121 => ?_)
            · refine Tr.iconst (v := nI 0) dX10_goQuarter_142 (icN 0) (Eq.refl 143) ?_
              refine Tr.istore_n (i := 2) dX10_goQuarter_143 rfl rfl rfl (Eq.refl 144) ?_
              skip
              refine Tr.mask [true, true, true, false, false] (lv' := [some (.ref (ad 0)), some (.ref (ad 9)), some (.int (nI 0)), none, none]) rfl ?_
              refine Tr.pic (w' := (mqC E ad r i V o W (lbF W S B (npV V)) (rwF (usF (ovr V o) (ltF (ovr V o) (cmF (ovr V o) L W S (npV V)) (npV V)) 0) P L a))) rfl ?_
              refine loopD (P := fun j => Tr _ 0 0 144 [some (.ref (ad 0)), some (.ref (ad 9)), some (.int (nI j)), none, none] [] (mqC E ad r i V o W (lbF W S B (npV V)) (rwF (usF (ovr V o) (ltF (ovr V o) (cmF (ovr V o) L W S (npV V)) (npV V)) j) P L a))) (nhV V) ?_ (fun j hj ih => ?_)
              · refine Tr.iload_n (i := 2) dX10_goQuarter_144 rfl rfl (Eq.refl 145) ?_
                refine Tr.aload_n (i := 0) dX10_goQuarter_145 rfl rfl (Eq.refl 146) ?_
                refine Tr.getf dX10_goQuarter_146 fX10_282 rfl rfl (Eq.refl 149) ?_
                refine Tr.icmp_geN (tgt := 282) dX10_goQuarter_149 (by decide) (Eq.refl 152) (by omega) (by omega) (fun h149 => ?_) (fun h149 => ?_)
                · refine Tr.iconst (v := nI 0) dX10_goQuarter_282 (icN 0) (Eq.refl 283) ?_
                  refine Tr.istore_n (i := 2) dX10_goQuarter_283 rfl rfl rfl (Eq.refl 284) ?_
                  skip
                  refine Tr.mask [true, true, true, false, false] (lv' := [some (.ref (ad 0)), some (.ref (ad 9)), some (.int (nI 0)), none, none]) rfl ?_
                  refine Tr.pic (w' := (mqC E ad r i V o W (lbF W S B (npV V)) (rwF (alF (usF (ovr V o) (ltF (ovr V o) (cmF (ovr V o) L W S (npV V)) (npV V)) (nhV V)) 0) P L a))) rfl ?_
                  generalize (usF (ovr V o) (ltF (ovr V o) (cmF (ovr V o) L W S (npV V)) (npV V)) (nhV V)) = U at *
                  refine loopD (P := fun j => Tr _ 0 0 284 [some (.ref (ad 0)), some (.ref (ad 9)), some (.int (nI j)), none, none] [] (mqC E ad r i V o W (lbF W S B (npV V)) (rwF (alF U j) P L a))) (npV V) ?_ (fun j hj ih => ?_)
                  · generalize alF U (npV V) = T at *
                    refine Tr.iload_n (i := 2) dX10_goQuarter_284 rfl rfl (Eq.refl 285) ?_
                    refine Tr.aload_n (i := 0) dX10_goQuarter_285 rfl rfl (Eq.refl 286) ?_
                    refine Tr.getf dX10_goQuarter_286 fX10_285 rfl rfl (Eq.refl 289) ?_
                    refine Tr.icmp_geN (tgt := 313) dX10_goQuarter_289 (by decide) (Eq.refl 292) (by omega) (by omega) (fun h289 => ?_) (fun h289 => ?_)
                    · refine Tr.aload_n (i := 1) dX10_goQuarter_313 rfl rfl (Eq.refl 314) ?_
                      refine Tr.bipush (v := nI 55) dX10_goQuarter_314 (by decide +kernel) (Eq.refl 316) ?_
                      refine Tr.dup2 dX10_goQuarter_316 rfl rfl (Eq.refl 317) ?_
                      refine Tr.ialdN dX10_goQuarter_317 rfl (by omega) (by decide) (Eq.refl 318) ?_
                      refine Tr.top (rd_ps) ?_
                      refine Tr.iconst (v := nI 1) dX10_goQuarter_318 (icN 1) (Eq.refl 319) ?_
                      refine Tr.iaddN dX10_goQuarter_319 (Eq.refl 320) ?_
                      refine Tr.iastN dX10_goQuarter_320 rfl (by omega) (by decide) (Eq.refl 321) ?_
                      refine Tr.pic (w' := (mqC E ad r i V o W (lbF W S B (npV V)) (rwF (psS T + 1, whS T, sdS T, ltS T, alS T, soS T, stS T) P L a))) (by unfold mqC; rw [← wr_ps (S := T)]; rfl) ?_
                      refine Tr.ret dX10_goQuarter_321 rfl rfl ?_
                      · rfl
                    · exact absurd h289 (by omega)
                  · have hu : alF U (j + 1) = (psS (alF U j), whS (alF U j), sdS (alF U j), ltS (alF U j), upd (alS (alF U j)) j (alS (alF U j) j + ltS (alF U j) j), soS (alF U j), stS (alF U j)) := rfl
                    rw [hu] at ih
                    clear hu hps
                    generalize alF U j = T at *
                    refine Tr.iload_n (i := 2) dX10_goQuarter_284 rfl rfl (Eq.refl 285) ?_
                    refine Tr.aload_n (i := 0) dX10_goQuarter_285 rfl rfl (Eq.refl 286) ?_
                    refine Tr.getf dX10_goQuarter_286 fX10_285 rfl rfl (Eq.refl 289) ?_
                    refine Tr.icmp_geN (tgt := 313) dX10_goQuarter_289 (by decide) (Eq.refl 292) (by omega) (by omega) (fun h289 => ?_) (fun h289 => ?_)
                    · exact absurd h289 (by omega)
                    · refine Tr.aload_n (i := 1) dX10_goQuarter_292 rfl rfl (Eq.refl 293) ?_
                      refine Tr.bipush (v := nI 15) dX10_goQuarter_293 (by decide +kernel) (Eq.refl 295) ?_
                      refine Tr.iload_n (i := 2) dX10_goQuarter_295 rfl rfl (Eq.refl 296) ?_
                      refine Tr.iaddN dX10_goQuarter_296 (Eq.refl 297) ?_
                      refine Tr.dup2 dX10_goQuarter_297 rfl rfl (Eq.refl 298) ?_
                      refine Tr.ialdN dX10_goQuarter_298 rfl (by omega) (by decide) (Eq.refl 299) ?_
                      refine Tr.top (rd_al (by omega)) ?_
                      refine Tr.aload_n (i := 1) dX10_goQuarter_299 rfl rfl (Eq.refl 300) ?_
                      refine Tr.bipush (v := nI 10) dX10_goQuarter_300 (by decide +kernel) (Eq.refl 302) ?_
                      refine Tr.iload_n (i := 2) dX10_goQuarter_302 rfl rfl (Eq.refl 303) ?_
                      refine Tr.iaddN dX10_goQuarter_303 (Eq.refl 304) ?_
                      refine Tr.ialdN dX10_goQuarter_304 rfl (by omega) (by decide) (Eq.refl 305) ?_
                      refine Tr.top (rd_lt (by omega)) ?_
                      refine Tr.iadd dX10_goQuarter_305 (Eq.refl 306) ?_
                      refine Tr.iastN dX10_goQuarter_306 rfl (by omega) (by decide) (Eq.refl 307) ?_
                      refine Tr.iincN dX10_goQuarter_307 rfl rfl rfl (Eq.refl 310) ?_
                      refine Tr.goto (pc' := 284) dX10_goQuarter_310 (by decide) ?_
                      exact Tr.eqs rfl rfl (by unfold mqC; rw [← wr_al (show j < 5 by omega)]; rfl) ih
                · exact absurd h149 (by omega)
              · have hSl : Sle V (usF (ovr V o) (ltF (ovr V o) (cmF (ovr V o) L W S (npV V)) (npV V)) j) := by intro p hp; rw [usF_wh, ltF_wh]; exact cmF_le (V := ovr V o) hS hWl _ p hp
                have hu : usF (ovr V o) (ltF (ovr V o) (cmF (ovr V o) L W S (npV V)) (npV V)) (j + 1) = usStep (ovr V o) (usF (ovr V o) (ltF (ovr V o) (cmF (ovr V o) L W S (npV V)) (npV V)) j) j := rfl
                rw [hu] at ih
                clear hu hps
                generalize usF (ovr V o) (ltF (ovr V o) (cmF (ovr V o) L W S (npV V)) (npV V)) j = T at *
                have hvl := hav_lt (ovr_ok o hV) T (h := j) hj
                have en : npV (ovr V o) = npV V := rfl
                rw [en] at hvl
                have hu : usStep (ovr V o) T j = if hav (ovr V o) T j = 5 then T else (psS T, whS T, sdS T, upd (ltS T) (hav (ovr V o) T j) (ltS T (hav (ovr V o) T j) + (woV (ovr V o) j * stS T j / nI 100 + mnI (ruV V 4) (soS T j))), alS T, upd (soS T) j (soS T j - mnI (ruV V 4) (soS T j)), upd (stS T) j (if hav (ovr V o) T j = owV V j then mnI (nI 100) (stS T j + ruV V 3) else mxI (nI 0) (stS T j - ruV V 2))) := rfl
                rw [hu] at ih
                clear hu
                refine Tr.iload_n (i := 2) dX10_goQuarter_144 rfl rfl (Eq.refl 145) ?_
                refine Tr.aload_n (i := 0) dX10_goQuarter_145 rfl rfl (Eq.refl 146) ?_
                refine Tr.getf dX10_goQuarter_146 fX10_282 rfl rfl (Eq.refl 149) ?_
                refine Tr.icmp_geN (tgt := 282) dX10_goQuarter_149 (by decide) (Eq.refl 152) (by omega) (by omega) (fun h149 => ?_) (fun h149 => ?_)
                · exact absurd h149 (by omega)
                · refine Tr.aload_n (i := 0) dX10_goQuarter_152 rfl rfl (Eq.refl 153) ?_
                  refine Tr.aload_n (i := 1) dX10_goQuarter_153 rfl rfl (Eq.refl 154) ?_
                  refine Tr.iload_n (i := 2) dX10_goQuarter_154 rfl rfl (Eq.refl 155) ?_
                  refine Tr.callVs (m_has E ad r i V o W (lbF W S B (npV V)) T P L a j hV hj hSl) dX10_goQuarter_155 (kX10_346 (Nat.le_of_ble_eq_true rfl)) iX10_has rfl rfl rfl rfl rfl (Nat.le_refl _) rfl rfl (Eq.refl 158) ?_
                  refine Tr.istore_n (i := 3) dX10_goQuarter_158 rfl rfl rfl (Eq.refl 159) ?_
                  refine Tr.iload_n (i := 3) dX10_goQuarter_159 rfl rfl (Eq.refl 160) ?_
                  refine Tr.iconst (v := (-1)) dX10_goQuarter_160 (by decide +kernel) (Eq.refl 161) ?_
                  refine Tr.icmp_ne (tgt := 167) dX10_goQuarter_161 (by decide) (Eq.refl 164) (fun h161 => ?_) (fun h161 => ?_)
                  · have h161 : hav (ovr V o) T j < 5 := by rw [cl_none] at h161; omega
                    rw [if_neg (by omega)] at ih
                    rw [cl_lt h161]
                    refine Tr.aload_n (i := 0) dX10_goQuarter_167 rfl rfl (Eq.refl 168) ?_
                    refine Tr.getf dX10_goQuarter_168 fX10_197 rfl rfl (Eq.refl 171) ?_
                    refine Tr.iconst (v := nI 4) dX10_goQuarter_171 (icN 4) (Eq.refl 172) ?_
                    refine Tr.ialdN dX10_goQuarter_172 rfl (by omega) (by decide) (Eq.refl 173) ?_
                    refine Tr.aload_n (i := 1) dX10_goQuarter_173 rfl rfl (Eq.refl 174) ?_
                    refine Tr.bipush (v := nI 20) dX10_goQuarter_174 (by decide +kernel) (Eq.refl 176) ?_
                    refine Tr.iload_n (i := 2) dX10_goQuarter_176 rfl rfl (Eq.refl 177) ?_
                    refine Tr.iaddN dX10_goQuarter_177 (Eq.refl 178) ?_
                    refine Tr.ialdN dX10_goQuarter_178 rfl (by omega) (by decide) (Eq.refl 179) ?_
                    refine Tr.top (rd_so (by omega)) ?_
                    refine Tr.mmin dX10_goQuarter_179 (kX10_359 (Nat.le_refl _)).1 rfl rfl (Eq.refl 182) ?_
                    refine Tr.istore dX10_goQuarter_182 rfl rfl (Eq.refl 184) ?_
                    refine Tr.aload_n (i := 1) dX10_goQuarter_184 rfl rfl (Eq.refl 185) ?_
                    refine Tr.bipush (v := nI 10) dX10_goQuarter_185 (by decide +kernel) (Eq.refl 187) ?_
                    refine Tr.iload_n (i := 3) dX10_goQuarter_187 rfl rfl (Eq.refl 188) ?_
                    refine Tr.iaddN dX10_goQuarter_188 (Eq.refl 189) ?_
                    refine Tr.dup2 dX10_goQuarter_189 rfl rfl (Eq.refl 190) ?_
                    refine Tr.ialdN dX10_goQuarter_190 rfl (by omega) (by decide) (Eq.refl 191) ?_
                    refine Tr.top (rd_lt (h161)) ?_
                    refine Tr.aload_n (i := 0) dX10_goQuarter_191 rfl rfl (Eq.refl 192) ?_
                    refine Tr.iload_n (i := 2) dX10_goQuarter_192 rfl rfl (Eq.refl 193) ?_
                    refine Tr.callVs (m_worthAt E ad r i V o W (lbF W S B (npV V)) _ j (by omega)) dX10_goQuarter_193 (kX10_365 (Nat.le_of_ble_eq_true rfl)) iX10_worthAt rfl rfl rfl rfl rfl (Nat.le_refl _) rfl rfl (Eq.refl 196) ?_
                    refine Tr.aload_n (i := 1) dX10_goQuarter_196 rfl rfl (Eq.refl 197) ?_
                    refine Tr.bipush (v := nI 25) dX10_goQuarter_197 (by decide +kernel) (Eq.refl 199) ?_
                    refine Tr.iload_n (i := 2) dX10_goQuarter_199 rfl rfl (Eq.refl 200) ?_
                    refine Tr.iaddN dX10_goQuarter_200 (Eq.refl 201) ?_
                    refine Tr.ialdN dX10_goQuarter_201 rfl (by omega) (by decide) (Eq.refl 202) ?_
                    refine Tr.top (rd_st (by omega)) ?_
                    refine Tr.imul dX10_goQuarter_202 (Eq.refl 203) ?_
                    refine Tr.bipush (v := nI 100) dX10_goQuarter_203 (by decide +kernel) (Eq.refl 205) ?_
                    refine Tr.idiv dX10_goQuarter_205 (by decide +kernel) (Eq.refl 206) ?_
                    refine Tr.iload dX10_goQuarter_206 rfl (Eq.refl 208) ?_
                    refine Tr.iadd dX10_goQuarter_208 (Eq.refl 209) ?_
                    refine Tr.iadd dX10_goQuarter_209 (Eq.refl 210) ?_
                    refine Tr.iastN dX10_goQuarter_210 rfl (by omega) (by decide) (Eq.refl 211) ?_
                    refine Tr.pic (w' := (mqC E ad r i V o W (lbF W S B (npV V)) (rwF (psS T, whS T, sdS T, upd (ltS T) (hav (ovr V o) T j) (ltS T (hav (ovr V o) T j) + (woV (ovr V o) j * stS T j / nI 100 + mnI (ruV V 4) (soS T j))), alS T, soS T, stS T) P L a))) (by unfold mqC; rw [← wr_lt (show hav (ovr V o) T j < 5 from h161)]; rfl) ?_
                    refine Tr.aload_n (i := 1) dX10_goQuarter_211 rfl rfl (Eq.refl 212) ?_
                    refine Tr.bipush (v := nI 20) dX10_goQuarter_212 (by decide +kernel) (Eq.refl 214) ?_
                    refine Tr.iload_n (i := 2) dX10_goQuarter_214 rfl rfl (Eq.refl 215) ?_
                    refine Tr.iaddN dX10_goQuarter_215 (Eq.refl 216) ?_
                    refine Tr.dup2 dX10_goQuarter_216 rfl rfl (Eq.refl 217) ?_
                    refine Tr.ialdN dX10_goQuarter_217 rfl (by omega) (by decide) (Eq.refl 218) ?_
                    refine Tr.top (rd_so (by omega)) ?_
                    refine Tr.iload dX10_goQuarter_218 rfl (Eq.refl 220) ?_
                    refine Tr.isub dX10_goQuarter_220 (Eq.refl 221) ?_
                    refine Tr.iastN dX10_goQuarter_221 rfl (by omega) (by decide) (Eq.refl 222) ?_
                    refine Tr.pic (w' := (mqC E ad r i V o W (lbF W S B (npV V)) (rwF (psS T, whS T, sdS T, upd (ltS T) (hav (ovr V o) T j) (ltS T (hav (ovr V o) T j) + (woV (ovr V o) j * stS T j / nI 100 + mnI (ruV V 4) (soS T j))), alS T, upd (soS T) j (soS T j - mnI (ruV V 4) (soS T j)), stS T) P L a))) (by exact congrArg (mqC E ad r i V o W (lbF W S B (npV V))) (wr_so (S := (psS T, whS T, sdS T, upd (ltS T) (hav (ovr V o) T j) (ltS T (hav (ovr V o) T j) + (woV (ovr V o) j * stS T j / nI 100 + mnI (ruV V 4) (soS T j))), alS T, soS T, stS T)) (show j < 5 by omega))) ?_
                    refine Tr.aload_n (i := 1) dX10_goQuarter_222 rfl rfl (Eq.refl 223) ?_
                    refine Tr.bipush (v := nI 25) dX10_goQuarter_223 (by decide +kernel) (Eq.refl 225) ?_
                    refine Tr.iload_n (i := 2) dX10_goQuarter_225 rfl rfl (Eq.refl 226) ?_
                    refine Tr.iaddN dX10_goQuarter_226 (Eq.refl 227) ?_
                    refine Tr.iload_n (i := 3) dX10_goQuarter_227 rfl rfl (Eq.refl 228) ?_
                    refine Tr.aload_n (i := 0) dX10_goQuarter_228 rfl rfl (Eq.refl 229) ?_
                    refine Tr.getf dX10_goQuarter_229 fX10_209 rfl rfl (Eq.refl 232) ?_
                    refine Tr.iload_n (i := 2) dX10_goQuarter_232 rfl rfl (Eq.refl 233) ?_
                    refine Tr.ialdN dX10_goQuarter_233 rfl (by omega) (by decide) (Eq.refl 234) ?_
                    refine Tr.icmp_ne (tgt := 258) dX10_goQuarter_234 (by decide) (Eq.refl 237) (fun h234 => ?_) (fun h234 => ?_)
                    · rw [eq_comm, cl_eq h161] at h234
                      rw [if_neg (fun z9 => h234 z9.symm)] at ih
                      refine Tr.iconst (v := nI 0) dX10_goQuarter_258 (icN 0) (Eq.refl 259) ?_
                      refine Tr.aload_n (i := 1) dX10_goQuarter_259 rfl rfl (Eq.refl 260) ?_
                      refine Tr.bipush (v := nI 25) dX10_goQuarter_260 (by decide +kernel) (Eq.refl 262) ?_
                      refine Tr.iload_n (i := 2) dX10_goQuarter_262 rfl rfl (Eq.refl 263) ?_
                      refine Tr.iaddN dX10_goQuarter_263 (Eq.refl 264) ?_
                      refine Tr.ialdN dX10_goQuarter_264 rfl (by omega) (by decide) (Eq.refl 265) ?_
                      refine Tr.top (rd_st (by omega)) ?_
                      refine Tr.aload_n (i := 0) dX10_goQuarter_265 rfl rfl (Eq.refl 266) ?_
                      refine Tr.getf dX10_goQuarter_266 fX10_197 rfl rfl (Eq.refl 269) ?_
                      refine Tr.iconst (v := nI 2) dX10_goQuarter_269 (icN 2) (Eq.refl 270) ?_
                      refine Tr.ialdN dX10_goQuarter_270 rfl (by omega) (by decide) (Eq.refl 271) ?_
                      refine Tr.isub dX10_goQuarter_271 (Eq.refl 272) ?_
                      refine Tr.mmax dX10_goQuarter_272 (kX10_368 (Nat.le_refl _)).1 rfl rfl (Eq.refl 275) ?_
                      refine Tr.iastN dX10_goQuarter_275 rfl (by omega) (by decide) (Eq.refl 276) ?_
                      refine Tr.iincN dX10_goQuarter_276 rfl rfl rfl (Eq.refl 279) ?_
                      refine Tr.goto (pc' := 144) dX10_goQuarter_279 (by decide) ?_
                      refine Tr.mask [true, true, true, false, false] rfl (Tr.pic ?_ ih)
                      first | rfl | (exact congrArg (mqC E ad r i V o W (lbF W S B (npV V))) (wr_st (S := (psS T, whS T, sdS T, upd (ltS T) (hav (ovr V o) T j) (ltS T (hav (ovr V o) T j) + (woV (ovr V o) j * stS T j / nI 100 + mnI (ruV V 4) (soS T j))), alS T, upd (soS T) j (soS T j - mnI (ruV V 4) (soS T j)), stS T)) (show j < 5 by omega)))
                    · rw [eq_comm, cl_eq h161] at h234
                      rw [if_pos h234.symm] at ih
                      refine Tr.bipush (v := nI 100) dX10_goQuarter_237 (by decide +kernel) (Eq.refl 239) ?_
                      refine Tr.aload_n (i := 1) dX10_goQuarter_239 rfl rfl (Eq.refl 240) ?_
                      refine Tr.bipush (v := nI 25) dX10_goQuarter_240 (by decide +kernel) (Eq.refl 242) ?_
                      refine Tr.iload_n (i := 2) dX10_goQuarter_242 rfl rfl (Eq.refl 243) ?_
                      refine Tr.iaddN dX10_goQuarter_243 (Eq.refl 244) ?_
                      refine Tr.ialdN dX10_goQuarter_244 rfl (by omega) (by decide) (Eq.refl 245) ?_
                      refine Tr.top (rd_st (by omega)) ?_
                      refine Tr.aload_n (i := 0) dX10_goQuarter_245 rfl rfl (Eq.refl 246) ?_
                      refine Tr.getf dX10_goQuarter_246 fX10_197 rfl rfl (Eq.refl 249) ?_
                      refine Tr.iconst (v := nI 3) dX10_goQuarter_249 (icN 3) (Eq.refl 250) ?_
                      refine Tr.ialdN dX10_goQuarter_250 rfl (by omega) (by decide) (Eq.refl 251) ?_
                      refine Tr.iadd dX10_goQuarter_251 (Eq.refl 252) ?_
                      refine Tr.mmin dX10_goQuarter_252 (kX10_359 (Nat.le_refl _)).1 rfl rfl (Eq.refl 255) ?_
                      refine Tr.goto (pc' := 275) dX10_goQuarter_255 (by decide) ?_
                      refine Tr.iastN dX10_goQuarter_275 rfl (by omega) (by decide) (Eq.refl 276) ?_
                      refine Tr.iincN dX10_goQuarter_276 rfl rfl rfl (Eq.refl 279) ?_
                      refine Tr.goto (pc' := 144) dX10_goQuarter_279 (by decide) ?_
                      refine Tr.mask [true, true, true, false, false] rfl (Tr.pic ?_ ih)
                      first | rfl | (exact congrArg (mqC E ad r i V o W (lbF W S B (npV V))) (wr_st (S := (psS T, whS T, sdS T, upd (ltS T) (hav (ovr V o) T j) (ltS T (hav (ovr V o) T j) + (woV (ovr V o) j * stS T j / nI 100 + mnI (ruV V 4) (soS T j))), alS T, upd (soS T) j (soS T j - mnI (ruV V 4) (soS T j)), stS T)) (show j < 5 by omega)))
                  · rw [if_pos (by rw [cl_none] at h161; omega)] at ih
                    refine Tr.goto (pc' := 276) dX10_goQuarter_164 (by decide) ?_
                    refine Tr.iincN dX10_goQuarter_276 rfl rfl rfl (Eq.refl 279) ?_
                    refine Tr.goto (pc' := 144) dX10_goQuarter_279 (by decide) ?_
                    refine Tr.mask [true, true, true, false, false] rfl (Tr.pic ?_ ih)
                    first | rfl | (exact congrArg (mqC E ad r i V o W (lbF W S B (npV V))) (wr_st (S := (psS T, whS T, sdS T, upd (ltS T) (hav (ovr V o) T j) (ltS T (hav (ovr V o) T j) + (woV (ovr V o) j * stS T j / nI 100 + mnI (ruV V 4) (soS T j))), alS T, upd (soS T) j (soS T j - mnI (ruV V 4) (soS T j)), stS T)) (show j < 5 by omega)))
            · exact absurd h121 (by omega)
          · have hSl : Sle V (ltF (ovr V o) (cmF (ovr V o) L W S (npV V)) j) := by intro p hp; rw [ltF_wh]; exact cmF_le (V := ovr V o) hS hWl _ p hp
            have hu : ltF (ovr V o) (cmF (ovr V o) L W S (npV V)) (j + 1) = (psS (ltF (ovr V o) (cmF (ovr V o) L W S (npV V)) j), whS (ltF (ovr V o) (cmF (ovr V o) L W S (npV V)) j), sdS (ltF (ovr V o) (cmF (ovr V o) L W S (npV V)) j), upd (ltS (ltF (ovr V o) (cmF (ovr V o) L W S (npV V)) j)) j (tsG (ovr V o) (ltF (ovr V o) (cmF (ovr V o) L W S (npV V)) j) j), alS (ltF (ovr V o) (cmF (ovr V o) L W S (npV V)) j), soS (ltF (ovr V o) (cmF (ovr V o) L W S (npV V)) j), stS (ltF (ovr V o) (cmF (ovr V o) L W S (npV V)) j)) := rfl
            rw [hu, tsG_ov] at ih
            clear hu hps
            generalize ltF (ovr V o) (cmF (ovr V o) L W S (npV V)) j = T at *
            refine Tr.iload_n (i := 2) dX10_goQuarter_116 rfl rfl (Eq.refl 117) ?_
            refine Tr.aload_n (i := 0) dX10_goQuarter_117 rfl rfl (Eq.refl 118) ?_
            refine Tr.getf dX10_goQuarter_118 fX10_285 rfl rfl (Eq.refl 121) ?_
            refine Tr.icmp_geN (tgt := 142) dX10_goQuarter_121 (by decide) (Eq.refl 124) (by omega) (by omega) (fun h121 => ?_) (fun h121 => ?_)
            · exact absurd h121 (by omega)
            · refine Tr.aload_n (i := 1) dX10_goQuarter_124 rfl rfl (Eq.refl 125) ?_
              refine Tr.bipush (v := nI 10) dX10_goQuarter_125 (by decide +kernel) (Eq.refl 127) ?_
              refine Tr.iload_n (i := 2) dX10_goQuarter_127 rfl rfl (Eq.refl 128) ?_
              refine Tr.iaddN dX10_goQuarter_128 (Eq.refl 129) ?_
              refine Tr.aload_n (i := 0) dX10_goQuarter_129 rfl rfl (Eq.refl 130) ?_
              refine Tr.aload_n (i := 1) dX10_goQuarter_130 rfl rfl (Eq.refl 131) ?_
              refine Tr.iload_n (i := 2) dX10_goQuarter_131 rfl rfl (Eq.refl 132) ?_
              refine Tr.callVs (m_tiesOf E ad r i V o W (lbF W S B (npV V)) T P L a j hV hj hSl) dX10_goQuarter_132 (kX10_356 (Nat.le_of_ble_eq_true rfl)) iX10_tiesOf rfl rfl rfl rfl rfl (Nat.le_refl _) rfl rfl (Eq.refl 135) ?_
              refine Tr.iastN dX10_goQuarter_135 rfl (by omega) (by decide) (Eq.refl 136) ?_
              refine Tr.iincN dX10_goQuarter_136 rfl rfl rfl (Eq.refl 139) ?_
              refine Tr.goto (pc' := 116) dX10_goQuarter_139 (by decide) ?_
              exact Tr.eqs rfl rfl (by unfold mqC; rw [← wr_lt (show j < 5 by omega)]; rfl) ih
        · exact absurd h90 (by omega)
      · have hSl : Sle V (cmF (ovr V o) L W S j) := cmF_le (V := ovr V o) hS hWl j
        rw [cmF_cm] at ih
        clear hps
        generalize cmF (ovr V o) L W S j = T at *
        have hbj := hb j hj
        generalize lbF W S B (npV V) = B2 at *
        refine Tr.iload_n (i := 2) dX10_goQuarter_85 rfl rfl (Eq.refl 86) ?_
        refine Tr.aload_n (i := 0) dX10_goQuarter_86 rfl rfl (Eq.refl 87) ?_
        refine Tr.getf dX10_goQuarter_87 fX10_285 rfl rfl (Eq.refl 90) ?_
        refine Tr.icmp_geN (tgt := 114) dX10_goQuarter_90 (by decide) (Eq.refl 93) (by omega) (by omega) (fun h90 => ?_) (fun h90 => ?_)
        · exact absurd h90 (by omega)
        · refine Tr.aload_n (i := 0) dX10_goQuarter_93 rfl rfl (Eq.refl 94) ?_
          refine Tr.getf dX10_goQuarter_94 fX10_239 rfl rfl (Eq.refl 97) ?_
          refine Tr.iload_n (i := 2) dX10_goQuarter_97 rfl rfl (Eq.refl 98) ?_
          refine Tr.zaldN dX10_goQuarter_98 rfl (by omega) (by decide) (Eq.refl 99) ?_
          refine Tr.top hbj ?_
          refine Tr.if_eqB (tgt := 108) dX10_goQuarter_99 (by decide) (Eq.refl 102) (fun h99 => ?_) (fun h99 => ?_)
          · rw [if_neg (by rw [h99]; decide)] at ih
            refine Tr.iincN dX10_goQuarter_108 rfl rfl rfl (Eq.refl 111) ?_
            refine Tr.goto (pc' := 85) dX10_goQuarter_111 (by decide) ?_
            exact Tr.eqs rfl rfl rfl ih
          · rw [if_pos h99] at ih
            refine Tr.aload_n (i := 0) dX10_goQuarter_102 rfl rfl (Eq.refl 103) ?_
            refine Tr.aload_n (i := 1) dX10_goQuarter_103 rfl rfl (Eq.refl 104) ?_
            refine Tr.iload_n (i := 2) dX10_goQuarter_104 rfl rfl (Eq.refl 105) ?_
            refine Tr.callVs (m_comes E ad r i V o W B2 T P L a j hV hj hSl hW) dX10_goQuarter_105 (kX10_352 (Nat.le_of_ble_eq_true rfl)) iX10_comes rfl rfl rfl rfl rfl (Nat.le_refl _) rfl rfl (Eq.refl 108) ?_
            refine Tr.iincN dX10_goQuarter_108 rfl rfl rfl (Eq.refl 111) ?_
            refine Tr.goto (pc' := 85) dX10_goQuarter_111 (by decide) ?_
            exact Tr.eqs rfl rfl rfl ih
    · exact absurd h7 (by omega)
  · have hwj := hS j hj
    have hWj := hWl j hj
    have hlw : whS (lvF W S j) j = whS S j := lvF_wh'
    have hu : lvF W S (j + 1) = if whS (lvF W S j) j = W j then (if whS (lvF W S j) j = 5 then lvF W S j else (psS (lvF W S j), whS (lvF W S j), upd (sdS (lvF W S j)) j (sdS (lvF W S j) j + nI 1), ltS (lvF W S j), alS (lvF W S j), soS (lvF W S j), stS (lvF W S j))) else (psS (lvF W S j), upN (whS (lvF W S j)) j 5, upd (sdS (lvF W S j)) j (nI 0), ltS (lvF W S j), alS (lvF W S j), soS (lvF W S j), stS (lvF W S j)) := rfl
    have hu2 : lbF W S B (j + 1) = upd (lbF W S B j) j (bI (!decide (whS S j = W j))) := rfl
    rw [hu, hu2, ← hlw] at ih
    rw [← hlw] at hwj
    clear hu hu2 hps hlw
    generalize lvF W S j = T at *
    generalize lbF W S B j = B2 at *
    refine Tr.iload_n (i := 2) dX10_goQuarter_2 rfl rfl (Eq.refl 3) ?_
    refine Tr.aload_n (i := 0) dX10_goQuarter_3 rfl rfl (Eq.refl 4) ?_
    refine Tr.getf dX10_goQuarter_4 fX10_285 rfl rfl (Eq.refl 7) ?_
    refine Tr.icmp_geN (tgt := 83) dX10_goQuarter_7 (by decide) (Eq.refl 10) (by omega) (by omega) (fun h7 => ?_) (fun h7 => ?_)
    · exact absurd h7 (by omega)
    · refine Tr.aload_n (i := 0) dX10_goQuarter_10 rfl rfl (Eq.refl 11) ?_
      refine Tr.getf dX10_goQuarter_11 fX10_239 rfl rfl (Eq.refl 14) ?_
      refine Tr.iload_n (i := 2) dX10_goQuarter_14 rfl rfl (Eq.refl 15) ?_
      refine Tr.aload_n (i := 0) dX10_goQuarter_15 rfl rfl (Eq.refl 16) ?_
      refine Tr.getf dX10_goQuarter_16 fX10_236 rfl rfl (Eq.refl 19) ?_
      refine Tr.iload_n (i := 2) dX10_goQuarter_19 rfl rfl (Eq.refl 20) ?_
      refine Tr.ialdN dX10_goQuarter_20 rfl (by omega) (by decide) (Eq.refl 21) ?_
      refine Tr.aload_n (i := 1) dX10_goQuarter_21 rfl rfl (Eq.refl 22) ?_
      refine Tr.iconst (v := nI 0) dX10_goQuarter_22 (icN 0) (Eq.refl 23) ?_
      refine Tr.iload_n (i := 2) dX10_goQuarter_23 rfl rfl (Eq.refl 24) ?_
      refine Tr.iaddN dX10_goQuarter_24 (Eq.refl 25) ?_
      refine Tr.ialdN dX10_goQuarter_25 rfl (by omega) (by decide) (Eq.refl 26) ?_
      refine Tr.top (rd_wh (by omega)) ?_
      refine Tr.icmp_eqN (tgt := 33) dX10_goQuarter_26 (by decide) (Eq.refl 29) (by omega) (by omega) (fun h26 => ?_) (fun h26 => ?_)
      · obtain ⟨c, hc0⟩ : ∃ c, c = false := ⟨_, rfl⟩
        have hc : (!decide (whS T j = W j)) = c := by rw [hc0]; simp [h26]
        rw [hc] at ih
        refine Tr.iconst (v := nI 0) dX10_goQuarter_33 (icN 0) (Eq.refl 34) ?_
        refine Tr.top (y := bI c) (by rw [hc0]; rfl) ?_
        refine Tr.zastN dX10_goQuarter_34 rfl (by omega) (by decide) (Eq.refl 35) ?_
        refine Tr.pic (w' := (mqC E ad r i V o W (upd B2 j (bI c)) (rwF T P L a))) (by exact congrArg (fun x => mqC E ad r i V o W (upd B2 j x) (rwF T P L a)) (bI_vp c)) ?_
        skip
        refine Tr.aload_n (i := 0) dX10_goQuarter_35 rfl rfl (Eq.refl 36) ?_
        refine Tr.getf dX10_goQuarter_36 fX10_239 rfl rfl (Eq.refl 39) ?_
        refine Tr.iload_n (i := 2) dX10_goQuarter_39 rfl rfl (Eq.refl 40) ?_
        refine Tr.zaldN dX10_goQuarter_40 rfl (by omega) (by decide) (Eq.refl 41) ?_
        refine Tr.top (y := bI c) (upd_self _ _ _) ?_
        refine Tr.if_eqB (tgt := 59) dX10_goQuarter_41 (by decide) (Eq.refl 44) (fun h41 => ?_) (fun h41 => ?_)
        · rw [h41] at hc
          refine Tr.aload_n (i := 1) dX10_goQuarter_59 rfl rfl (Eq.refl 60) ?_
          refine Tr.iconst (v := nI 0) dX10_goQuarter_60 (icN 0) (Eq.refl 61) ?_
          refine Tr.iload_n (i := 2) dX10_goQuarter_61 rfl rfl (Eq.refl 62) ?_
          refine Tr.iaddN dX10_goQuarter_62 (Eq.refl 63) ?_
          refine Tr.ialdN dX10_goQuarter_63 rfl (by omega) (by decide) (Eq.refl 64) ?_
          refine Tr.top (rd_wh (by omega)) ?_
          refine Tr.iconst (v := nI 5) dX10_goQuarter_64 (icN 5) (Eq.refl 65) ?_
          refine Tr.icmp_eqN (tgt := 77) dX10_goQuarter_65 (by decide) (Eq.refl 68) (by omega) (by omega) (fun h65 => ?_) (fun h65 => ?_)
          · have hd9 : whS T j = W j := by simpa using hc
            rw [if_pos hd9, if_pos h65] at ih
            refine Tr.iincN dX10_goQuarter_77 rfl rfl rfl (Eq.refl 80) ?_
            refine Tr.goto (pc' := 2) dX10_goQuarter_80 (by decide) ?_
            first | exact ih | exact Tr.eqs rfl rfl rfl ih
          · have hd9 : whS T j = W j := by simpa using hc
            rw [if_pos hd9, if_neg h65] at ih
            refine Tr.aload_n (i := 1) dX10_goQuarter_68 rfl rfl (Eq.refl 69) ?_
            refine Tr.iconst (v := nI 5) dX10_goQuarter_69 (icN 5) (Eq.refl 70) ?_
            refine Tr.iload_n (i := 2) dX10_goQuarter_70 rfl rfl (Eq.refl 71) ?_
            refine Tr.iaddN dX10_goQuarter_71 (Eq.refl 72) ?_
            refine Tr.dup2 dX10_goQuarter_72 rfl rfl (Eq.refl 73) ?_
            refine Tr.ialdN dX10_goQuarter_73 rfl (by omega) (by decide) (Eq.refl 74) ?_
            refine Tr.top (rd_sd (by omega)) ?_
            refine Tr.iconst (v := nI 1) dX10_goQuarter_74 (icN 1) (Eq.refl 75) ?_
            refine Tr.iadd dX10_goQuarter_75 (Eq.refl 76) ?_
            refine Tr.iastN dX10_goQuarter_76 rfl (by omega) (by decide) (Eq.refl 77) ?_
            refine Tr.pic (w' := (mqC E ad r i V o W (upd B2 j (bI c)) (rwF (psS T, whS T, upd (sdS T) j (sdS T j + nI 1), ltS T, alS T, soS T, stS T) P L a))) (by unfold mqC; rw [← wr_sd (show j < 5 by omega)]; rfl) ?_
            refine Tr.iincN dX10_goQuarter_77 rfl rfl rfl (Eq.refl 80) ?_
            refine Tr.goto (pc' := 2) dX10_goQuarter_80 (by decide) ?_
            first | exact ih | exact Tr.eqs rfl rfl rfl ih
        · rw [h41] at hc
          have hd9 : ¬ whS T j = W j := by simpa using hc
          rw [if_neg hd9] at ih
          refine Tr.aload_n (i := 1) dX10_goQuarter_44 rfl rfl (Eq.refl 45) ?_
          refine Tr.iconst (v := nI 0) dX10_goQuarter_45 (icN 0) (Eq.refl 46) ?_
          refine Tr.iload_n (i := 2) dX10_goQuarter_46 rfl rfl (Eq.refl 47) ?_
          refine Tr.iaddN dX10_goQuarter_47 (Eq.refl 48) ?_
          refine Tr.iconst (v := nI 5) dX10_goQuarter_48 (icN 5) (Eq.refl 49) ?_
          refine Tr.iastN dX10_goQuarter_49 rfl (by omega) (by decide) (Eq.refl 50) ?_
          refine Tr.pic (w' := (mqC E ad r i V o W (upd B2 j (bI c)) (rwF (psS T, upN (whS T) j 5, sdS T, ltS T, alS T, soS T, stS T) P L a))) (by unfold mqC; rw [← wr_wh (show j < 5 by omega)]; rfl) ?_
          refine Tr.aload_n (i := 1) dX10_goQuarter_50 rfl rfl (Eq.refl 51) ?_
          refine Tr.iconst (v := nI 5) dX10_goQuarter_51 (icN 5) (Eq.refl 52) ?_
          refine Tr.iload_n (i := 2) dX10_goQuarter_52 rfl rfl (Eq.refl 53) ?_
          refine Tr.iaddN dX10_goQuarter_53 (Eq.refl 54) ?_
          refine Tr.iconst (v := nI 0) dX10_goQuarter_54 (icN 0) (Eq.refl 55) ?_
          refine Tr.iastN dX10_goQuarter_55 rfl (by omega) (by decide) (Eq.refl 56) ?_
          refine Tr.pic (w' := (mqC E ad r i V o W (upd B2 j (bI c)) (rwF (psS T, upN (whS T) j 5, upd (sdS T) j (nI 0), ltS T, alS T, soS T, stS T) P L a))) (by exact congrArg (mqC E ad r i V o W (upd B2 j (bI c))) (wr_sd (S := (psS T, upN (whS T) j 5, sdS T, ltS T, alS T, soS T, stS T)) (show j < 5 by omega))) ?_
          refine Tr.goto (pc' := 77) dX10_goQuarter_56 (by decide) ?_
          refine Tr.iincN dX10_goQuarter_77 rfl rfl rfl (Eq.refl 80) ?_
          refine Tr.goto (pc' := 2) dX10_goQuarter_80 (by decide) ?_
          first | exact ih | exact Tr.eqs rfl rfl rfl ih
      · obtain ⟨c, hc0⟩ : ∃ c, c = true := ⟨_, rfl⟩
        have hc : (!decide (whS T j = W j)) = c := by rw [hc0]; simp; exact fun z9 => h26 z9.symm
        rw [hc] at ih
        refine Tr.iconst (v := nI 1) dX10_goQuarter_29 (icN 1) (Eq.refl 30) ?_
        refine Tr.goto (pc' := 34) dX10_goQuarter_30 (by decide) ?_
        refine Tr.top (y := bI c) (by rw [hc0]; rfl) ?_
        refine Tr.zastN dX10_goQuarter_34 rfl (by omega) (by decide) (Eq.refl 35) ?_
        refine Tr.pic (w' := (mqC E ad r i V o W (upd B2 j (bI c)) (rwF T P L a))) (by exact congrArg (fun x => mqC E ad r i V o W (upd B2 j x) (rwF T P L a)) (bI_vp c)) ?_
        skip
        refine Tr.aload_n (i := 0) dX10_goQuarter_35 rfl rfl (Eq.refl 36) ?_
        refine Tr.getf dX10_goQuarter_36 fX10_239 rfl rfl (Eq.refl 39) ?_
        refine Tr.iload_n (i := 2) dX10_goQuarter_39 rfl rfl (Eq.refl 40) ?_
        refine Tr.zaldN dX10_goQuarter_40 rfl (by omega) (by decide) (Eq.refl 41) ?_
        refine Tr.top (y := bI c) (upd_self _ _ _) ?_
        refine Tr.if_eqB (tgt := 59) dX10_goQuarter_41 (by decide) (Eq.refl 44) (fun h41 => ?_) (fun h41 => ?_)
        · rw [h41] at hc
          refine Tr.aload_n (i := 1) dX10_goQuarter_59 rfl rfl (Eq.refl 60) ?_
          refine Tr.iconst (v := nI 0) dX10_goQuarter_60 (icN 0) (Eq.refl 61) ?_
          refine Tr.iload_n (i := 2) dX10_goQuarter_61 rfl rfl (Eq.refl 62) ?_
          refine Tr.iaddN dX10_goQuarter_62 (Eq.refl 63) ?_
          refine Tr.ialdN dX10_goQuarter_63 rfl (by omega) (by decide) (Eq.refl 64) ?_
          refine Tr.top (rd_wh (by omega)) ?_
          refine Tr.iconst (v := nI 5) dX10_goQuarter_64 (icN 5) (Eq.refl 65) ?_
          refine Tr.icmp_eqN (tgt := 77) dX10_goQuarter_65 (by decide) (Eq.refl 68) (by omega) (by omega) (fun h65 => ?_) (fun h65 => ?_)
          · have hd9 : whS T j = W j := by simpa using hc
            rw [if_pos hd9, if_pos h65] at ih
            refine Tr.iincN dX10_goQuarter_77 rfl rfl rfl (Eq.refl 80) ?_
            refine Tr.goto (pc' := 2) dX10_goQuarter_80 (by decide) ?_
            first | exact ih | exact Tr.eqs rfl rfl rfl ih
          · have hd9 : whS T j = W j := by simpa using hc
            rw [if_pos hd9, if_neg h65] at ih
            refine Tr.aload_n (i := 1) dX10_goQuarter_68 rfl rfl (Eq.refl 69) ?_
            refine Tr.iconst (v := nI 5) dX10_goQuarter_69 (icN 5) (Eq.refl 70) ?_
            refine Tr.iload_n (i := 2) dX10_goQuarter_70 rfl rfl (Eq.refl 71) ?_
            refine Tr.iaddN dX10_goQuarter_71 (Eq.refl 72) ?_
            refine Tr.dup2 dX10_goQuarter_72 rfl rfl (Eq.refl 73) ?_
            refine Tr.ialdN dX10_goQuarter_73 rfl (by omega) (by decide) (Eq.refl 74) ?_
            refine Tr.top (rd_sd (by omega)) ?_
            refine Tr.iconst (v := nI 1) dX10_goQuarter_74 (icN 1) (Eq.refl 75) ?_
            refine Tr.iadd dX10_goQuarter_75 (Eq.refl 76) ?_
            refine Tr.iastN dX10_goQuarter_76 rfl (by omega) (by decide) (Eq.refl 77) ?_
            refine Tr.pic (w' := (mqC E ad r i V o W (upd B2 j (bI c)) (rwF (psS T, whS T, upd (sdS T) j (sdS T j + nI 1), ltS T, alS T, soS T, stS T) P L a))) (by unfold mqC; rw [← wr_sd (show j < 5 by omega)]; rfl) ?_
            refine Tr.iincN dX10_goQuarter_77 rfl rfl rfl (Eq.refl 80) ?_
            refine Tr.goto (pc' := 2) dX10_goQuarter_80 (by decide) ?_
            first | exact ih | exact Tr.eqs rfl rfl rfl ih
        · rw [h41] at hc
          have hd9 : ¬ whS T j = W j := by simpa using hc
          rw [if_neg hd9] at ih
          refine Tr.aload_n (i := 1) dX10_goQuarter_44 rfl rfl (Eq.refl 45) ?_
          refine Tr.iconst (v := nI 0) dX10_goQuarter_45 (icN 0) (Eq.refl 46) ?_
          refine Tr.iload_n (i := 2) dX10_goQuarter_46 rfl rfl (Eq.refl 47) ?_
          refine Tr.iaddN dX10_goQuarter_47 (Eq.refl 48) ?_
          refine Tr.iconst (v := nI 5) dX10_goQuarter_48 (icN 5) (Eq.refl 49) ?_
          refine Tr.iastN dX10_goQuarter_49 rfl (by omega) (by decide) (Eq.refl 50) ?_
          refine Tr.pic (w' := (mqC E ad r i V o W (upd B2 j (bI c)) (rwF (psS T, upN (whS T) j 5, sdS T, ltS T, alS T, soS T, stS T) P L a))) (by unfold mqC; rw [← wr_wh (show j < 5 by omega)]; rfl) ?_
          refine Tr.aload_n (i := 1) dX10_goQuarter_50 rfl rfl (Eq.refl 51) ?_
          refine Tr.iconst (v := nI 5) dX10_goQuarter_51 (icN 5) (Eq.refl 52) ?_
          refine Tr.iload_n (i := 2) dX10_goQuarter_52 rfl rfl (Eq.refl 53) ?_
          refine Tr.iaddN dX10_goQuarter_53 (Eq.refl 54) ?_
          refine Tr.iconst (v := nI 0) dX10_goQuarter_54 (icN 0) (Eq.refl 55) ?_
          refine Tr.iastN dX10_goQuarter_55 rfl (by omega) (by decide) (Eq.refl 56) ?_
          refine Tr.pic (w' := (mqC E ad r i V o W (upd B2 j (bI c)) (rwF (psS T, upN (whS T) j 5, upd (sdS T) j (nI 0), ltS T, alS T, soS T, stS T) P L a))) (by exact congrArg (mqC E ad r i V o W (upd B2 j (bI c))) (wr_sd (S := (psS T, upN (whS T) j 5, sdS T, ltS T, alS T, soS T, stS T)) (show j < 5 by omega))) ?_
          refine Tr.goto (pc' := 77) dX10_goQuarter_56 (by decide) ?_
          refine Tr.iincN dX10_goQuarter_77 rfl rfl rfl (Eq.refl 80) ?_
          refine Tr.goto (pc' := 2) dX10_goQuarter_80 (by decide) ?_
          first | exact ih | exact Tr.eqs rfl rfl rfl ih
