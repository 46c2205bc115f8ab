/-! Trial: is it a ring -/
set_option maxHeartbeats 4000000 in
set_option maxRecDepth 100000 in
theorem c_isRing (E : EnvT) (ad : Nat → Nat) (T : Tst) (hT : Tok T) (hc : ∀ k, k < npV (vT T) → cT T k < 5) : Md E mX6_isRing ad [.ref (ad 0)] (trC E ad 0 T) (some (.int (bI (rgF T).1))) (trC E ad 0 (uS (uW T (rgF T).2.1) (rgF T).2.2)) := by
  obtain ⟨V, X, P, L, O, S, W, ch, mo, z, G, K, bs, br, rg, lr, D⟩ := T
  have hV : Vok V := hT.1
  have hP : Ple P := hT.2.1
  have v1 := hV.1
  have v2 := hV.2.1
  have hc : ∀ k, k < npV V → ch k < 5 := hc
  have hK : ∀ W S, Tok (V, X, P, L, O, S, W, ch, mo, z, G, K, bs, br, rg, lr, D) := fun _ _ => hT
  show Md E _ ad _ (trX E ad 0 V X P L O S W ch mo z G K bs br rg lr (D 0) (D 1) (D 2) (D 3) (D 4)) (some (.int (bI (itB (roS V P L O ch) (W, S) (npV V)).1))) (trX E ad 0 V X P L O (itB (roS V P L O ch) (W, S) (npV V)).2.2 (itB (roS V P L O ch) (W, S) (npV V)).2.1 ch mo z G K bs br rg lr (D 0) (D 1) (D 2) (D 3) (D 4))
  generalize hR : itB (roS V P L O ch) (W, S) (npV V) = R
  refine Md.of 3 (by decide) rfl rfl ?_
  refine Tr.iconst (v := nI 0) dX6_isRing_0 (icN 0) (Eq.refl 1) ?_
  refine Tr.istore_n (i := 1) dX6_isRing_1 rfl rfl rfl (Eq.refl 2) ?_
  refine Tr.mask [true, true, true, true] (lv' := [some (.ref (ad 0)), some (.int (nI 0)), none, none]) rfl ?_
  refine Tr.pic (w' := trX E ad 0 V X P L O (itB (roS V P L O ch) (W, S) 0).2.2 (itB (roS V P L O ch) (W, S) 0).2.1 ch mo z G K bs br rg lr (D 0) (D 1) (D 2) (D 3) (D 4)) rfl ?_
  refine loopD (P := fun i => (itB (roS V P L O ch) (W, S) i).1 = true → Tr _ 0 0 2 [some (.ref (ad 0)), some (.int (nI i)), none, none] [] (trX E ad 0 V X P L O (itB (roS V P L O ch) (W, S) i).2.2 (itB (roS V P L O ch) (W, S) i).2.1 ch mo z G K bs br rg lr (D 0) (D 1) (D 2) (D 3) (D 4))) (npV V) (fun hn => ?_) (fun i hi ih hn => ?_) rfl
  · rw [hR] at hn ⊢
    refine Tr.iload_n (i := 1) dX6_isRing_2 rfl rfl (Eq.refl 3) ?_
    refine Tr.aload_n (i := 0) dX6_isRing_3 rfl rfl (Eq.refl 4) ?_
    refine Tr.getf dX6_isRing_4 fX6_12 rfl rfl (Eq.refl 7) ?_
    refine Tr.getf dX6_isRing_7 fX6_127 rfl rfl (Eq.refl 10) ?_
    refine Tr.icmp_geN (tgt := 83) dX6_isRing_10 (by decide) (Eq.refl 13) (by omega) (by omega) (fun h10 => ?_) (fun h10 => ?_)
    · refine Tr.iconst (v := nI 1) dX6_isRing_83 (icN 1) (Eq.refl 84) ?_
      refine Tr.iret dX6_isRing_84 rfl (by first | rfl | exact bI_nar _) ?_ ?_
      · rw [hn]; rfl
      · rfl
    · exact absurd h10 (by omega)
  · have hs := itB_s hn
    have hf : (itB (roS V P L O ch) (W, S) (i + 1)).1 = false → R = itB (roS V P L O ch) (W, S) (i + 1) := fun z => by rw [← hR]; exact itB_fr (Nat.succ_le_of_lt hi) z
    rw [hs] at ih hf
    generalize (itB (roS V P L O ch) (W, S) i).2 = q at *
    obtain ⟨W1, S1⟩ := q
    have hu : roS V P L O ch i (W1, S1) = if hoV V i < 5 then itB (riS V L O i (ltS (gon V L (wgW V P (psS O) ch W1) O) i)) (wgW V P (psS O) ch W1, gon V L (wgW V P (psS O) ch W1) O) (nhV V + 1) else (true, W1, S1) := rfl
    have hW2 : Wle V (wgW V P (psS O) ch W1) := wgW_le hV hP hc
    refine Tr.iload_n (i := 1) dX6_isRing_2 rfl rfl (Eq.refl 3) ?_
    refine Tr.aload_n (i := 0) dX6_isRing_3 rfl rfl (Eq.refl 4) ?_
    refine Tr.getf dX6_isRing_4 fX6_12 rfl rfl (Eq.refl 7) ?_
    refine Tr.getf dX6_isRing_7 fX6_127 rfl rfl (Eq.refl 10) ?_
    refine Tr.icmp_geN (tgt := 83) dX6_isRing_10 (by decide) (Eq.refl 13) (by omega) (by omega) (fun h10 => ?_) (fun h10 => ?_)
    · exact absurd h10 (by omega)
    · refine Tr.aload_n (i := 0) dX6_isRing_13 rfl rfl (Eq.refl 14) ?_
      refine Tr.getf dX6_isRing_14 fX6_12 rfl rfl (Eq.refl 17) ?_
      refine Tr.getf dX6_isRing_17 fX6_187 rfl rfl (Eq.refl 20) ?_
      refine Tr.iload_n (i := 1) dX6_isRing_20 rfl rfl (Eq.refl 21) ?_
      refine Tr.ialdN dX6_isRing_21 rfl (by omega) (by decide) (Eq.refl 22) ?_
      refine Tr.iconst (v := (-1)) dX6_isRing_22 (by decide +kernel) (Eq.refl 23) ?_
      refine Tr.icmp_eq (tgt := 77) dX6_isRing_23 (by decide) (Eq.refl 26) (fun h23 => ?_) (fun h23 => ?_)
      · rw [cl_none] at h23
        rw [if_neg h23] at hu
        rw [hu] at ih
        refine Tr.iincN dX6_isRing_77 rfl rfl rfl (Eq.refl 80) ?_
        refine Tr.goto (pc' := 2) dX6_isRing_80 (by decide) ?_
        exact Tr.eqs rfl rfl rfl (ih rfl)
      · rw [cl_none] at h23
        rw [if_pos (by omega)] at hu
        refine Tr.aload_n (i := 0) dX6_isRing_26 rfl rfl (Eq.refl 27) ?_
        refine Tr.callVs (c_wishRing E ad (V, X, P, L, O, S1, W1, ch, mo, z, G, K, bs, br, rg, lr, D) (hK _ _) hc) dX6_isRing_27 (kX6_202 (Nat.le_of_ble_eq_true rfl)) iX6_wishRing rfl rfl rfl rfl rfl (trC_le _ _ _ ((V, X, P, L, O, S, W, ch, mo, z, G, K, bs, br, rg, lr, D) : Tst) ((V, X, P, L, O, S, W, ch, mo, z, G, K, bs, br, rg, lr, D) : Tst)) rfl rfl (Eq.refl 30) ?_
        refine Tr.pic (w' := trX E ad 0 V X P L O S1 (wgW V P (psS O) ch W1) ch mo z G K bs br rg lr (D 0) (D 1) (D 2) (D 3) (D 4)) rfl ?_
        generalize wgW V P (psS O) ch W1 = W2 at *
        refine Tr.aload_n (i := 0) dX6_isRing_30 rfl rfl (Eq.refl 31) ?_
        refine Tr.iload_n (i := 1) dX6_isRing_31 rfl rfl (Eq.refl 32) ?_
        refine Tr.callVs (c_gainByWishes E ad (V, X, P, L, O, S1, W2, ch, mo, z, G, K, bs, br, rg, lr, D) i (hK _ _) hW2 hi) dX6_isRing_32 (kX6_205 (Nat.le_of_ble_eq_true rfl)) iX6_gainByWishes rfl rfl rfl rfl rfl (trC_le _ _ _ ((V, X, P, L, O, S, W, ch, mo, z, G, K, bs, br, rg, lr, D) : Tst) ((V, X, P, L, O, S, W, ch, mo, z, G, K, bs, br, rg, lr, D) : Tst)) rfl rfl (Eq.refl 35) ?_
        refine Tr.pic (w' := trX E ad 0 V X P L O (gon V L W2 O) W2 ch mo z G K bs br rg lr (D 0) (D 1) (D 2) (D 3) (D 4)) rfl ?_
        refine Tr.top (y := ltS (gon V L W2 O) i) rfl ?_
        generalize ltS (gon V L W2 O) i = g at *
        generalize gon V L W2 O = S2 at *
        refine Tr.istore_n (i := 2) dX6_isRing_35 rfl rfl rfl (Eq.refl 36) ?_
        refine Tr.iconst (v := nI 0) dX6_isRing_36 (icN 0) (Eq.refl 37) ?_
        refine Tr.istore_n (i := 3) dX6_isRing_37 rfl rfl rfl (Eq.refl 38) ?_
        skip
        refine Tr.mask [true, true, true, true] (lv' := [some (.ref (ad 0)), some (.int (nI i)), some (.int g), some (.int (nI 0))]) rfl ?_
        refine Tr.pic (w' := trX E ad 0 V X P L O (itB (riS V L O i g) (W2, S2) 0).2.2 (itB (riS V L O i g) (W2, S2) 0).2.1 ch mo z G K bs br rg lr (D 0) (D 1) (D 2) (D 3) (D 4)) rfl ?_
        refine loopD (P := fun c => (itB (riS V L O i g) (W2, S2) c).1 = true → Tr _ 0 0 38 [some (.ref (ad 0)), some (.int (nI i)), some (.int g), some (.int (nI c))] [] (trX E ad 0 V X P L O (itB (riS V L O i g) (W2, S2) c).2.2 (itB (riS V L O i g) (W2, S2) c).2.1 ch mo z G K bs br rg lr (D 0) (D 1) (D 2) (D 3) (D 4))) (nhV V + 1) (fun hm => ?_) (fun c hcc ih2 hm => ?_) rfl
        · rw [← hu] at hm ⊢
          refine Tr.iload_n (i := 3) dX6_isRing_38 rfl rfl (Eq.refl 39) ?_
          refine Tr.aload_n (i := 0) dX6_isRing_39 rfl rfl (Eq.refl 40) ?_
          refine Tr.getf dX6_isRing_40 fX6_12 rfl rfl (Eq.refl 43) ?_
          refine Tr.getf dX6_isRing_43 fX6_71 rfl rfl (Eq.refl 46) ?_
          refine Tr.icmp_gtN (tgt := 77) dX6_isRing_46 (by decide) (Eq.refl 49) (by omega) (by omega) (fun h46 => ?_) (fun h46 => ?_)
          · refine Tr.iincN dX6_isRing_77 rfl rfl rfl (Eq.refl 80) ?_
            refine Tr.goto (pc' := 2) dX6_isRing_80 (by decide) ?_
            exact Tr.mask [true, true, false, false] rfl (ih hm)
          · exact absurd h46 (by omega)
        · have hs2 := itB_s hm
          have hf2 : (itB (riS V L O i g) (W2, S2) (c + 1)).1 = false → R = itB (riS V L O i g) (W2, S2) (c + 1) := fun z => by
            have hz := itB_fr (Nat.succ_le_of_lt hcc) z
            rw [← hu] at hz
            rw [← hz]
            exact hf (by rw [hz]; exact z)
          have hW3 := riS_le (L := L) (O := O) (S := S2) (p := i) (g := g) hV hW2 c
          rw [hs2] at ih2 hf2
          generalize (itB (riS V L O i g) (W2, S2) c).2 = q2 at *
          obtain ⟨W3, S3⟩ := q2
          have hW3 : Wle V W3 := hW3
          have hW4 : Wle V (upN W3 i (plc V c)) := Wle_up hW3 (plc_le hV c)
          have hu2 : riS V L O i g c (W3, S3) = (!decide (g < ltS (gon V L (upN W3 i (plc V c)) O) i), upN W3 i (plc V c), gon V L (upN W3 i (plc V c)) O) := rfl
          refine Tr.iload_n (i := 3) dX6_isRing_38 rfl rfl (Eq.refl 39) ?_
          refine Tr.aload_n (i := 0) dX6_isRing_39 rfl rfl (Eq.refl 40) ?_
          refine Tr.getf dX6_isRing_40 fX6_12 rfl rfl (Eq.refl 43) ?_
          refine Tr.getf dX6_isRing_43 fX6_71 rfl rfl (Eq.refl 46) ?_
          refine Tr.icmp_gtN (tgt := 77) dX6_isRing_46 (by decide) (Eq.refl 49) (by omega) (by omega) (fun h46 => ?_) (fun h46 => ?_)
          · exact absurd h46 (by omega)
          · refine Tr.aload_n (i := 0) dX6_isRing_49 rfl rfl (Eq.refl 50) ?_
            refine Tr.getf dX6_isRing_50 fX6_39 rfl rfl (Eq.refl 53) ?_
            refine Tr.iload_n (i := 1) dX6_isRing_53 rfl rfl (Eq.refl 54) ?_
            refine Tr.aload_n (i := 0) dX6_isRing_54 rfl rfl (Eq.refl 55) ?_
            refine Tr.iload_n (i := 3) dX6_isRing_55 rfl rfl (Eq.refl 56) ?_
            refine Tr.callVs (c_placeOf E ad (V, X, P, L, O, S3, W3, ch, mo, z, G, K, bs, br, rg, lr, D) c hV (by omega)) dX6_isRing_56 (kX6_123 (Nat.le_of_ble_eq_true rfl)) iX6_placeOf rfl rfl rfl rfl rfl (trC_le _ _ _ ((V, X, P, L, O, S, W, ch, mo, z, G, K, bs, br, rg, lr, D) : Tst) ((V, X, P, L, O, S, W, ch, mo, z, G, K, bs, br, rg, lr, D) : Tst)) rfl rfl (Eq.refl 59) ?_
            refine Tr.iastN dX6_isRing_59 rfl (by omega) (by decide) (Eq.refl 60) ?_
            refine Tr.pic (w' := trX E ad 0 V X P L O S3 (upN W3 i (plc V c)) ch mo z G K bs br rg lr (D 0) (D 1) (D 2) (D 3) (D 4)) (by unfold trX; rw [cl_upN]; rfl) ?_
            refine Tr.aload_n (i := 0) dX6_isRing_60 rfl rfl (Eq.refl 61) ?_
            refine Tr.iload_n (i := 1) dX6_isRing_61 rfl rfl (Eq.refl 62) ?_
            refine Tr.callVs (c_gainByWishes E ad (V, X, P, L, O, S3, upN W3 i (plc V c), ch, mo, z, G, K, bs, br, rg, lr, D) i (hK _ _) hW4 hi) dX6_isRing_62 (kX6_205 (Nat.le_of_ble_eq_true rfl)) iX6_gainByWishes rfl rfl rfl rfl rfl (trC_le _ _ _ ((V, X, P, L, O, S, W, ch, mo, z, G, K, bs, br, rg, lr, D) : Tst) ((V, X, P, L, O, S, W, ch, mo, z, G, K, bs, br, rg, lr, D) : Tst)) rfl rfl (Eq.refl 65) ?_
            refine Tr.pic (w' := trX E ad 0 V X P L O (gon V L (upN W3 i (plc V c)) O) (upN W3 i (plc V c)) ch mo z G K bs br rg lr (D 0) (D 1) (D 2) (D 3) (D 4)) rfl ?_
            refine Tr.iload_n (i := 2) dX6_isRing_65 rfl rfl (Eq.refl 66) ?_
            refine Tr.icmp_leL (tgt := 71) dX6_isRing_66 (by decide) (Eq.refl 69) (fun h66 => ?_) (fun h66 => ?_)
            · have h66 : ¬ g < ltS (gon V L (upN W3 i (plc V c)) O) i := h66
              rw [decide_eq_false h66] at hu2
              rw [hu2] at ih2
              refine Tr.iincN dX6_isRing_71 rfl rfl rfl (Eq.refl 74) ?_
              refine Tr.goto (pc' := 38) dX6_isRing_74 (by decide) ?_
              exact Tr.eqs rfl rfl rfl (ih2 rfl)
            · have h66 : g < ltS (gon V L (upN W3 i (plc V c)) O) i := h66
              rw [decide_eq_true h66] at hu2
              rw [hu2] at hf2
              have hz := hf2 rfl
              refine Tr.iconst (v := nI 0) dX6_isRing_69 (icN 0) (Eq.refl 70) ?_
              refine Tr.iret dX6_isRing_70 rfl (by first | rfl | exact bI_nar _) ?_ ?_
              · rw [hz]; rfl
              · rw [hz]
