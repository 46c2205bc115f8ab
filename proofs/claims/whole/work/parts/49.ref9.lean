/-! THE REFERENCE: rests, rings -/
def irC (G : Nat → Int32) (x p wo wt k : Nat) (_ : Unit) : Bool × Unit := (!decide (G (5 * x + p) < G (5 * (wo + k * wt) + p)), ())
/-- no other choice of p's is better in the row x -/
def irP (V : Vil) (G : Nat → Int32) (x p : Nat) : Bool × Unit := itB (irC G x p (x - dgR V x p * wtR V p) (wtR V p)) () (nhV V + 1)
def irS (V : Vil) (t : Nat) (G : Nat → Int32) (x p : Nat) (_ : Unit) : Bool × Unit := if wkB V p t then (decide (wsR V x p = 5), ()) else irP V G x p
def irB (V : Vil) (t : Nat) (G : Nat → Int32) (x : Nat) : Bool := (itB (irS V t G x) () (npV V)).1
def hrS (V : Vil) (G : Nat → Int32) (x p : Nat) (_ : Unit) : Bool × Unit := if hoV V p < 5 then irP V G x p else (true, ())
def hrB (V : Vil) (G : Nat → Int32) (x : Nat) : Bool := (itB (hrS V G x) () (npV V)).1
set_option maxHeartbeats 4000000 in
set_option maxRecDepth 100000 in
theorem m_isRest (E : EnvT) (ad r : Nat → Nat) (i : Nat → Int32) (V : Vil) (o : Ovr) (lg ll : Int32) (W : Nat → Nat) (B f g : Nat → Int32) (bp : Nat → Nat) (G : Nat → Int32) (S : Scn) (P : Nat → Nat) (L : Nat → Int32) (a : Nat) (x : Nat) (hV : Vok V) (ht : psS S < 2 ^ 29) (hx : x < rwN V) : Md E mX10_isRest ad [.ref (ad 0), .int (nI x)] (mtC E ad r i V o lg ll W B f (rwF S P L a) bp G) (some (.int (bI (irB V (psS S) G x)))) (mtC E ad r i V o lg ll W B f (rwF S P L a) bp G) := by
  show Md E _ ad _ _ (some (.int (bI (itB (irS V (psS S) G x) () (npV V)).1))) _
  have v1 := hV.1
  have v2 := hV.2.1
  have hr := rwN_le hV
  generalize hR : itB (irS V (psS S) G x) () (npV V) = R
  refine Md.of 3 (by decide) rfl rfl ?_
  refine Tr.iconst (v := nI 0) dX10_isRest_0 (icN 0) (Eq.refl 1) ?_
  refine Tr.istore_n (i := 2) dX10_isRest_1 rfl rfl rfl (Eq.refl 2) ?_
  refine Tr.mask [true, true, true, true, true] (lv' := [some (.ref (ad 0)), some (.int (nI x)), some (.int (nI 0)), none, none]) rfl ?_
  refine loopD (P := fun j => (itB (irS V (psS S) G x) () j).1 = true → Tr _ 0 0 2 [some (.ref (ad 0)), some (.int (nI x)), some (.int (nI j)), none, none] [] (mtC E ad r i V o lg ll W B f (rwF S P L a) bp G)) (npV V) (fun hn => ?_) (fun j hj ih hn => ?_) rfl
  · rw [hR] at hn
    refine Tr.iload_n (i := 2) dX10_isRest_2 rfl rfl (Eq.refl 3) ?_
    refine Tr.aload_n (i := 0) dX10_isRest_3 rfl rfl (Eq.refl 4) ?_
    refine Tr.getf dX10_isRest_4 fX10_285 rfl rfl (Eq.refl 7) ?_
    refine Tr.icmp_geN (tgt := 115) dX10_isRest_7 (by decide) (Eq.refl 10) (by omega) (by omega) (fun h7 => ?_) (fun h7 => ?_)
    · refine Tr.iconst (v := nI 1) dX10_isRest_115 (icN 1) (Eq.refl 116) ?_
      refine Tr.iret dX10_isRest_116 rfl (by first | rfl | exact bI_nar _) ?_ ?_
      · rw [hn]; rfl
      · rfl
    · exact absurd h7 (by omega)
  · have hs := itB_s hn
    have hf : (itB (irS V (psS S) G x) () (j + 1)).1 = false → R = itB (irS V (psS S) G x) () (j + 1) := fun z9 => by rw [← hR]; exact itB_fr (Nat.succ_le_of_lt hj) z9
    rw [hs] at ih hf
    have hw := wtR_le hV j
    have hw0 := wtR_pos V j
    have hd := dgR_lt V x j
    have hdm := dgR_mul V x j
    have hdv : x / wtR V j < 2 ^ 31 := Nat.lt_of_le_of_lt (Nat.div_le_self _ _) (by omega)
    have k6 : nI x - nI (dgR V x j * wtR V j) = nI (x - dgR V x j * wtR V j) := pk_sub hdm
    have hu : irS V (psS S) G x j (itB (irS V (psS S) G x) () j).2 = if wkB V j (psS S) then (decide (wsR V x j = 5), ()) else irP V G x j := rfl
    rw [hu] at ih hf
    clear hu hs
    have hwo := wsR_ok V x j
    refine Tr.iload_n (i := 2) dX10_isRest_2 rfl rfl (Eq.refl 3) ?_
    refine Tr.aload_n (i := 0) dX10_isRest_3 rfl rfl (Eq.refl 4) ?_
    refine Tr.getf dX10_isRest_4 fX10_285 rfl rfl (Eq.refl 7) ?_
    refine Tr.icmp_geN (tgt := 115) dX10_isRest_7 (by decide) (Eq.refl 10) (by omega) (by omega) (fun h7 => ?_) (fun h7 => ?_)
    · exact absurd h7 (by omega)
    · refine Tr.aload_n (i := 0) dX10_isRest_10 rfl rfl (Eq.refl 11) ?_
      refine Tr.aload_n (i := 0) dX10_isRest_11 rfl rfl (Eq.refl 12) ?_
      refine Tr.getf dX10_isRest_12 fX10_219 rfl rfl (Eq.refl 15) ?_
      refine Tr.iload_n (i := 2) dX10_isRest_15 rfl rfl (Eq.refl 16) ?_
      refine Tr.callVr (L := [0, 1, 2, 3, 4, 5, 6, 7, 8, 10]) (m_works E _ (rT ad r) (iT lg ll i) V o W B S P L a j hV hj (by omega)) dX10_isRest_16 (kX10_338 (Nat.le_of_ble_eq_true rfl)) iX10_works rfl rfl rfl rfl rfl rfl rfl rfl rfl (Eq.refl 19) ?_
      refine Tr.if_eqB (tgt := 34) dX10_isRest_19 (by decide) (Eq.refl 22) (fun h19 => ?_) (fun h19 => ?_)
      · rw [if_neg (by rw [h19]; decide)] at ih hf
        refine Tr.iload_n (i := 1) dX10_isRest_34 rfl rfl (Eq.refl 35) ?_
        refine Tr.iload_n (i := 1) dX10_isRest_35 rfl rfl (Eq.refl 36) ?_
        refine Tr.aload_n (i := 0) dX10_isRest_36 rfl rfl (Eq.refl 37) ?_
        refine Tr.iload_n (i := 2) dX10_isRest_37 rfl rfl (Eq.refl 38) ?_
        refine Tr.callVr (L := [0]) (m_weight E _ (rP ad r) (iP V o lg ll i) V j hV hj) dX10_isRest_38 (kX10_419 (Nat.le_of_ble_eq_true rfl)) iX10_weight rfl rfl rfl rfl rfl rfl rfl rfl rfl (Eq.refl 41) ?_
        refine Tr.idiv dX10_isRest_41 (nI_ne0 hw0 (by omega)) (Eq.refl 42) ?_
        rw [pk_div (by omega) hw0 (by omega)]
        refine Tr.aload_n (i := 0) dX10_isRest_42 rfl rfl (Eq.refl 43) ?_
        refine Tr.getf dX10_isRest_43 fX10_282 rfl rfl (Eq.refl 46) ?_
        refine Tr.iconst (v := nI 1) dX10_isRest_46 (icN 1) (Eq.refl 47) ?_
        refine Tr.iaddN dX10_isRest_47 (Eq.refl 48) ?_
        refine Tr.irem dX10_isRest_48 (nI_ne0 (by omega) (by omega)) (Eq.refl 49) ?_
        rw [pk_rem hdv (by omega) (by omega)]
        refine Tr.top (y := nI (dgR V x j)) rfl ?_
        refine Tr.aload_n (i := 0) dX10_isRest_49 rfl rfl (Eq.refl 50) ?_
        refine Tr.iload_n (i := 2) dX10_isRest_50 rfl rfl (Eq.refl 51) ?_
        refine Tr.callVr (L := [0]) (m_weight E _ (rP ad r) (iP V o lg ll i) V j hV hj) dX10_isRest_51 (kX10_419 (Nat.le_of_ble_eq_true rfl)) iX10_weight rfl rfl rfl rfl rfl rfl rfl rfl rfl (Eq.refl 54) ?_
        refine Tr.imulN dX10_isRest_54 (Eq.refl 55) ?_
        refine Tr.isub dX10_isRest_55 (Eq.refl 56) ?_
        rw [k6]
        refine Tr.istore_n (i := 3) dX10_isRest_56 rfl rfl rfl (Eq.refl 57) ?_
        refine Tr.iconst (v := nI 0) dX10_isRest_57 (icN 0) (Eq.refl 58) ?_
        refine Tr.istore dX10_isRest_58 rfl rfl (Eq.refl 60) ?_
        skip
        refine Tr.mask [true, true, true, true, true] (lv' := [some (.ref (ad 0)), some (.int (nI x)), some (.int (nI j)), some (.int (nI (x - dgR V x j * wtR V j))), some (.int (nI 0))]) rfl ?_
        refine loopD (P := fun k => (itB (irC G x j (x - dgR V x j * wtR V j) (wtR V j)) () k).1 = true → Tr _ 0 0 60 [some (.ref (ad 0)), some (.int (nI x)), some (.int (nI j)), some (.int (nI (x - dgR V x j * wtR V j))), some (.int (nI k))] [] (mtC E ad r i V o lg ll W B f (rwF S P L a) bp G)) (nhV V + 1) (fun hm => ?_) (fun k hk ih2 hm => ?_) rfl
        · refine Tr.iload dX10_isRest_60 rfl (Eq.refl 62) ?_
          refine Tr.aload_n (i := 0) dX10_isRest_62 rfl rfl (Eq.refl 63) ?_
          refine Tr.getf dX10_isRest_63 fX10_282 rfl rfl (Eq.refl 66) ?_
          refine Tr.icmp_gtN (tgt := 109) dX10_isRest_66 (by decide) (Eq.refl 69) (by omega) (by omega) (fun h66 => ?_) (fun h66 => ?_)
          · refine Tr.iincN dX10_isRest_109 rfl rfl rfl (Eq.refl 112) ?_
            refine Tr.goto (pc' := 2) dX10_isRest_112 (by decide) ?_
            exact Tr.mask [true, true, true, false, false] rfl (ih hm)
          · exact absurd h66 (by omega)
        · have hs2 := itB_s hm
          have hf2 : (itB (irC G x j (x - dgR V x j * wtR V j) (wtR V j)) () (k + 1)).1 = false → R.1 = false := fun z9 => by
            have hz := itB_fr (Nat.succ_le_of_lt hk) z9
            rw [hf (by rw [irP, hz]; exact z9), irP, hz]
            exact z9
          rw [hs2] at ih2 hf2
          have hu2 : irC G x j (x - dgR V x j * wtR V j) (wtR V j) k (itB (irC G x j (x - dgR V x j * wtR V j) (wtR V j)) () k).2 = (!decide (G (5 * x + j) < G (5 * (x - dgR V x j * wtR V j + k * wtR V j) + j)), ()) := rfl
          rw [hu2] at ih2 hf2
          clear hu2 hs2
          have hrl := row_lt hj hx hk
          refine Tr.iload dX10_isRest_60 rfl (Eq.refl 62) ?_
          refine Tr.aload_n (i := 0) dX10_isRest_62 rfl rfl (Eq.refl 63) ?_
          refine Tr.getf dX10_isRest_63 fX10_282 rfl rfl (Eq.refl 66) ?_
          refine Tr.icmp_gtN (tgt := 109) dX10_isRest_66 (by decide) (Eq.refl 69) (by omega) (by omega) (fun h66 => ?_) (fun h66 => ?_)
          · exact absurd h66 (by omega)
          · refine Tr.aload_n (i := 0) dX10_isRest_69 rfl rfl (Eq.refl 70) ?_
            refine Tr.getf dX10_isRest_70 fX10_253 rfl rfl (Eq.refl 73) ?_
            refine Tr.iconst (v := nI 5) dX10_isRest_73 (icN 5) (Eq.refl 74) ?_
            refine Tr.iload_n (i := 3) dX10_isRest_74 rfl rfl (Eq.refl 75) ?_
            refine Tr.iload dX10_isRest_75 rfl (Eq.refl 77) ?_
            refine Tr.aload_n (i := 0) dX10_isRest_77 rfl rfl (Eq.refl 78) ?_
            refine Tr.iload_n (i := 2) dX10_isRest_78 rfl rfl (Eq.refl 79) ?_
            refine Tr.callVr (L := [0]) (m_weight E _ (rP ad r) (iP V o lg ll i) V j hV hj) dX10_isRest_79 (kX10_419 (Nat.le_of_ble_eq_true rfl)) iX10_weight rfl rfl rfl rfl rfl rfl rfl rfl rfl (Eq.refl 82) ?_
            refine Tr.imulN dX10_isRest_82 (Eq.refl 83) ?_
            refine Tr.iaddN dX10_isRest_83 (Eq.refl 84) ?_
            refine Tr.imulN dX10_isRest_84 (Eq.refl 85) ?_
            refine Tr.iload_n (i := 2) dX10_isRest_85 rfl rfl (Eq.refl 86) ?_
            refine Tr.iaddN dX10_isRest_86 (Eq.refl 87) ?_
            refine Tr.ialdN dX10_isRest_87 rfl (by omega) (by decide) (Eq.refl 88) ?_
            refine Tr.aload_n (i := 0) dX10_isRest_88 rfl rfl (Eq.refl 89) ?_
            refine Tr.getf dX10_isRest_89 fX10_253 rfl rfl (Eq.refl 92) ?_
            refine Tr.iconst (v := nI 5) dX10_isRest_92 (icN 5) (Eq.refl 93) ?_
            refine Tr.iload_n (i := 1) dX10_isRest_93 rfl rfl (Eq.refl 94) ?_
            refine Tr.imulN dX10_isRest_94 (Eq.refl 95) ?_
            refine Tr.iload_n (i := 2) dX10_isRest_95 rfl rfl (Eq.refl 96) ?_
            refine Tr.iaddN dX10_isRest_96 (Eq.refl 97) ?_
            refine Tr.ialdN dX10_isRest_97 rfl (by omega) (by decide) (Eq.refl 98) ?_
            refine Tr.icmp_leL (tgt := 103) dX10_isRest_98 (by decide) (Eq.refl 101) (fun h98 => ?_) (fun h98 => ?_)
            · refine Tr.iincN dX10_isRest_103 rfl rfl rfl (Eq.refl 106) ?_
              refine Tr.goto (pc' := 60) dX10_isRest_106 (by decide) ?_
              exact ih2 (by have h9 := h98; simp; first | exact h9 | omega | exact Int32.not_lt.mp h9)
            · refine Tr.iconst (v := nI 0) dX10_isRest_101 (icN 0) (Eq.refl 102) ?_
              refine Tr.iret dX10_isRest_102 rfl (by first | rfl | exact bI_nar _) ?_ ?_
              · rw [hf2 (by have h9 := h98; simp; first | exact h9 | exact Int32.not_le.mp h9)]; rfl
              · rfl
      · rw [if_pos h19] at ih hf
        refine Tr.aload_n (i := 0) dX10_isRest_22 rfl rfl (Eq.refl 23) ?_
        refine Tr.iload_n (i := 1) dX10_isRest_23 rfl rfl (Eq.refl 24) ?_
        refine Tr.iload_n (i := 2) dX10_isRest_24 rfl rfl (Eq.refl 25) ?_
        refine Tr.callVr (L := [0]) (m_wished E _ (rP ad r) (iP V o lg ll i) V x j hV hj (by omega)) dX10_isRest_25 (kX10_422 (Nat.le_of_ble_eq_true rfl)) iX10_wished rfl rfl rfl rfl rfl rfl rfl rfl rfl (Eq.refl 28) ?_
        refine Tr.iconst (v := nI 5) dX10_isRest_28 (icN 5) (Eq.refl 29) ?_
        refine Tr.icmp_eqN (tgt := 109) dX10_isRest_29 (by decide) (Eq.refl 32) (by omega) (by omega) (fun h29 => ?_) (fun h29 => ?_)
        · refine Tr.iincN dX10_isRest_109 rfl rfl rfl (Eq.refl 112) ?_
          refine Tr.goto (pc' := 2) dX10_isRest_112 (by decide) ?_
          exact Tr.mask [true, true, true, false, false] rfl (ih (by simp [h29]))
        · refine Tr.iconst (v := nI 0) dX10_isRest_32 (icN 0) (Eq.refl 33) ?_
          refine Tr.iret dX10_isRest_33 rfl (by first | rfl | exact bI_nar _) ?_ ?_
          · rw [hf (by simp [h29])]; simp [h29]; rfl
          · rfl
set_option maxHeartbeats 4000000 in
set_option maxRecDepth 100000 in
theorem m_holds (E : EnvT) (ad r : Nat → Nat) (i : Nat → Int32) (V : Vil) (o : Ovr) (lg ll : Int32) (W : Nat → Nat) (B f g : Nat → Int32) (bp : Nat → Nat) (G : Nat → Int32) (S : Scn) (P : Nat → Nat) (L : Nat → Int32) (a : Nat) (x : Nat) (hV : Vok V) (hx : x < rwN V) : Md E mX10_holds ad [.ref (ad 0), .int (nI x)] (mtC E ad r i V o lg ll W B f (rwF S P L a) bp G) (some (.int (bI (hrB V G x)))) (mtC E ad r i V o lg ll W B f (rwF S P L a) bp G) := by
  show Md E _ ad _ _ (some (.int (bI (itB (hrS V G x) () (npV V)).1))) _
  have v1 := hV.1
  have v2 := hV.2.1
  have hr := rwN_le hV
  generalize hR : itB (hrS V G x) () (npV V) = R
  refine Md.of 3 (by decide) rfl rfl ?_
  refine Tr.iconst (v := nI 0) dX10_holds_0 (icN 0) (Eq.refl 1) ?_
  refine Tr.istore_n (i := 2) dX10_holds_1 rfl rfl rfl (Eq.refl 2) ?_
  refine Tr.mask [true, true, true, true, true] (lv' := [some (.ref (ad 0)), some (.int (nI x)), some (.int (nI 0)), none, none]) rfl ?_
  refine loopD (P := fun j => (itB (hrS V G x) () j).1 = true → Tr _ 0 0 2 [some (.ref (ad 0)), some (.int (nI x)), some (.int (nI j)), none, none] [] (mtC E ad r i V o lg ll W B f (rwF S P L a) bp G)) (npV V) (fun hn => ?_) (fun j hj ih hn => ?_) rfl
  · rw [hR] at hn
    refine Tr.iload_n (i := 2) dX10_holds_2 rfl rfl (Eq.refl 3) ?_
    refine Tr.aload_n (i := 0) dX10_holds_3 rfl rfl (Eq.refl 4) ?_
    refine Tr.getf dX10_holds_4 fX10_285 rfl rfl (Eq.refl 7) ?_
    refine Tr.icmp_geN (tgt := 104) dX10_holds_7 (by decide) (Eq.refl 10) (by omega) (by omega) (fun h7 => ?_) (fun h7 => ?_)
    · refine Tr.iconst (v := nI 1) dX10_holds_104 (icN 1) (Eq.refl 105) ?_
      refine Tr.iret dX10_holds_105 rfl (by first | rfl | exact bI_nar _) ?_ ?_
      · rw [hn]; rfl
      · rfl
    · exact absurd h7 (by omega)
  · have hs := itB_s hn
    have hf : (itB (hrS V G x) () (j + 1)).1 = false → R = itB (hrS V G x) () (j + 1) := fun z9 => by rw [← hR]; exact itB_fr (Nat.succ_le_of_lt hj) z9
    rw [hs] at ih hf
    have hw := wtR_le hV j
    have hw0 := wtR_pos V j
    have hd := dgR_lt V x j
    have hdm := dgR_mul V x j
    have hdv : x / wtR V j < 2 ^ 31 := Nat.lt_of_le_of_lt (Nat.div_le_self _ _) (by omega)
    have k6 : nI x - nI (dgR V x j * wtR V j) = nI (x - dgR V x j * wtR V j) := pk_sub hdm
    have hu : hrS V G x j (itB (hrS V G x) () j).2 = if hoV V j < 5 then irP V G x j else (true, ()) := rfl
    rw [hu] at ih hf
    clear hu hs
    refine Tr.iload_n (i := 2) dX10_holds_2 rfl rfl (Eq.refl 3) ?_
    refine Tr.aload_n (i := 0) dX10_holds_3 rfl rfl (Eq.refl 4) ?_
    refine Tr.getf dX10_holds_4 fX10_285 rfl rfl (Eq.refl 7) ?_
    refine Tr.icmp_geN (tgt := 104) dX10_holds_7 (by decide) (Eq.refl 10) (by omega) (by omega) (fun h7 => ?_) (fun h7 => ?_)
    · exact absurd h7 (by omega)
    · refine Tr.aload_n (i := 0) dX10_holds_10 rfl rfl (Eq.refl 11) ?_
      refine Tr.getf dX10_holds_11 fX10_212 rfl rfl (Eq.refl 14) ?_
      refine Tr.iload_n (i := 2) dX10_holds_14 rfl rfl (Eq.refl 15) ?_
      refine Tr.ialdN dX10_holds_15 rfl (by omega) (by decide) (Eq.refl 16) ?_
      refine Tr.iconst (v := (-1)) dX10_holds_16 (by decide +kernel) (Eq.refl 17) ?_
      refine Tr.icmp_ne (tgt := 23) dX10_holds_17 (by decide) (Eq.refl 20) (fun h17 => ?_) (fun h17 => ?_)
      · rw [cl_none] at h17
        rw [if_pos (by omega)] at ih hf
        refine Tr.iload_n (i := 1) dX10_holds_23 rfl rfl (Eq.refl 24) ?_
        refine Tr.iload_n (i := 1) dX10_holds_24 rfl rfl (Eq.refl 25) ?_
        refine Tr.aload_n (i := 0) dX10_holds_25 rfl rfl (Eq.refl 26) ?_
        refine Tr.iload_n (i := 2) dX10_holds_26 rfl rfl (Eq.refl 27) ?_
        refine Tr.callVr (L := [0]) (m_weight E _ (rP ad r) (iP V o lg ll i) V j hV hj) dX10_holds_27 (kX10_419 (Nat.le_of_ble_eq_true rfl)) iX10_weight rfl rfl rfl rfl rfl rfl rfl rfl rfl (Eq.refl 30) ?_
        refine Tr.idiv dX10_holds_30 (nI_ne0 hw0 (by omega)) (Eq.refl 31) ?_
        rw [pk_div (by omega) hw0 (by omega)]
        refine Tr.aload_n (i := 0) dX10_holds_31 rfl rfl (Eq.refl 32) ?_
        refine Tr.getf dX10_holds_32 fX10_282 rfl rfl (Eq.refl 35) ?_
        refine Tr.iconst (v := nI 1) dX10_holds_35 (icN 1) (Eq.refl 36) ?_
        refine Tr.iaddN dX10_holds_36 (Eq.refl 37) ?_
        refine Tr.irem dX10_holds_37 (nI_ne0 (by omega) (by omega)) (Eq.refl 38) ?_
        rw [pk_rem hdv (by omega) (by omega)]
        refine Tr.top (y := nI (dgR V x j)) rfl ?_
        refine Tr.aload_n (i := 0) dX10_holds_38 rfl rfl (Eq.refl 39) ?_
        refine Tr.iload_n (i := 2) dX10_holds_39 rfl rfl (Eq.refl 40) ?_
        refine Tr.callVr (L := [0]) (m_weight E _ (rP ad r) (iP V o lg ll i) V j hV hj) dX10_holds_40 (kX10_419 (Nat.le_of_ble_eq_true rfl)) iX10_weight rfl rfl rfl rfl rfl rfl rfl rfl rfl (Eq.refl 43) ?_
        refine Tr.imulN dX10_holds_43 (Eq.refl 44) ?_
        refine Tr.isub dX10_holds_44 (Eq.refl 45) ?_
        rw [k6]
        refine Tr.istore_n (i := 3) dX10_holds_45 rfl rfl rfl (Eq.refl 46) ?_
        refine Tr.iconst (v := nI 0) dX10_holds_46 (icN 0) (Eq.refl 47) ?_
        refine Tr.istore dX10_holds_47 rfl rfl (Eq.refl 49) ?_
        skip
        refine Tr.mask [true, true, true, true, true] (lv' := [some (.ref (ad 0)), some (.int (nI x)), some (.int (nI j)), some (.int (nI (x - dgR V x j * wtR V j))), some (.int (nI 0))]) rfl ?_
        refine loopD (P := fun k => (itB (irC G x j (x - dgR V x j * wtR V j) (wtR V j)) () k).1 = true → Tr _ 0 0 49 [some (.ref (ad 0)), some (.int (nI x)), some (.int (nI j)), some (.int (nI (x - dgR V x j * wtR V j))), some (.int (nI k))] [] (mtC E ad r i V o lg ll W B f (rwF S P L a) bp G)) (nhV V + 1) (fun hm => ?_) (fun k hk ih2 hm => ?_) rfl
        · refine Tr.iload dX10_holds_49 rfl (Eq.refl 51) ?_
          refine Tr.aload_n (i := 0) dX10_holds_51 rfl rfl (Eq.refl 52) ?_
          refine Tr.getf dX10_holds_52 fX10_282 rfl rfl (Eq.refl 55) ?_
          refine Tr.icmp_gtN (tgt := 98) dX10_holds_55 (by decide) (Eq.refl 58) (by omega) (by omega) (fun h55 => ?_) (fun h55 => ?_)
          · refine Tr.iincN dX10_holds_98 rfl rfl rfl (Eq.refl 101) ?_
            refine Tr.goto (pc' := 2) dX10_holds_101 (by decide) ?_
            exact Tr.mask [true, true, true, false, false] rfl (ih hm)
          · exact absurd h55 (by omega)
        · have hs2 := itB_s hm
          have hf2 : (itB (irC G x j (x - dgR V x j * wtR V j) (wtR V j)) () (k + 1)).1 = false → R.1 = false := fun z9 => by
            have hz := itB_fr (Nat.succ_le_of_lt hk) z9
            rw [hf (by rw [irP, hz]; exact z9), irP, hz]
            exact z9
          rw [hs2] at ih2 hf2
          have hu2 : irC G x j (x - dgR V x j * wtR V j) (wtR V j) k (itB (irC G x j (x - dgR V x j * wtR V j) (wtR V j)) () k).2 = (!decide (G (5 * x + j) < G (5 * (x - dgR V x j * wtR V j + k * wtR V j) + j)), ()) := rfl
          rw [hu2] at ih2 hf2
          clear hu2 hs2
          have hrl := row_lt hj hx hk
          refine Tr.iload dX10_holds_49 rfl (Eq.refl 51) ?_
          refine Tr.aload_n (i := 0) dX10_holds_51 rfl rfl (Eq.refl 52) ?_
          refine Tr.getf dX10_holds_52 fX10_282 rfl rfl (Eq.refl 55) ?_
          refine Tr.icmp_gtN (tgt := 98) dX10_holds_55 (by decide) (Eq.refl 58) (by omega) (by omega) (fun h55 => ?_) (fun h55 => ?_)
          · exact absurd h55 (by omega)
          · refine Tr.aload_n (i := 0) dX10_holds_58 rfl rfl (Eq.refl 59) ?_
            refine Tr.getf dX10_holds_59 fX10_253 rfl rfl (Eq.refl 62) ?_
            refine Tr.iconst (v := nI 5) dX10_holds_62 (icN 5) (Eq.refl 63) ?_
            refine Tr.iload_n (i := 3) dX10_holds_63 rfl rfl (Eq.refl 64) ?_
            refine Tr.iload dX10_holds_64 rfl (Eq.refl 66) ?_
            refine Tr.aload_n (i := 0) dX10_holds_66 rfl rfl (Eq.refl 67) ?_
            refine Tr.iload_n (i := 2) dX10_holds_67 rfl rfl (Eq.refl 68) ?_
            refine Tr.callVr (L := [0]) (m_weight E _ (rP ad r) (iP V o lg ll i) V j hV hj) dX10_holds_68 (kX10_419 (Nat.le_of_ble_eq_true rfl)) iX10_weight rfl rfl rfl rfl rfl rfl rfl rfl rfl (Eq.refl 71) ?_
            refine Tr.imulN dX10_holds_71 (Eq.refl 72) ?_
            refine Tr.iaddN dX10_holds_72 (Eq.refl 73) ?_
            refine Tr.imulN dX10_holds_73 (Eq.refl 74) ?_
            refine Tr.iload_n (i := 2) dX10_holds_74 rfl rfl (Eq.refl 75) ?_
            refine Tr.iaddN dX10_holds_75 (Eq.refl 76) ?_
            refine Tr.ialdN dX10_holds_76 rfl (by omega) (by decide) (Eq.refl 77) ?_
            refine Tr.aload_n (i := 0) dX10_holds_77 rfl rfl (Eq.refl 78) ?_
            refine Tr.getf dX10_holds_78 fX10_253 rfl rfl (Eq.refl 81) ?_
            refine Tr.iconst (v := nI 5) dX10_holds_81 (icN 5) (Eq.refl 82) ?_
            refine Tr.iload_n (i := 1) dX10_holds_82 rfl rfl (Eq.refl 83) ?_
            refine Tr.imulN dX10_holds_83 (Eq.refl 84) ?_
            refine Tr.iload_n (i := 2) dX10_holds_84 rfl rfl (Eq.refl 85) ?_
            refine Tr.iaddN dX10_holds_85 (Eq.refl 86) ?_
            refine Tr.ialdN dX10_holds_86 rfl (by omega) (by decide) (Eq.refl 87) ?_
            refine Tr.icmp_leL (tgt := 92) dX10_holds_87 (by decide) (Eq.refl 90) (fun h87 => ?_) (fun h87 => ?_)
            · refine Tr.iincN dX10_holds_92 rfl rfl rfl (Eq.refl 95) ?_
              refine Tr.goto (pc' := 49) dX10_holds_95 (by decide) ?_
              exact ih2 (by have h9 := h87; simp; first | exact h9 | omega | exact Int32.not_lt.mp h9)
            · refine Tr.iconst (v := nI 0) dX10_holds_90 (icN 0) (Eq.refl 91) ?_
              refine Tr.iret dX10_holds_91 rfl (by first | rfl | exact bI_nar _) ?_ ?_
              · rw [hf2 (by have h9 := h87; simp; first | exact h9 | exact Int32.not_le.mp h9)]; rfl
              · rfl
      · rw [cl_none] at h17
        rw [if_neg h17] at ih hf
        refine Tr.goto (pc' := 98) dX10_holds_20 (by decide) ?_
        refine Tr.iincN dX10_holds_98 rfl rfl rfl (Eq.refl 101) ?_
        refine Tr.goto (pc' := 2) dX10_holds_101 (by decide) ?_
        exact Tr.mask [true, true, true, false, false] rfl (ih rfl)
/-- the first so many go round: the set of wished houses, how many -/
def igS (V : Vil) (P : Nat → Nat) (t x p : Nat) (s : Int32 × Nat) : Bool × Int32 × Nat :=
  if hoV V p < 5 then (if wkB V p t || decide (wsR V x p = 5) || decide (wsR V x p = hoV V p) || !decide (owV V (wsR V x p) < 5) || bt s.1 (wsR V x p) then (false, s) else (true, s.1 ||| (nI 1 <<< (nI (wsR V x p) &&& 31)), s.2 + 1))
  else (decide (wsR V x p = if wkB V p t then 5 else P (p * 4 + t % 4)), s)
def igB (V : Vil) (P : Nat → Nat) (t x : Nat) : Bool := (itB (igS V P t x) (nI 0, 0) (npV V)).1 && decide (1 < (itB (igS V P t x) (nI 0, 0) (npV V)).2.2)
theorem igS_n (V : Vil) (P : Nat → Nat) (t x : Nat) : ∀ n, (itB (igS V P t x) (nI 0, 0) n).2.2 ≤ n := by
  intro n
  induction n with
  | zero => exact Nat.le_refl 0
  | succ n ih =>
    by_cases h2 : (itB (igS V P t x) (nI 0, 0) n).1 = true
    · rw [itB_s h2]
      unfold igS
      split
      · split
        · exact Nat.le_succ_of_le ih
        · exact Nat.succ_le_succ ih
      · exact Nat.le_succ_of_le ih
    · rw [itB_fr (Nat.le_succ n) (bnt h2)]
      exact Nat.le_succ_of_le ih
set_option maxHeartbeats 4000000 in
set_option maxRecDepth 100000 in
theorem m_isRing (E : EnvT) (ad r : Nat → Nat) (i : Nat → Int32) (V : Vil) (o : Ovr) (lg ll : Int32) (W : Nat → Nat) (B f g : Nat → Int32) (bp : Nat → Nat) (G : Nat → Int32) (S : Scn) (P : Nat → Nat) (L : Nat → Int32) (a : Nat) (x : Nat) (hV : Vok V) (hP : Pok V P) (ht : psS S < 2 ^ 29) (hx : x < rwN V) : Md E mX10_isRing ad [.ref (ad 0), .int (nI x)] (mtC E ad r i V o lg ll W B f (rwF S P L a) bp G) (some (.int (bI (igB V P (psS S) x)))) (mtC E ad r i V o lg ll W B f (rwF S P L a) bp G) := by
  have v1 := hV.1
  have v2 := hV.2.1
  have hr := rwN_le hV
  have hRn := igS_n V P (psS S) x (npV V)
  show Md E _ ad _ _ (some (.int (bI ((itB (igS V P (psS S) x) (nI 0, 0) (npV V)).1 && decide (1 < (itB (igS V P (psS S) x) (nI 0, 0) (npV V)).2.2))))) _
  generalize hR : (itB (igS V P (psS S) x) (nI 0, 0) (npV V)) = R at *
  refine Md.of 4 (by decide) rfl rfl ?_
  refine Tr.iconst (v := nI 0) dX10_isRing_0 (icN 0) (Eq.refl 1) ?_
  refine Tr.istore_n (i := 2) dX10_isRing_1 rfl rfl rfl (Eq.refl 2) ?_
  refine Tr.iconst (v := nI 0) dX10_isRing_2 (icN 0) (Eq.refl 3) ?_
  refine Tr.istore_n (i := 3) dX10_isRing_3 rfl rfl rfl (Eq.refl 4) ?_
  refine Tr.iconst (v := nI 0) dX10_isRing_4 (icN 0) (Eq.refl 5) ?_
  refine Tr.istore dX10_isRing_5 rfl rfl (Eq.refl 7) ?_
  refine Tr.mask [true, true, true, true, true, true] (lv' := [some (.ref (ad 0)), some (.int (nI x)), some (.int (itB (igS V P (psS S) x) (nI 0, 0) 0).2.1), some (.int (nI (itB (igS V P (psS S) x) (nI 0, 0) 0).2.2)), some (.int (nI 0)), none]) rfl ?_
  refine loopD (P := fun j => (itB (igS V P (psS S) x) (nI 0, 0) j).1 = true → Tr _ 0 0 7 [some (.ref (ad 0)), some (.int (nI x)), some (.int (itB (igS V P (psS S) x) (nI 0, 0) j).2.1), some (.int (nI (itB (igS V P (psS S) x) (nI 0, 0) j).2.2)), some (.int (nI j)), none] [] (mtC E ad r i V o lg ll W B f (rwF S P L a) bp G)) (npV V) (fun hn => ?_) (fun j hj ih hn => ?_) rfl
  · rw [hR] at hn ⊢
    refine Tr.iload dX10_isRing_7 rfl (Eq.refl 9) ?_
    refine Tr.aload_n (i := 0) dX10_isRing_9 rfl rfl (Eq.refl 10) ?_
    refine Tr.getf dX10_isRing_10 fX10_285 rfl rfl (Eq.refl 13) ?_
    refine Tr.icmp_geN (tgt := 152) dX10_isRing_13 (by decide) (Eq.refl 16) (by omega) (by omega) (fun h13 => ?_) (fun h13 => ?_)
    · refine Tr.iload_n (i := 3) dX10_isRing_152 rfl rfl (Eq.refl 153) ?_
      refine Tr.iconst (v := nI 1) dX10_isRing_153 (icN 1) (Eq.refl 154) ?_
      refine Tr.icmp_leN (tgt := 161) dX10_isRing_154 (by decide) (Eq.refl 157) (by omega) (by omega) (fun h154 => ?_) (fun h154 => ?_)
      · rw [hn, show (true && decide (1 < R.2.2)) = false from by simp [h154]]
        refine Tr.iconst (v := nI 0) dX10_isRing_161 (icN 0) (Eq.refl 162) ?_
        refine Tr.iret dX10_isRing_162 rfl (by first | rfl | exact bI_nar _) ?_ ?_
        · rfl
        · rfl
      · rw [hn, show (true && decide (1 < R.2.2)) = true from by simp; omega]
        refine Tr.iconst (v := nI 1) dX10_isRing_157 (icN 1) (Eq.refl 158) ?_
        refine Tr.goto (pc' := 162) dX10_isRing_158 (by decide) ?_
        refine Tr.iret dX10_isRing_162 rfl (by first | rfl | exact bI_nar _) ?_ ?_
        · rfl
        · rfl
    · exact absurd h13 (by omega)
  · have hs := itB_s hn
    have hf : (itB (igS V P (psS S) x) (nI 0, 0) (j + 1)).1 = false → R = (itB (igS V P (psS S) x) (nI 0, 0) (j + 1)) := fun z9 => by rw [← hR]; exact itB_fr (Nat.succ_le_of_lt hj) z9
    have hkn := igS_n V P (psS S) x j
    rw [hs] at ih hf
    generalize (itB (igS V P (psS S) x) (nI 0, 0) j).2 = s at *
    obtain ⟨st, m⟩ := s
    have hkn : m ≤ j := hkn
    have hwo := wsR_ok V x j
    have hho := hV.2.2.2.1 j hj
    have hpo := hP j hj (psS S % 4) (Nat.mod_lt _ (by decide))
    have hu : igS V P (psS S) x j (st, m) = if hoV V j < 5 then (if wkB V j (psS S) || decide (wsR V x j = 5) || decide (wsR V x j = hoV V j) || !decide (owV V (wsR V x j) < 5) || bt st (wsR V x j) then (false, (st, m)) else (true, st ||| (nI 1 <<< (nI (wsR V x j) &&& 31)), m + 1)) else (decide (wsR V x j = if wkB V j (psS S) then 5 else P (j * 4 + psS S % 4)), (st, m)) := rfl
    rw [hu] at ih hf
    clear hu hs hRn
    refine Tr.iload dX10_isRing_7 rfl (Eq.refl 9) ?_
    refine Tr.aload_n (i := 0) dX10_isRing_9 rfl rfl (Eq.refl 10) ?_
    refine Tr.getf dX10_isRing_10 fX10_285 rfl rfl (Eq.refl 13) ?_
    refine Tr.icmp_geN (tgt := 152) dX10_isRing_13 (by decide) (Eq.refl 16) (by omega) (by omega) (fun h13 => ?_) (fun h13 => ?_)
    · exact absurd h13 (by omega)
    · refine Tr.aload_n (i := 0) dX10_isRing_16 rfl rfl (Eq.refl 17) ?_
      refine Tr.iload_n (i := 1) dX10_isRing_17 rfl rfl (Eq.refl 18) ?_
      refine Tr.iload dX10_isRing_18 rfl (Eq.refl 20) ?_
      refine Tr.callVr (L := [0]) (m_wished E _ (rP ad r) (iP V o lg ll i) V x j hV hj (by omega)) dX10_isRing_20 (kX10_422 (Nat.le_of_ble_eq_true rfl)) iX10_wished rfl rfl rfl rfl rfl rfl rfl rfl rfl (Eq.refl 23) ?_
      refine Tr.istore dX10_isRing_23 rfl rfl (Eq.refl 25) ?_
      refine Tr.aload_n (i := 0) dX10_isRing_25 rfl rfl (Eq.refl 26) ?_
      refine Tr.getf dX10_isRing_26 fX10_212 rfl rfl (Eq.refl 29) ?_
      refine Tr.iload dX10_isRing_29 rfl (Eq.refl 31) ?_
      refine Tr.ialdN dX10_isRing_31 rfl (by omega) (by decide) (Eq.refl 32) ?_
      refine Tr.iconst (v := (-1)) dX10_isRing_32 (by decide +kernel) (Eq.refl 33) ?_
      refine Tr.icmp_ne (tgt := 82) dX10_isRing_33 (by decide) (Eq.refl 36) (fun h33 => ?_) (fun h33 => ?_)
      · rw [cl_none] at h33
        rw [if_pos (show hoV V j < 5 by omega)] at ih hf
        refine Tr.aload_n (i := 0) dX10_isRing_82 rfl rfl (Eq.refl 83) ?_
        refine Tr.aload_n (i := 0) dX10_isRing_83 rfl rfl (Eq.refl 84) ?_
        refine Tr.getf dX10_isRing_84 fX10_219 rfl rfl (Eq.refl 87) ?_
        refine Tr.iload dX10_isRing_87 rfl (Eq.refl 89) ?_
        refine Tr.callVr (L := [0, 1, 2, 3, 4, 5, 6, 7, 8, 10]) (m_works E _ (rT ad r) (iT lg ll i) V o W B S P L a j hV hj (by omega)) dX10_isRing_89 (kX10_338 (Nat.le_of_ble_eq_true rfl)) iX10_works rfl rfl rfl rfl rfl rfl rfl rfl rfl (Eq.refl 92) ?_
        refine Tr.if_neB (tgt := 134) dX10_isRing_92 (by decide) (Eq.refl 95) (fun h92 => ?_) (fun h92 => ?_)
        · skip
          rw [hf (by rw [if_pos (by simp [*])])]
          rw [if_pos (by simp [*])]
          refine Tr.iconst (v := nI 0) dX10_isRing_134 (icN 0) (Eq.refl 135) ?_
          refine Tr.iret dX10_isRing_135 rfl (by first | rfl | exact bI_nar _) ?_ ?_
          · rfl
          · rfl
        · refine Tr.iload dX10_isRing_95 rfl (Eq.refl 97) ?_
          refine Tr.iconst (v := nI 5) dX10_isRing_97 (icN 5) (Eq.refl 98) ?_
          refine Tr.icmp_eqN (tgt := 134) dX10_isRing_98 (by decide) (Eq.refl 101) (by omega) (by omega) (fun h98 => ?_) (fun h98 => ?_)
          · skip
            rw [hf (by rw [if_pos (by simp [*])])]
            rw [if_pos (by simp [*])]
            refine Tr.iconst (v := nI 0) dX10_isRing_134 (icN 0) (Eq.refl 135) ?_
            refine Tr.iret dX10_isRing_135 rfl (by first | rfl | exact bI_nar _) ?_ ?_
            · rfl
            · rfl
          · refine Tr.iload dX10_isRing_101 rfl (Eq.refl 103) ?_
            refine Tr.aload_n (i := 0) dX10_isRing_103 rfl rfl (Eq.refl 104) ?_
            refine Tr.getf dX10_isRing_104 fX10_212 rfl rfl (Eq.refl 107) ?_
            refine Tr.iload dX10_isRing_107 rfl (Eq.refl 109) ?_
            refine Tr.ialdN dX10_isRing_109 rfl (by omega) (by decide) (Eq.refl 110) ?_
            rw [show cl (hoV V j) = nI (hoV V j) from cl_lt (by omega)]
            refine Tr.icmp_eqN (tgt := 134) dX10_isRing_110 (by decide) (Eq.refl 113) (by omega) (by omega) (fun h110 => ?_) (fun h110 => ?_)
            · skip
              rw [hf (by rw [if_pos (by simp [*])])]
              rw [if_pos (by simp [*])]
              refine Tr.iconst (v := nI 0) dX10_isRing_134 (icN 0) (Eq.refl 135) ?_
              refine Tr.iret dX10_isRing_135 rfl (by first | rfl | exact bI_nar _) ?_ ?_
              · rfl
              · rfl
            · refine Tr.aload_n (i := 0) dX10_isRing_113 rfl rfl (Eq.refl 114) ?_
              refine Tr.getf dX10_isRing_114 fX10_209 rfl rfl (Eq.refl 117) ?_
              refine Tr.iload dX10_isRing_117 rfl (Eq.refl 119) ?_
              refine Tr.ialdN dX10_isRing_119 rfl (by omega) (by decide) (Eq.refl 120) ?_
              refine Tr.iconst (v := (-1)) dX10_isRing_120 (by decide +kernel) (Eq.refl 121) ?_
              refine Tr.icmp_eq (tgt := 134) dX10_isRing_121 (by decide) (Eq.refl 124) (fun h121 => ?_) (fun h121 => ?_)
              · rw [cl_none] at h121
                skip
                rw [hf (by rw [if_pos (by simp [*])])]
                rw [if_pos (by simp [*])]
                refine Tr.iconst (v := nI 0) dX10_isRing_134 (icN 0) (Eq.refl 135) ?_
                refine Tr.iret dX10_isRing_135 rfl (by first | rfl | exact bI_nar _) ?_ ?_
                · rfl
                · rfl
              · rw [cl_none] at h121
                refine Tr.iload_n (i := 2) dX10_isRing_124 rfl rfl (Eq.refl 125) ?_
                refine Tr.iload dX10_isRing_125 rfl (Eq.refl 127) ?_
                refine Tr.ishr dX10_isRing_127 (Eq.refl 128) ?_
                refine Tr.iconst (v := nI 1) dX10_isRing_128 (icN 1) (Eq.refl 129) ?_
                refine Tr.iand dX10_isRing_129 (Eq.refl 130) ?_
                refine Tr.iconst (v := nI 1) dX10_isRing_130 (icN 1) (Eq.refl 131) ?_
                refine Tr.icmp_ne (tgt := 136) dX10_isRing_131 (by decide) (Eq.refl 134) (fun h131 => ?_) (fun h131 => ?_)
                · have h131 : bt st (wsR V x j) = false := by simp [bt, h131]
                  skip
                  have hgd : (wkB V j (psS S) || decide (wsR V x j = 5) || decide (wsR V x j = hoV V j) || !decide (owV V (wsR V x j) < 5) || bt st (wsR V x j)) = false := by simp [*]; omega
                  rw [if_neg (by rw [hgd]; decide)] at ih
                  refine Tr.iload_n (i := 2) dX10_isRing_136 rfl rfl (Eq.refl 137) ?_
                  refine Tr.iconst (v := nI 1) dX10_isRing_137 (icN 1) (Eq.refl 138) ?_
                  refine Tr.iload dX10_isRing_138 rfl (Eq.refl 140) ?_
                  refine Tr.ishl dX10_isRing_140 (Eq.refl 141) ?_
                  refine Tr.ior dX10_isRing_141 (Eq.refl 142) ?_
                  refine Tr.istore_n (i := 2) dX10_isRing_142 rfl rfl rfl (Eq.refl 143) ?_
                  refine Tr.iincN dX10_isRing_143 rfl rfl rfl (Eq.refl 146) ?_
                  refine Tr.iincN dX10_isRing_146 rfl rfl rfl (Eq.refl 149) ?_
                  refine Tr.goto (pc' := 7) dX10_isRing_149 (by decide) ?_
                  exact Tr.mask [true, true, true, true, true, false] rfl (ih rfl)
                · have h131 : bt st (wsR V x j) = true := by simp [bt, h131]
                  skip
                  rw [hf (by rw [if_pos (by simp [*])])]
                  rw [if_pos (by simp [*])]
                  refine Tr.iconst (v := nI 0) dX10_isRing_134 (icN 0) (Eq.refl 135) ?_
                  refine Tr.iret dX10_isRing_135 rfl (by first | rfl | exact bI_nar _) ?_ ?_
                  · rfl
                  · rfl
      · rw [cl_none] at h33
        rw [if_neg h33] at ih hf
        refine Tr.iload dX10_isRing_36 rfl (Eq.refl 38) ?_
        refine Tr.aload_n (i := 0) dX10_isRing_38 rfl rfl (Eq.refl 39) ?_
        refine Tr.aload_n (i := 0) dX10_isRing_39 rfl rfl (Eq.refl 40) ?_
        refine Tr.getf dX10_isRing_40 fX10_219 rfl rfl (Eq.refl 43) ?_
        refine Tr.iload dX10_isRing_43 rfl (Eq.refl 45) ?_
        refine Tr.callVr (L := [0, 1, 2, 3, 4, 5, 6, 7, 8, 10]) (m_works E _ (rT ad r) (iT lg ll i) V o W B S P L a j hV hj (by omega)) dX10_isRing_45 (kX10_338 (Nat.le_of_ble_eq_true rfl)) iX10_works rfl rfl rfl rfl rfl rfl rfl rfl rfl (Eq.refl 48) ?_
        refine Tr.if_eqB (tgt := 55) dX10_isRing_48 (by decide) (Eq.refl 51) (fun h48 => ?_) (fun h48 => ?_)
        · rw [if_neg (by rw [h48]; decide)] at ih hf
          refine Tr.aload_n (i := 0) dX10_isRing_55 rfl rfl (Eq.refl 56) ?_
          refine Tr.getf dX10_isRing_56 fX10_219 rfl rfl (Eq.refl 59) ?_
          refine Tr.bipush (v := nI 35) dX10_isRing_59 (by decide +kernel) (Eq.refl 61) ?_
          refine Tr.iconst (v := nI 4) dX10_isRing_61 (icN 4) (Eq.refl 62) ?_
          refine Tr.iload dX10_isRing_62 rfl (Eq.refl 64) ?_
          refine Tr.imulN dX10_isRing_64 (Eq.refl 65) ?_
          refine Tr.iaddN dX10_isRing_65 (Eq.refl 66) ?_
          refine Tr.aload_n (i := 0) dX10_isRing_66 rfl rfl (Eq.refl 67) ?_
          refine Tr.getf dX10_isRing_67 fX10_219 rfl rfl (Eq.refl 70) ?_
          refine Tr.bipush (v := nI 55) dX10_isRing_70 (by decide +kernel) (Eq.refl 72) ?_
          refine Tr.ialdN dX10_isRing_72 rfl (by omega) (by decide) (Eq.refl 73) ?_
          refine Tr.top (rd_ps) ?_
          refine Tr.iconst (v := nI 4) dX10_isRing_73 (icN 4) (Eq.refl 74) ?_
          refine Tr.irem dX10_isRing_74 (by decide +kernel) (Eq.refl 75) ?_
          rw [pk_rem (by omega) (by decide) (by decide)]
          refine Tr.iaddN dX10_isRing_75 (Eq.refl 76) ?_
          refine Tr.ialdN dX10_isRing_76 rfl (by omega) (by decide) (Eq.refl 77) ?_
          refine Tr.top (rd_pl' (by omega)) ?_
          refine Tr.icmp_eqN (tgt := 146) dX10_isRing_77 (by decide) (Eq.refl 80) (by omega) (by omega) (fun h77 => ?_) (fun h77 => ?_)
          · skip
            refine Tr.iincN dX10_isRing_146 rfl rfl rfl (Eq.refl 149) ?_
            refine Tr.goto (pc' := 7) dX10_isRing_149 (by decide) ?_
            exact Tr.mask [true, true, true, true, true, false] rfl (ih (by simp [h77]))
          · refine Tr.iconst (v := nI 0) dX10_isRing_80 (icN 0) (Eq.refl 81) ?_
            refine Tr.iret dX10_isRing_81 rfl (by first | rfl | exact bI_nar _) ?_ ?_
            · rw [hf (by simp [h77])]; simp [h77]; rfl
            · rfl
        · rw [if_pos h48] at ih hf
          refine Tr.iconst (v := nI 5) dX10_isRing_51 (icN 5) (Eq.refl 52) ?_
          refine Tr.goto (pc' := 77) dX10_isRing_52 (by decide) ?_
          refine Tr.icmp_eqN (tgt := 146) dX10_isRing_77 (by decide) (Eq.refl 80) (by omega) (by omega) (fun h77 => ?_) (fun h77 => ?_)
          · skip
            refine Tr.iincN dX10_isRing_146 rfl rfl rfl (Eq.refl 149) ?_
            refine Tr.goto (pc' := 7) dX10_isRing_149 (by decide) ?_
            exact Tr.mask [true, true, true, true, true, false] rfl (ih (by simp [h77]))
          · refine Tr.iconst (v := nI 0) dX10_isRing_80 (icN 0) (Eq.refl 81) ?_
            refine Tr.iret dX10_isRing_81 rfl (by first | rfl | exact bI_nar _) ?_ ?_
            · rw [hf (by simp [h77])]; simp [h77]; rfl
            · rfl
