/-! Scene: a quarter -/
theorem mm_c1 : Cond.code Lib.Math.min.name Lib.Math.min.code 2 (some .int) ∈ tbW := tbW_mem (by decide +kernel) rfl
theorem mm_c2 : Cond.code Lib.Math.max.name Lib.Math.max.code 2 (some .int) ∈ tbW := tbW_mem (by decide +kernel) rfl
theorem mm_s1 : Cond.static Lib.Math.min.name ∈ tbW := tbW_mem (by decide +kernel) rfl
theorem mm_s2 : Cond.static Lib.Math.max.name ∈ tbW := tbW_mem (by decide +kernel) rfl
theorem mm_i : Cond.initialized "java/lang/Math" ∈ tbW := tbW_mem (by decide +kernel) rfl
section TRM
variable {C : CtxT} {kb nb pc pc' : Nat} {lv : List (Option Value)} {st : List Value} {w : List va_E}
theorem Tr.mmin {idx : Nat} {x y : Int32} (hd : decode C.2.1.2.1 pc = .ok (.invokestatic idx, 3)) (hl : Cond.methodLink C.2.1.1.cls idx Lib.Math.min.name ∈ tbW) (hlev : Nat.ble 1 C.2.1.2.2.2.2.1 = true) (hcat : Nat.ble (st.map fun v => v.category).sum 20 = true) (hp : pc + 3 = pc') (k : Tr C kb nb pc' lv (.int (mnI x y) :: st) w) : Tr C kb nb pc lv (.int y :: .int x :: st) w := by
  subst hp
  intro p l e s m args below meth c R Z hC hR H locs cells slots ls h1 h2 h3 h4 h5
  obtain ⟨hx, hb, hml, hown, hts, hK, hnm, hRm, hI, hG⟩ := id hC
  have q1 := Nat.le_of_ble_eq_true hlev
  have q2 := Nat.le_of_ble_eq_true hcat
  exact va_mmin hx hb (by rw [hml]; exact h5.1.symm) hown (hts _ hl) (hts _ mm_s1) (hts _ mm_i) (hts _ mm_c1) (by rw [hRm]; exact q1) (by rw [hRm]; simp only [rmD]; omega) (by rw [hRm]; simp only [rmD]; omega) (by rw [hRm]; simp only [rmD]; omega) hd (k p l e s m args below meth c R Z hC hR H locs cells slots ls h1 h2 h3 h4 h5)
theorem Tr.mmax {idx : Nat} {x y : Int32} (hd : decode C.2.1.2.1 pc = .ok (.invokestatic idx, 3)) (hl : Cond.methodLink C.2.1.1.cls idx Lib.Math.max.name ∈ tbW) (hlev : Nat.ble 1 C.2.1.2.2.2.2.1 = true) (hcat : Nat.ble (st.map fun v => v.category).sum 20 = true) (hp : pc + 3 = pc') (k : Tr C kb nb pc' lv (.int (mxI x y) :: st) w) : Tr C kb nb pc lv (.int y :: .int x :: st) w := by
  subst hp
  intro p l e s m args below meth c R Z hC hR H locs cells slots ls h1 h2 h3 h4 h5
  obtain ⟨hx, hb, hml, hown, hts, hK, hnm, hRm, hI, hG⟩ := id hC
  have q1 := Nat.le_of_ble_eq_true hlev
  have q2 := Nat.le_of_ble_eq_true hcat
  exact va_mmax hx hb (by rw [hml]; exact h5.1.symm) hown (hts _ hl) (hts _ mm_s2) (hts _ mm_i) (hts _ mm_c2) (by rw [hRm]; exact q1) (by rw [hRm]; simp only [rmD]; omega) (by rw [hRm]; simp only [rmD]; omega) (by rw [hRm]; simp only [rmD]; omega) hd (k p l e s m args below meth c R Z hC hR H locs cells slots ls h1 h2 h3 h4 h5)
end TRM
/-- a scene, a village, lets, wishes -/
def goW (E : EnvT) (ad : Nat → Nat) (S : Scn) (V : Vil) (X : Vix) (L : Nat → Int32) (W : Nat → Nat) : List va_E := scC E ad 0 S ++ (viC E ad 7 V X ++ [aI E 5 L, aI E 5 (fun k => cl (W k))])
abbrev r18 : List Nat := [0, 1, 2, 3, 4, 5, 6, 7, 8, 9, 10, 11, 12, 13, 14, 15, 16, 17]
theorem cl_neg {c : Nat} : cl c < 0 ↔ ¬ c < 5 := by
  unfold cl
  by_cases h : c < 5
  · rw [if_pos h]
    exact ⟨fun q => absurd q (nI_pos (by omega)), fun q => absurd h q⟩
  · rw [if_neg h]; simp [h]
set_option maxHeartbeats 4000000 in
set_option maxRecDepth 100000 in
theorem c_leave (E : EnvT) (ad : Nat → Nat) (V : Vil) (X : Vix) (S : Scn) (L : Nat → Int32) (W : Nat → Nat) (hV : Vok V) (hS : Sle V S) (hW : Wle V W) : Md E mX3_leave ad [.ref (ad 0), .ref (ad 7), .ref (ad 19)] (goW E ad S V X L W) (some (.int (mkF W S (npV V)))) (goW E ad (lvF W S (npV V)) V X L W) := by
  have v2 := hV.2.1
  refine Md.of 2 (by decide) rfl rfl ?_
  refine Tr.iconst (v := nI 0) dX3_leave_0 (icN 0) (Eq.refl 1) ?_
  refine Tr.istore_n (i := 3) dX3_leave_1 rfl rfl rfl (Eq.refl 2) ?_
  refine Tr.iconst (v := nI 0) dX3_leave_2 (icN 0) (Eq.refl 3) ?_
  refine Tr.istore dX3_leave_3 rfl rfl (Eq.refl 5) ?_
  refine Tr.mask [true, true, true, true, true] (lv' := [some (.ref (ad 0)), some (.ref (ad 7)), some (.ref (ad 19)), some (.int (mkF W S 0)), some (.int (nI 0))]) rfl ?_
  refine loopD (P := fun i => Tr _ 0 0 5 [some (.ref (ad 0)), some (.ref (ad 7)), some (.ref (ad 19)), some (.int (mkF W S i)), some (.int (nI i))] [] (goW E ad (lvF W S i) V X L W)) (npV V) ?_ (fun i hi ih => ?_)
  · refine Tr.iload dX3_leave_5 rfl (Eq.refl 7) ?_
    refine Tr.aload_n (i := 1) dX3_leave_7 rfl rfl (Eq.refl 8) ?_
    refine Tr.getf dX3_leave_8 fX3_47 rfl rfl (Eq.refl 11) ?_
    refine Tr.icmp_geN (tgt := 82) dX3_leave_11 (by decide) (Eq.refl 14) (by omega) (by omega) (fun h11 => ?_) (fun h11 => ?_)
    · refine Tr.iload_n (i := 3) dX3_leave_82 rfl rfl (Eq.refl 83) ?_
      refine Tr.iret dX3_leave_83 rfl (by first | rfl | exact bI_nar _) ?_ ?_
      · rfl
      · rfl
    · exact absurd h11 (by omega)
  · have hw := lvF_wh W S i i
    rw [if_neg (Nat.lt_irrefl i)] at hw
    have h1 := hS i hi
    have h2 := hW i hi
    refine Tr.iload dX3_leave_5 rfl (Eq.refl 7) ?_
    refine Tr.aload_n (i := 1) dX3_leave_7 rfl rfl (Eq.refl 8) ?_
    refine Tr.getf dX3_leave_8 fX3_47 rfl rfl (Eq.refl 11) ?_
    refine Tr.icmp_geN (tgt := 82) dX3_leave_11 (by decide) (Eq.refl 14) (by omega) (by omega) (fun h11 => ?_) (fun h11 => ?_)
    · exact absurd h11 (by omega)
    · refine Tr.aload_n (i := 0) dX3_leave_14 rfl rfl (Eq.refl 15) ?_
      refine Tr.getf dX3_leave_15 fX3_9 rfl rfl (Eq.refl 18) ?_
      refine Tr.iload dX3_leave_18 rfl (Eq.refl 20) ?_
      refine Tr.ialdN dX3_leave_20 rfl (by omega) (by decide) (Eq.refl 21) ?_
      refine Tr.aload_n (i := 2) dX3_leave_21 rfl rfl (Eq.refl 22) ?_
      refine Tr.iload dX3_leave_22 rfl (Eq.refl 24) ?_
      refine Tr.ialdN dX3_leave_24 rfl (by omega) (by decide) (Eq.refl 25) ?_
      refine Tr.icmp_eq (tgt := 54) dX3_leave_25 (by decide) (Eq.refl 28) (fun h25 => ?_) (fun h25 => ?_)
      · rw [hw, cl_inj (by omega) (by omega)] at h25
        refine Tr.aload_n (i := 0) dX3_leave_54 rfl rfl (Eq.refl 55) ?_
        refine Tr.getf dX3_leave_55 fX3_9 rfl rfl (Eq.refl 58) ?_
        refine Tr.iload dX3_leave_58 rfl (Eq.refl 60) ?_
        refine Tr.ialdN dX3_leave_60 rfl (by omega) (by decide) (Eq.refl 61) ?_
        refine Tr.iconst (v := (-1)) dX3_leave_61 (by decide +kernel) (Eq.refl 62) ?_
        refine Tr.icmp_eq (tgt := 76) dX3_leave_62 (by decide) (Eq.refl 65) (fun h62 => ?_) (fun h62 => ?_)
        · rw [hw, cl_none] at h62
          refine Tr.iincN dX3_leave_76 rfl rfl rfl (Eq.refl 79) ?_
          refine Tr.goto (pc' := 5) dX3_leave_79 (by decide) ?_
          refine Tr.eqs ?_ rfl ?_ ih
          · simp [mkF, h25]
          · show _ = goW E ad (lvStep W (lvF W S i) i) V X L W
            unfold lvStep
            rw [hw, if_pos h25, if_pos (by omega)]
        · rw [hw, cl_none] at h62
          refine Tr.aload_n (i := 0) dX3_leave_65 rfl rfl (Eq.refl 66) ?_
          refine Tr.getf dX3_leave_66 fX3_15 rfl rfl (Eq.refl 69) ?_
          refine Tr.iload dX3_leave_69 rfl (Eq.refl 71) ?_
          refine Tr.dup2 dX3_leave_71 rfl rfl (Eq.refl 72) ?_
          refine Tr.ialdN dX3_leave_72 rfl (by omega) (by decide) (Eq.refl 73) ?_
          refine Tr.iconst (v := nI 1) dX3_leave_73 (icN 1) (Eq.refl 74) ?_
          refine Tr.iadd dX3_leave_74 (Eq.refl 75) ?_
          refine Tr.iastN dX3_leave_75 rfl (by omega) (by decide) (Eq.refl 76) ?_
          refine Tr.iincN dX3_leave_76 rfl rfl rfl (Eq.refl 79) ?_
          refine Tr.goto (pc' := 5) dX3_leave_79 (by decide) ?_
          refine Tr.eqs ?_ rfl ?_ ih
          · simp [mkF, h25]
          · show _ = goW E ad (lvStep W (lvF W S i) i) V X L W
            unfold lvStep
            rw [hw]
            first
              | (rw [if_pos h25, if_neg (by omega)]; rfl)
              | (rw [if_neg h25, show (-1 : Int32) = cl 5 from rfl, ← cl_upN]; rfl)
      · rw [hw, cl_inj (by omega) (by omega)] at h25
        refine Tr.iload_n (i := 3) dX3_leave_28 rfl rfl (Eq.refl 29) ?_
        refine Tr.iconst (v := nI 1) dX3_leave_29 (icN 1) (Eq.refl 30) ?_
        refine Tr.iload dX3_leave_30 rfl (Eq.refl 32) ?_
        refine Tr.ishl dX3_leave_32 (Eq.refl 33) ?_
        refine Tr.ior dX3_leave_33 (Eq.refl 34) ?_
        refine Tr.istore_n (i := 3) dX3_leave_34 rfl rfl rfl (Eq.refl 35) ?_
        refine Tr.aload_n (i := 0) dX3_leave_35 rfl rfl (Eq.refl 36) ?_
        refine Tr.getf dX3_leave_36 fX3_9 rfl rfl (Eq.refl 39) ?_
        refine Tr.iload dX3_leave_39 rfl (Eq.refl 41) ?_
        refine Tr.iconst (v := (-1)) dX3_leave_41 (by decide +kernel) (Eq.refl 42) ?_
        refine Tr.iastN dX3_leave_42 rfl (by omega) (by decide) (Eq.refl 43) ?_
        refine Tr.aload_n (i := 0) dX3_leave_43 rfl rfl (Eq.refl 44) ?_
        refine Tr.getf dX3_leave_44 fX3_15 rfl rfl (Eq.refl 47) ?_
        refine Tr.iload dX3_leave_47 rfl (Eq.refl 49) ?_
        refine Tr.iconst (v := nI 0) dX3_leave_49 (icN 0) (Eq.refl 50) ?_
        refine Tr.iastN dX3_leave_50 rfl (by omega) (by decide) (Eq.refl 51) ?_
        refine Tr.goto (pc' := 76) dX3_leave_51 (by decide) ?_
        refine Tr.iincN dX3_leave_76 rfl rfl rfl (Eq.refl 79) ?_
        refine Tr.goto (pc' := 5) dX3_leave_79 (by decide) ?_
        refine Tr.eqs ?_ rfl ?_ ih
        · simp [mkF, h25]
        · show _ = goW E ad (lvStep W (lvF W S i) i) V X L W
          unfold lvStep
          rw [hw]
          first
            | (rw [if_pos h25, if_neg (by omega)]; rfl)
            | (rw [if_neg h25, show (-1 : Int32) = cl 5 from rfl, ← cl_upN]; rfl)
set_option maxHeartbeats 4000000 in
set_option maxRecDepth 100000 in
theorem c_mayCome (E : EnvT) (ad : Nat → Nat) (V : Vil) (X : Vix) (S : Scn) (L : Nat → Int32) (W : Nat → Nat) (p h : Nat) (hV : Vok V) (hp : p < npV V) (hh : h ≤ 5) : Md E mX3_mayCome ad [.ref (ad 0), .ref (ad 7), .ref (ad 18), .int (nI p), .int (cl h)] (goW E ad S V X L W) (some (.int (bI (may V S L p h)))) (goW E ad S V X L W) := by
  have v1 := hV.1
  have v2 := hV.2.1
  refine Md.of 1 (by decide) rfl rfl ?_
  refine Tr.iload dX3_mayCome_0 rfl (Eq.refl 2) ?_
  refine Tr.if_lt (tgt := 14) dX3_mayCome_2 (by decide) (Eq.refl 5) (fun h2 => ?_) (fun h2 => ?_)
  · rw [cl_neg] at h2
    refine Tr.iconst (v := nI 0) dX3_mayCome_14 (icN 0) (Eq.refl 15) ?_
    refine Tr.iret dX3_mayCome_15 rfl (by first | rfl | exact bI_nar _) ?_ ?_
    · rw [show may V S L p h = false from by simp [may]; omega]; rfl
    · rfl
  · have h2 : h < 5 := by rw [cl_neg] at h2; omega
    rw [cl_lt h2]
    refine Tr.iload dX3_mayCome_5 rfl (Eq.refl 7) ?_
    refine Tr.aload_n (i := 1) dX3_mayCome_7 rfl rfl (Eq.refl 8) ?_
    refine Tr.getf dX3_mayCome_8 fX3_75 rfl rfl (Eq.refl 11) ?_
    refine Tr.icmp_ltN (tgt := 16) dX3_mayCome_11 (by decide) (Eq.refl 14) (by omega) (by omega) (fun h11 => ?_) (fun h11 => ?_)
    · have v4 := hav_lt hV S h11
      have v5 := guF_le V S h (npV V)
      refine Tr.aload_n (i := 1) dX3_mayCome_16 rfl rfl (Eq.refl 17) ?_
      refine Tr.getf dX3_mayCome_17 fX3_50 rfl rfl (Eq.refl 20) ?_
      refine Tr.iload dX3_mayCome_20 rfl (Eq.refl 22) ?_
      refine Tr.ialdN dX3_mayCome_22 rfl (by omega) (by decide) (Eq.refl 23) ?_
      refine Tr.iload_n (i := 3) dX3_mayCome_23 rfl rfl (Eq.refl 24) ?_
      refine Tr.icmp_ne (tgt := 29) dX3_mayCome_24 (by decide) (Eq.refl 27) (fun h24 => ?_) (fun h24 => ?_)
      · rw [cl_eq (by omega)] at h24
        refine Tr.aload_n (i := 0) dX3_mayCome_29 rfl rfl (Eq.refl 30) ?_
        refine Tr.aload_n (i := 1) dX3_mayCome_30 rfl rfl (Eq.refl 31) ?_
        refine Tr.iload dX3_mayCome_31 rfl (Eq.refl 33) ?_
        refine Tr.callVr (L := r18) (c_guestsIn E _ V X S h hV h11) dX3_mayCome_33 (kX3_82 (Nat.le_of_ble_eq_true rfl)) iX3_guestsIn rfl rfl rfl rfl rfl rfl rfl rfl rfl (Eq.refl 36) ?_
        refine Tr.aload_n (i := 1) dX3_mayCome_36 rfl rfl (Eq.refl 37) ?_
        refine Tr.getf dX3_mayCome_37 fX3_53 rfl rfl (Eq.refl 40) ?_
        refine Tr.iconst (v := nI 0) dX3_mayCome_40 (icN 0) (Eq.refl 41) ?_
        refine Tr.ialdN dX3_mayCome_41 rfl (by omega) (by decide) (Eq.refl 42) ?_
        refine Tr.icmp_lt (tgt := 47) dX3_mayCome_42 (by decide) (Eq.refl 45) (fun h42 => ?_) (fun h42 => ?_)
        · refine Tr.aload_n (i := 0) dX3_mayCome_47 rfl rfl (Eq.refl 48) ?_
          refine Tr.aload_n (i := 1) dX3_mayCome_48 rfl rfl (Eq.refl 49) ?_
          refine Tr.iload dX3_mayCome_49 rfl (Eq.refl 51) ?_
          refine Tr.callVr (L := r18) (c_haver E _ V X S h hV h11) dX3_mayCome_51 (kX3_60 (Nat.le_of_ble_eq_true rfl)) iX3_haver rfl rfl rfl rfl rfl rfl rfl rfl rfl (Eq.refl 54) ?_
          refine Tr.istore dX3_mayCome_54 rfl rfl (Eq.refl 56) ?_
          refine Tr.iload dX3_mayCome_56 rfl (Eq.refl 58) ?_
          refine Tr.iconst (v := (-1)) dX3_mayCome_58 (by decide +kernel) (Eq.refl 59) ?_
          refine Tr.icmp_eq (tgt := 74) dX3_mayCome_59 (by decide) (Eq.refl 62) (fun h59 => ?_) (fun h59 => ?_)
          · have h59 : hav V S h = 5 := by rw [cl_none] at h59; omega
            refine Tr.iconst (v := nI 1) dX3_mayCome_74 (icN 1) (Eq.refl 75) ?_
            refine Tr.goto (pc' := 79) dX3_mayCome_75 (by decide) ?_
            refine Tr.iret dX3_mayCome_79 rfl (by first | rfl | exact bI_nar _) ?_ ?_
            · first | rfl | (rw [show may V S L p h = true from by simp [may, h11, h24, h42, h59]]; rfl)
            · rfl
          · have h59 : hav V S h < 5 := by rw [cl_none] at h59; omega
            rw [cl_lt h59]
            refine Tr.aload_n (i := 2) dX3_mayCome_62 rfl rfl (Eq.refl 63) ?_
            refine Tr.iload dX3_mayCome_63 rfl (Eq.refl 65) ?_
            refine Tr.ialdN dX3_mayCome_65 rfl (by omega) (by decide) (Eq.refl 66) ?_
            refine Tr.iload_n (i := 3) dX3_mayCome_66 rfl rfl (Eq.refl 67) ?_
            refine Tr.ishr dX3_mayCome_67 (Eq.refl 68) ?_
            refine Tr.iconst (v := nI 1) dX3_mayCome_68 (icN 1) (Eq.refl 69) ?_
            refine Tr.iand dX3_mayCome_69 (Eq.refl 70) ?_
            refine Tr.iconst (v := nI 1) dX3_mayCome_70 (icN 1) (Eq.refl 71) ?_
            refine Tr.icmp_ne (tgt := 78) dX3_mayCome_71 (by decide) (Eq.refl 74) (fun h71 => ?_) (fun h71 => ?_)
            · rw [show may V S L p h = false from by simp [may, h11, h24, h42, show ¬ hav V S h = 5 by omega, bt, h71]]
              refine Tr.iconst (v := nI 0) dX3_mayCome_78 (icN 0) (Eq.refl 79) ?_
              refine Tr.iret dX3_mayCome_79 rfl (by first | rfl | exact bI_nar _) ?_ ?_
              · first | rfl | (rw [show may V S L p h = true from by simp [may, h11, h24, h42, h59]]; rfl)
              · rfl
            · rw [show may V S L p h = true from by simp [may, h11, h24, h42, bt, h71]]
              refine Tr.iconst (v := nI 1) dX3_mayCome_74 (icN 1) (Eq.refl 75) ?_
              refine Tr.goto (pc' := 79) dX3_mayCome_75 (by decide) ?_
              refine Tr.iret dX3_mayCome_79 rfl (by first | rfl | exact bI_nar _) ?_ ?_
              · first | rfl | (rw [show may V S L p h = true from by simp [may, h11, h24, h42, h59]]; rfl)
              · rfl
        · refine Tr.iconst (v := nI 0) dX3_mayCome_45 (icN 0) (Eq.refl 46) ?_
          refine Tr.iret dX3_mayCome_46 rfl (by first | rfl | exact bI_nar _) ?_ ?_
          · rw [show may V S L p h = false from by simp [may, h11, h24, h42]]; rfl
          · rfl
      · rw [cl_eq (by omega)] at h24
        refine Tr.iconst (v := nI 1) dX3_mayCome_27 (icN 1) (Eq.refl 28) ?_
        refine Tr.iret dX3_mayCome_28 rfl (by first | rfl | exact bI_nar _) ?_ ?_
        · rw [show may V S L p h = true from by simp [may, h11, h24]]; rfl
        · rfl
    · refine Tr.iconst (v := nI 0) dX3_mayCome_14 (icN 0) (Eq.refl 15) ?_
      refine Tr.iret dX3_mayCome_15 rfl (by first | rfl | exact bI_nar _) ?_ ?_
      · rw [show may V S L p h = false from by simp [may]; omega]; rfl
      · rfl
set_option maxHeartbeats 4000000 in
set_option maxRecDepth 100000 in
theorem c_gainOfTies (E : EnvT) (ad : Nat → Nat) (V : Vil) (X : Vix) (S : Scn) (L : Nat → Int32) (W : Nat → Nat) (p : Nat) (hV : Vok V) (hp : p < npV V) (hS : Sle V S) : Md E mX3_gainOfTies ad [.ref (ad 0), .ref (ad 7), .int (nI p)] (goW E ad S V X L W) (some (.int (tsG V S p))) (goW E ad S V X L W) := by
  have v2 := hV.2.1
  have s1 := hS p hp
  refine Md.of 2 (by decide) rfl rfl ?_
  refine Tr.iconst (v := nI 0) dX3_gainOfTies_0 (icN 0) (Eq.refl 1) ?_
  refine Tr.istore_n (i := 3) dX3_gainOfTies_1 rfl rfl rfl (Eq.refl 2) ?_
  refine Tr.aload_n (i := 0) dX3_gainOfTies_2 rfl rfl (Eq.refl 3) ?_
  refine Tr.getf dX3_gainOfTies_3 fX3_9 rfl rfl (Eq.refl 6) ?_
  refine Tr.iload_n (i := 2) dX3_gainOfTies_6 rfl rfl (Eq.refl 7) ?_
  refine Tr.ialdN dX3_gainOfTies_7 rfl (by omega) (by decide) (Eq.refl 8) ?_
  refine Tr.iconst (v := (-1)) dX3_gainOfTies_8 (by decide +kernel) (Eq.refl 9) ?_
  refine Tr.icmp_eq (tgt := 66) dX3_gainOfTies_9 (by decide) (Eq.refl 12) (fun h9 => ?_) (fun h9 => ?_)
  · rw [cl_none] at h9
    refine Tr.iload_n (i := 3) dX3_gainOfTies_66 rfl rfl (Eq.refl 67) ?_
    refine Tr.iret dX3_gainOfTies_67 rfl (by first | rfl | exact bI_nar _) ?_ ?_
    · simp only [tsG]; rw [if_pos (by omega)]
    · rfl
  · rw [cl_none] at h9
    refine Tr.iconst (v := nI 0) dX3_gainOfTies_12 (icN 0) (Eq.refl 13) ?_
    refine Tr.istore dX3_gainOfTies_13 rfl rfl (Eq.refl 15) ?_
    refine Tr.mask [true, true, true, true, true] (lv' := [some (.ref (ad 0)), some (.ref (ad 7)), some (.int (nI p)), some (.int (tsF V S p 0)), some (.int (nI 0))]) rfl ?_
    refine loopD (P := fun i => Tr _ 0 0 15 [some (.ref (ad 0)), some (.ref (ad 7)), some (.int (nI p)), some (.int (tsF V S p i)), some (.int (nI i))] [] _) (npV V) ?_ (fun i hi ih => ?_)
    · refine Tr.iload dX3_gainOfTies_15 rfl (Eq.refl 17) ?_
      refine Tr.aload_n (i := 1) dX3_gainOfTies_17 rfl rfl (Eq.refl 18) ?_
      refine Tr.getf dX3_gainOfTies_18 fX3_47 rfl rfl (Eq.refl 21) ?_
      refine Tr.icmp_geN (tgt := 66) dX3_gainOfTies_21 (by decide) (Eq.refl 24) (by omega) (by omega) (fun h21 => ?_) (fun h21 => ?_)
      · refine Tr.iload_n (i := 3) dX3_gainOfTies_66 rfl rfl (Eq.refl 67) ?_
        refine Tr.iret dX3_gainOfTies_67 rfl (by first | rfl | exact bI_nar _) ?_ ?_
        · simp only [tsG]; rw [if_neg (by omega)]
        · rfl
      · exact absurd h21 (by omega)
    · have s2 := hS i hi
      refine Tr.iload dX3_gainOfTies_15 rfl (Eq.refl 17) ?_
      refine Tr.aload_n (i := 1) dX3_gainOfTies_17 rfl rfl (Eq.refl 18) ?_
      refine Tr.getf dX3_gainOfTies_18 fX3_47 rfl rfl (Eq.refl 21) ?_
      refine Tr.icmp_geN (tgt := 66) dX3_gainOfTies_21 (by decide) (Eq.refl 24) (by omega) (by omega) (fun h21 => ?_) (fun h21 => ?_)
      · exact absurd h21 (by omega)
      · refine Tr.iload dX3_gainOfTies_24 rfl (Eq.refl 26) ?_
        refine Tr.iload_n (i := 2) dX3_gainOfTies_26 rfl rfl (Eq.refl 27) ?_
        refine Tr.icmp_eqN (tgt := 60) dX3_gainOfTies_27 (by decide) (Eq.refl 30) (by omega) (by omega) (fun h27 => ?_) (fun h27 => ?_)
        · refine Tr.iincN dX3_gainOfTies_60 rfl rfl rfl (Eq.refl 63) ?_
          refine Tr.goto (pc' := 15) dX3_gainOfTies_63 (by decide) ?_
          refine Tr.eqs ?_ rfl rfl ih
          simp [tsF, *]
        · refine Tr.aload_n (i := 0) dX3_gainOfTies_30 rfl rfl (Eq.refl 31) ?_
          refine Tr.getf dX3_gainOfTies_31 fX3_9 rfl rfl (Eq.refl 34) ?_
          refine Tr.iload dX3_gainOfTies_34 rfl (Eq.refl 36) ?_
          refine Tr.ialdN dX3_gainOfTies_36 rfl (by omega) (by decide) (Eq.refl 37) ?_
          refine Tr.aload_n (i := 0) dX3_gainOfTies_37 rfl rfl (Eq.refl 38) ?_
          refine Tr.getf dX3_gainOfTies_38 fX3_9 rfl rfl (Eq.refl 41) ?_
          refine Tr.iload_n (i := 2) dX3_gainOfTies_41 rfl rfl (Eq.refl 42) ?_
          refine Tr.ialdN dX3_gainOfTies_42 rfl (by omega) (by decide) (Eq.refl 43) ?_
          refine Tr.icmp_ne (tgt := 60) dX3_gainOfTies_43 (by decide) (Eq.refl 46) (fun h43 => ?_) (fun h43 => ?_)
          · rw [cl_inj (by omega) (by omega)] at h43
            refine Tr.iincN dX3_gainOfTies_60 rfl rfl rfl (Eq.refl 63) ?_
            refine Tr.goto (pc' := 15) dX3_gainOfTies_63 (by decide) ?_
            refine Tr.eqs ?_ rfl rfl ih
            simp [tsF, *]
          · rw [cl_inj (by omega) (by omega)] at h43
            refine Tr.iload_n (i := 3) dX3_gainOfTies_46 rfl rfl (Eq.refl 47) ?_
            refine Tr.aload_n (i := 1) dX3_gainOfTies_47 rfl rfl (Eq.refl 48) ?_
            refine Tr.getf dX3_gainOfTies_48 fX3_85 rfl rfl (Eq.refl 51) ?_
            refine Tr.iload_n (i := 2) dX3_gainOfTies_51 rfl rfl (Eq.refl 52) ?_
            refine Tr.iconst (v := nI 5) dX3_gainOfTies_52 (icN 5) (Eq.refl 53) ?_
            refine Tr.imulN dX3_gainOfTies_53 (Eq.refl 54) ?_
            refine Tr.iload dX3_gainOfTies_54 rfl (Eq.refl 56) ?_
            refine Tr.iaddN dX3_gainOfTies_56 (Eq.refl 57) ?_
            refine Tr.ialdN dX3_gainOfTies_57 rfl (by omega) (by decide) (Eq.refl 58) ?_
            refine Tr.iadd dX3_gainOfTies_58 (Eq.refl 59) ?_
            refine Tr.istore_n (i := 3) dX3_gainOfTies_59 rfl rfl rfl (Eq.refl 60) ?_
            refine Tr.iincN dX3_gainOfTies_60 rfl rfl rfl (Eq.refl 63) ?_
            refine Tr.goto (pc' := 15) dX3_gainOfTies_63 (by decide) ?_
            refine Tr.eqs ?_ rfl rfl ih
            simp [tsF, *]
set_option maxHeartbeats 4000000 in
set_option maxRecDepth 100000 in
theorem c_useHouse (E : EnvT) (ad : Nat → Nat) (V : Vil) (X : Vix) (S : Scn) (L : Nat → Int32) (W : Nat → Nat) (h : Nat) (hV : Vok V) (hh : h < nhV V) : Md E mX3_useHouse ad [.ref (ad 0), .ref (ad 7), .int (nI h)] (goW E ad S V X L W) none (goW E ad (usStep V S h) V X L W) := by
  have v1 := hV.1
  have v2 := hV.2.1
  have v4 := hav_lt hV S hh
  have v3 := hV.2.2.1 h hh
  refine Md.of 2 (by decide) rfl rfl ?_
  refine Tr.aload_n (i := 0) dX3_useHouse_0 rfl rfl (Eq.refl 1) ?_
  refine Tr.aload_n (i := 1) dX3_useHouse_1 rfl rfl (Eq.refl 2) ?_
  refine Tr.iload_n (i := 2) dX3_useHouse_2 rfl rfl (Eq.refl 3) ?_
  refine Tr.callVr (L := r18) (c_haver E _ V X S h hV hh) dX3_useHouse_3 (kX3_60 (Nat.le_of_ble_eq_true rfl)) iX3_haver rfl rfl rfl rfl rfl rfl rfl rfl rfl (Eq.refl 6) ?_
  refine Tr.istore_n (i := 3) dX3_useHouse_6 rfl rfl rfl (Eq.refl 7) ?_
  refine Tr.iload_n (i := 3) dX3_useHouse_7 rfl rfl (Eq.refl 8) ?_
  refine Tr.iconst (v := (-1)) dX3_useHouse_8 (by decide +kernel) (Eq.refl 9) ?_
  refine Tr.icmp_ne (tgt := 13) dX3_useHouse_9 (by decide) (Eq.refl 12) (fun h9 => ?_) (fun h9 => ?_)
  · have h9 : hav V S h < 5 := by rw [cl_none] at h9; omega
    have h9b : ¬ hav V S h = 5 := by omega
    rw [cl_lt h9]
    refine Tr.aload_n (i := 1) dX3_useHouse_13 rfl rfl (Eq.refl 14) ?_
    refine Tr.getf dX3_useHouse_14 fX3_53 rfl rfl (Eq.refl 17) ?_
    refine Tr.iconst (v := nI 4) dX3_useHouse_17 (icN 4) (Eq.refl 18) ?_
    refine Tr.ialdN dX3_useHouse_18 rfl (by omega) (by decide) (Eq.refl 19) ?_
    refine Tr.aload_n (i := 0) dX3_useHouse_19 rfl rfl (Eq.refl 20) ?_
    refine Tr.getf dX3_useHouse_20 fX3_24 rfl rfl (Eq.refl 23) ?_
    refine Tr.iload_n (i := 2) dX3_useHouse_23 rfl rfl (Eq.refl 24) ?_
    refine Tr.ialdN dX3_useHouse_24 rfl (by omega) (by decide) (Eq.refl 25) ?_
    refine Tr.mmin dX3_useHouse_25 (kX3_88 (Nat.le_refl _)).1 rfl rfl (Eq.refl 28) ?_
    refine Tr.istore dX3_useHouse_28 rfl rfl (Eq.refl 30) ?_
    refine Tr.aload_n (i := 0) dX3_useHouse_30 rfl rfl (Eq.refl 31) ?_
    refine Tr.getf dX3_useHouse_31 fX3_18 rfl rfl (Eq.refl 34) ?_
    refine Tr.iload_n (i := 3) dX3_useHouse_34 rfl rfl (Eq.refl 35) ?_
    refine Tr.dup2 dX3_useHouse_35 rfl rfl (Eq.refl 36) ?_
    refine Tr.ialdN dX3_useHouse_36 rfl (by omega) (by decide) (Eq.refl 37) ?_
    refine Tr.aload_n (i := 1) dX3_useHouse_37 rfl rfl (Eq.refl 38) ?_
    refine Tr.getf dX3_useHouse_38 fX3_94 rfl rfl (Eq.refl 41) ?_
    refine Tr.iload_n (i := 2) dX3_useHouse_41 rfl rfl (Eq.refl 42) ?_
    refine Tr.ialdN dX3_useHouse_42 rfl (by omega) (by decide) (Eq.refl 43) ?_
    refine Tr.aload_n (i := 0) dX3_useHouse_43 rfl rfl (Eq.refl 44) ?_
    refine Tr.getf dX3_useHouse_44 fX3_27 rfl rfl (Eq.refl 47) ?_
    refine Tr.iload_n (i := 2) dX3_useHouse_47 rfl rfl (Eq.refl 48) ?_
    refine Tr.ialdN dX3_useHouse_48 rfl (by omega) (by decide) (Eq.refl 49) ?_
    refine Tr.imul dX3_useHouse_49 (Eq.refl 50) ?_
    refine Tr.bipush (v := nI 100) dX3_useHouse_50 (by decide +kernel) (Eq.refl 52) ?_
    refine Tr.idiv dX3_useHouse_52 (by decide +kernel) (Eq.refl 53) ?_
    refine Tr.iload dX3_useHouse_53 rfl (Eq.refl 55) ?_
    refine Tr.iadd dX3_useHouse_55 (Eq.refl 56) ?_
    refine Tr.iadd dX3_useHouse_56 (Eq.refl 57) ?_
    refine Tr.iastN dX3_useHouse_57 rfl (by omega) (by decide) (Eq.refl 58) ?_
    refine Tr.aload_n (i := 0) dX3_useHouse_58 rfl rfl (Eq.refl 59) ?_
    refine Tr.getf dX3_useHouse_59 fX3_24 rfl rfl (Eq.refl 62) ?_
    refine Tr.iload_n (i := 2) dX3_useHouse_62 rfl rfl (Eq.refl 63) ?_
    refine Tr.dup2 dX3_useHouse_63 rfl rfl (Eq.refl 64) ?_
    refine Tr.ialdN dX3_useHouse_64 rfl (by omega) (by decide) (Eq.refl 65) ?_
    refine Tr.iload dX3_useHouse_65 rfl (Eq.refl 67) ?_
    refine Tr.isub dX3_useHouse_67 (Eq.refl 68) ?_
    refine Tr.iastN dX3_useHouse_68 rfl (by omega) (by decide) (Eq.refl 69) ?_
    refine Tr.iload_n (i := 3) dX3_useHouse_69 rfl rfl (Eq.refl 70) ?_
    refine Tr.aload_n (i := 1) dX3_useHouse_70 rfl rfl (Eq.refl 71) ?_
    refine Tr.getf dX3_useHouse_71 fX3_50 rfl rfl (Eq.refl 74) ?_
    refine Tr.iload_n (i := 2) dX3_useHouse_74 rfl rfl (Eq.refl 75) ?_
    refine Tr.ialdN dX3_useHouse_75 rfl (by omega) (by decide) (Eq.refl 76) ?_
    refine Tr.icmp_ne (tgt := 106) dX3_useHouse_76 (by decide) (Eq.refl 79) (fun h76 => ?_) (fun h76 => ?_)
    · rw [eq_comm, cl_eq h9, eq_comm] at h76
      refine Tr.aload_n (i := 0) dX3_useHouse_106 rfl rfl (Eq.refl 107) ?_
      refine Tr.getf dX3_useHouse_107 fX3_27 rfl rfl (Eq.refl 110) ?_
      refine Tr.iload_n (i := 2) dX3_useHouse_110 rfl rfl (Eq.refl 111) ?_
      refine Tr.iconst (v := nI 0) dX3_useHouse_111 (icN 0) (Eq.refl 112) ?_
      refine Tr.aload_n (i := 0) dX3_useHouse_112 rfl rfl (Eq.refl 113) ?_
      refine Tr.getf dX3_useHouse_113 fX3_27 rfl rfl (Eq.refl 116) ?_
      refine Tr.iload_n (i := 2) dX3_useHouse_116 rfl rfl (Eq.refl 117) ?_
      refine Tr.ialdN dX3_useHouse_117 rfl (by omega) (by decide) (Eq.refl 118) ?_
      refine Tr.aload_n (i := 1) dX3_useHouse_118 rfl rfl (Eq.refl 119) ?_
      refine Tr.getf dX3_useHouse_119 fX3_53 rfl rfl (Eq.refl 122) ?_
      refine Tr.iconst (v := nI 2) dX3_useHouse_122 (icN 2) (Eq.refl 123) ?_
      refine Tr.ialdN dX3_useHouse_123 rfl (by omega) (by decide) (Eq.refl 124) ?_
      refine Tr.isub dX3_useHouse_124 (Eq.refl 125) ?_
      refine Tr.mmax dX3_useHouse_125 (kX3_97 (Nat.le_refl _)).1 rfl rfl (Eq.refl 128) ?_
      refine Tr.iastN dX3_useHouse_128 rfl (by omega) (by decide) (Eq.refl 129) ?_
      refine Tr.ret dX3_useHouse_129 rfl rfl ?_
      · unfold usStep; rw [if_neg h9b]; (first | rw [if_pos h76] | rw [if_neg h76]); rfl
    · rw [eq_comm, cl_eq h9, eq_comm] at h76
      refine Tr.aload_n (i := 0) dX3_useHouse_79 rfl rfl (Eq.refl 80) ?_
      refine Tr.getf dX3_useHouse_80 fX3_27 rfl rfl (Eq.refl 83) ?_
      refine Tr.iload_n (i := 2) dX3_useHouse_83 rfl rfl (Eq.refl 84) ?_
      refine Tr.bipush (v := nI 100) dX3_useHouse_84 (by decide +kernel) (Eq.refl 86) ?_
      refine Tr.aload_n (i := 0) dX3_useHouse_86 rfl rfl (Eq.refl 87) ?_
      refine Tr.getf dX3_useHouse_87 fX3_27 rfl rfl (Eq.refl 90) ?_
      refine Tr.iload_n (i := 2) dX3_useHouse_90 rfl rfl (Eq.refl 91) ?_
      refine Tr.ialdN dX3_useHouse_91 rfl (by omega) (by decide) (Eq.refl 92) ?_
      refine Tr.aload_n (i := 1) dX3_useHouse_92 rfl rfl (Eq.refl 93) ?_
      refine Tr.getf dX3_useHouse_93 fX3_53 rfl rfl (Eq.refl 96) ?_
      refine Tr.iconst (v := nI 3) dX3_useHouse_96 (icN 3) (Eq.refl 97) ?_
      refine Tr.ialdN dX3_useHouse_97 rfl (by omega) (by decide) (Eq.refl 98) ?_
      refine Tr.iadd dX3_useHouse_98 (Eq.refl 99) ?_
      refine Tr.mmin dX3_useHouse_99 (kX3_88 (Nat.le_refl _)).1 rfl rfl (Eq.refl 102) ?_
      refine Tr.iastN dX3_useHouse_102 rfl (by omega) (by decide) (Eq.refl 103) ?_
      refine Tr.goto (pc' := 129) dX3_useHouse_103 (by decide) ?_
      refine Tr.ret dX3_useHouse_129 rfl rfl ?_
      · unfold usStep; rw [if_neg h9b]; (first | rw [if_pos h76] | rw [if_neg h76]); rfl
  · have h9 : hav V S h = 5 := by rw [cl_none] at h9; omega
    refine Tr.ret dX3_useHouse_12 rfl rfl ?_
    · unfold usStep; rw [if_pos h9]
set_option maxHeartbeats 4000000 in
set_option maxRecDepth 100000 in
theorem c_goOn (E : EnvT) (ad : Nat → Nat) (V : Vil) (X : Vix) (S : Scn) (L : Nat → Int32) (W : Nat → Nat) (hV : Vok V) (hS : Sle V S) (hW : Wle V W) : Md E mX3_goOn ad [.ref (ad 0), .ref (ad 7), .ref (ad 18), .ref (ad 19)] (goW E ad S V X L W) none (goW E ad (gon V L W S) V X L W) := by
  have v1 := hV.1
  have v2 := hV.2.1
  refine Md.of 2 (by decide) rfl rfl ?_
  refine Tr.aload_n (i := 0) dX3_goOn_0 rfl rfl (Eq.refl 1) ?_
  refine Tr.aload_n (i := 1) dX3_goOn_1 rfl rfl (Eq.refl 2) ?_
  refine Tr.aload_n (i := 3) dX3_goOn_2 rfl rfl (Eq.refl 3) ?_
  refine Tr.callVs (c_leave E ad V X S L W hV hS hW) dX3_goOn_3 (kX3_64 (Nat.le_of_ble_eq_true rfl)) iX3_leave rfl rfl rfl rfl rfl (Nat.le_refl _) rfl rfl (Eq.refl 6) ?_
  refine Tr.istore dX3_goOn_6 rfl rfl (Eq.refl 8) ?_
  refine Tr.iconst (v := nI 0) dX3_goOn_8 (icN 0) (Eq.refl 9) ?_
  refine Tr.istore dX3_goOn_9 rfl rfl (Eq.refl 11) ?_
  refine Tr.mask [true, true, true, true, true, true] (lv' := [some (.ref (ad 0)), some (.ref (ad 7)), some (.ref (ad 18)), some (.ref (ad 19)), some (.int (mkF W S (npV V))), some (.int (nI 0))]) rfl ?_
  refine loopD (P := fun i => Tr _ 0 0 11 [some (.ref (ad 0)), some (.ref (ad 7)), some (.ref (ad 18)), some (.ref (ad 19)), some (.int (mkF W S (npV V))), some (.int (nI i))] [] (goW E ad (cmF V L W S i) V X L W)) (npV V) ?_ (fun i hi ih => ?_)
  · refine Tr.iload dX3_goOn_11 rfl (Eq.refl 13) ?_
    refine Tr.aload_n (i := 1) dX3_goOn_13 rfl rfl (Eq.refl 14) ?_
    refine Tr.getf dX3_goOn_14 fX3_47 rfl rfl (Eq.refl 17) ?_
    refine Tr.icmp_geN (tgt := 63) dX3_goOn_17 (by decide) (Eq.refl 20) (by omega) (by omega) (fun h17 => ?_) (fun h17 => ?_)
    · refine Tr.iconst (v := nI 0) dX3_goOn_63 (icN 0) (Eq.refl 64) ?_
      refine Tr.istore dX3_goOn_64 rfl rfl (Eq.refl 66) ?_
      refine Tr.mask [true, true, true, true, false, true] (lv' := [some (.ref (ad 0)), some (.ref (ad 7)), some (.ref (ad 18)), some (.ref (ad 19)), none, some (.int (nI 0))]) rfl ?_
      refine loopD (P := fun i => Tr _ 0 0 66 [some (.ref (ad 0)), some (.ref (ad 7)), some (.ref (ad 18)), some (.ref (ad 19)), none, some (.int (nI i))] [] (goW E ad (ltF V (cmF V L W S (npV V)) i) V X L W)) (npV V) ?_ (fun i hi ih => ?_)
      · refine Tr.iload dX3_goOn_66 rfl (Eq.refl 68) ?_
        refine Tr.aload_n (i := 1) dX3_goOn_68 rfl rfl (Eq.refl 69) ?_
        refine Tr.getf dX3_goOn_69 fX3_47 rfl rfl (Eq.refl 72) ?_
        refine Tr.icmp_geN (tgt := 95) dX3_goOn_72 (by decide) (Eq.refl 75) (by omega) (by omega) (fun h72 => ?_) (fun h72 => ?_)
        · refine Tr.iconst (v := nI 0) dX3_goOn_95 (icN 0) (Eq.refl 96) ?_
          refine Tr.istore dX3_goOn_96 rfl rfl (Eq.refl 98) ?_
          refine Tr.mask [true, true, true, true, false, true] (lv' := [some (.ref (ad 0)), some (.ref (ad 7)), some (.ref (ad 18)), some (.ref (ad 19)), none, some (.int (nI 0))]) rfl ?_
          refine loopD (P := fun i => Tr _ 0 0 98 [some (.ref (ad 0)), some (.ref (ad 7)), some (.ref (ad 18)), some (.ref (ad 19)), none, some (.int (nI i))] [] (goW E ad (usF V (ltF V (cmF V L W S (npV V)) (npV V)) i) V X L W)) (nhV V) ?_ (fun i hi ih => ?_)
          · refine Tr.iload dX3_goOn_98 rfl (Eq.refl 100) ?_
            refine Tr.aload_n (i := 1) dX3_goOn_100 rfl rfl (Eq.refl 101) ?_
            refine Tr.getf dX3_goOn_101 fX3_75 rfl rfl (Eq.refl 104) ?_
            refine Tr.icmp_geN (tgt := 120) dX3_goOn_104 (by decide) (Eq.refl 107) (by omega) (by omega) (fun h104 => ?_) (fun h104 => ?_)
            · refine Tr.iconst (v := nI 0) dX3_goOn_120 (icN 0) (Eq.refl 121) ?_
              refine Tr.istore dX3_goOn_121 rfl rfl (Eq.refl 123) ?_
              refine Tr.mask [true, true, true, true, false, true] (lv' := [some (.ref (ad 0)), some (.ref (ad 7)), some (.ref (ad 18)), some (.ref (ad 19)), none, some (.int (nI 0))]) rfl ?_
              refine loopD (P := fun i => Tr _ 0 0 123 [some (.ref (ad 0)), some (.ref (ad 7)), some (.ref (ad 18)), some (.ref (ad 19)), none, some (.int (nI i))] [] (goW E ad (alF (usF V (ltF V (cmF V L W S (npV V)) (npV V)) (nhV V)) i) V X L W)) (npV V) ?_ (fun i hi ih => ?_)
              · refine Tr.iload dX3_goOn_123 rfl (Eq.refl 125) ?_
                refine Tr.aload_n (i := 1) dX3_goOn_125 rfl rfl (Eq.refl 126) ?_
                refine Tr.getf dX3_goOn_126 fX3_47 rfl rfl (Eq.refl 129) ?_
                refine Tr.icmp_geN (tgt := 155) dX3_goOn_129 (by decide) (Eq.refl 132) (by omega) (by omega) (fun h129 => ?_) (fun h129 => ?_)
                · refine Tr.aload_n (i := 0) dX3_goOn_155 rfl rfl (Eq.refl 156) ?_
                  refine Tr.dup dX3_goOn_156 rfl (Eq.refl 157) ?_
                  refine Tr.getf dX3_goOn_157 fX3_30 rfl rfl (Eq.refl 160) ?_
                  refine Tr.iconst (v := nI 1) dX3_goOn_160 (icN 1) (Eq.refl 161) ?_
                  refine Tr.iaddN dX3_goOn_161 (Eq.refl 162) ?_
                  refine Tr.putf dX3_goOn_162 pX3_30 rfl (rfl) rfl rfl (Eq.refl 165) ?_
                  refine Tr.ret dX3_goOn_165 rfl rfl ?_
                  · rfl
                · exact absurd h129 (by omega)
              · refine Tr.iload dX3_goOn_123 rfl (Eq.refl 125) ?_
                refine Tr.aload_n (i := 1) dX3_goOn_125 rfl rfl (Eq.refl 126) ?_
                refine Tr.getf dX3_goOn_126 fX3_47 rfl rfl (Eq.refl 129) ?_
                refine Tr.icmp_geN (tgt := 155) dX3_goOn_129 (by decide) (Eq.refl 132) (by omega) (by omega) (fun h129 => ?_) (fun h129 => ?_)
                · exact absurd h129 (by omega)
                · refine Tr.aload_n (i := 0) dX3_goOn_132 rfl rfl (Eq.refl 133) ?_
                  refine Tr.getf dX3_goOn_133 fX3_21 rfl rfl (Eq.refl 136) ?_
                  refine Tr.iload dX3_goOn_136 rfl (Eq.refl 138) ?_
                  refine Tr.dup2 dX3_goOn_138 rfl rfl (Eq.refl 139) ?_
                  refine Tr.ialdN dX3_goOn_139 rfl (by omega) (by decide) (Eq.refl 140) ?_
                  refine Tr.aload_n (i := 0) dX3_goOn_140 rfl rfl (Eq.refl 141) ?_
                  refine Tr.getf dX3_goOn_141 fX3_18 rfl rfl (Eq.refl 144) ?_
                  refine Tr.iload dX3_goOn_144 rfl (Eq.refl 146) ?_
                  refine Tr.ialdN dX3_goOn_146 rfl (by omega) (by decide) (Eq.refl 147) ?_
                  refine Tr.iadd dX3_goOn_147 (Eq.refl 148) ?_
                  refine Tr.iastN dX3_goOn_148 rfl (by omega) (by decide) (Eq.refl 149) ?_
                  refine Tr.iincN dX3_goOn_149 rfl rfl rfl (Eq.refl 152) ?_
                  refine Tr.goto (pc' := 123) dX3_goOn_152 (by decide) ?_
                  exact Tr.eqs rfl rfl rfl ih
            · exact absurd h104 (by omega)
          · refine Tr.iload dX3_goOn_98 rfl (Eq.refl 100) ?_
            refine Tr.aload_n (i := 1) dX3_goOn_100 rfl rfl (Eq.refl 101) ?_
            refine Tr.getf dX3_goOn_101 fX3_75 rfl rfl (Eq.refl 104) ?_
            refine Tr.icmp_geN (tgt := 120) dX3_goOn_104 (by decide) (Eq.refl 107) (by omega) (by omega) (fun h104 => ?_) (fun h104 => ?_)
            · exact absurd h104 (by omega)
            · refine Tr.aload_n (i := 0) dX3_goOn_107 rfl rfl (Eq.refl 108) ?_
              refine Tr.aload_n (i := 1) dX3_goOn_108 rfl rfl (Eq.refl 109) ?_
              refine Tr.iload dX3_goOn_109 rfl (Eq.refl 111) ?_
              refine Tr.callVs (c_useHouse E ad V X (usF V (ltF V (cmF V L W S (npV V)) (npV V)) i) L W i hV hi) dX3_goOn_111 (kX3_78 (Nat.le_of_ble_eq_true rfl)) iX3_useHouse rfl rfl rfl rfl rfl (Nat.le_refl _) rfl rfl (Eq.refl 114) ?_
              refine Tr.iincN dX3_goOn_114 rfl rfl rfl (Eq.refl 117) ?_
              refine Tr.goto (pc' := 98) dX3_goOn_117 (by decide) ?_
              exact Tr.eqs rfl rfl rfl ih
        · exact absurd h72 (by omega)
      · have h1 : Sle V (ltF V (cmF V L W S (npV V)) i) := by intro p hp; rw [ltF_wh]; exact cmF_le hS hW _ p hp
        refine Tr.iload dX3_goOn_66 rfl (Eq.refl 68) ?_
        refine Tr.aload_n (i := 1) dX3_goOn_68 rfl rfl (Eq.refl 69) ?_
        refine Tr.getf dX3_goOn_69 fX3_47 rfl rfl (Eq.refl 72) ?_
        refine Tr.icmp_geN (tgt := 95) dX3_goOn_72 (by decide) (Eq.refl 75) (by omega) (by omega) (fun h72 => ?_) (fun h72 => ?_)
        · exact absurd h72 (by omega)
        · refine Tr.aload_n (i := 0) dX3_goOn_75 rfl rfl (Eq.refl 76) ?_
          refine Tr.getf dX3_goOn_76 fX3_18 rfl rfl (Eq.refl 79) ?_
          refine Tr.iload dX3_goOn_79 rfl (Eq.refl 81) ?_
          refine Tr.aload_n (i := 0) dX3_goOn_81 rfl rfl (Eq.refl 82) ?_
          refine Tr.aload_n (i := 1) dX3_goOn_82 rfl rfl (Eq.refl 83) ?_
          refine Tr.iload dX3_goOn_83 rfl (Eq.refl 85) ?_
          refine Tr.callVs (c_gainOfTies E ad V X (ltF V (cmF V L W S (npV V)) i) L W i hV hi h1) dX3_goOn_85 (kX3_72 (Nat.le_of_ble_eq_true rfl)) iX3_gainOfTies rfl rfl rfl rfl rfl (Nat.le_refl _) rfl rfl (Eq.refl 88) ?_
          refine Tr.iastN dX3_goOn_88 rfl (by omega) (by decide) (Eq.refl 89) ?_
          refine Tr.iincN dX3_goOn_89 rfl rfl rfl (Eq.refl 92) ?_
          refine Tr.goto (pc' := 66) dX3_goOn_92 (by decide) ?_
          exact Tr.eqs rfl rfl rfl ih
    · exact absurd h17 (by omega)
  · have h1 := hW i hi
    have hb := mkF_bit W S v2 hi
    refine Tr.iload dX3_goOn_11 rfl (Eq.refl 13) ?_
    refine Tr.aload_n (i := 1) dX3_goOn_13 rfl rfl (Eq.refl 14) ?_
    refine Tr.getf dX3_goOn_14 fX3_47 rfl rfl (Eq.refl 17) ?_
    refine Tr.icmp_geN (tgt := 63) dX3_goOn_17 (by decide) (Eq.refl 20) (by omega) (by omega) (fun h17 => ?_) (fun h17 => ?_)
    · exact absurd h17 (by omega)
    · refine Tr.iload dX3_goOn_20 rfl (Eq.refl 22) ?_
      refine Tr.iload dX3_goOn_22 rfl (Eq.refl 24) ?_
      refine Tr.ishr dX3_goOn_24 (Eq.refl 25) ?_
      refine Tr.iconst (v := nI 1) dX3_goOn_25 (icN 1) (Eq.refl 26) ?_
      refine Tr.iand dX3_goOn_26 (Eq.refl 27) ?_
      refine Tr.iconst (v := nI 1) dX3_goOn_27 (icN 1) (Eq.refl 28) ?_
      refine Tr.icmp_ne (tgt := 57) dX3_goOn_28 (by decide) (Eq.refl 31) (fun h28 => ?_) (fun h28 => ?_)
      · have h28 : bt (mkF W S (npV V)) i = false := by simp [bt, h28]
        have hc : cmStep V L W S (cmF V L W S i) i = cmF V L W S i := by unfold cmStep; rw [← hb, h28]; rfl
        refine Tr.iincN dX3_goOn_57 rfl rfl rfl (Eq.refl 60) ?_
        refine Tr.goto (pc' := 11) dX3_goOn_60 (by decide) ?_
        refine Tr.eqs rfl rfl ?_ ih
        show _ = goW E ad (cmStep V L W S (cmF V L W S i) i) V X L W
        rw [hc]
        try (rw [← cl_upN]; rfl)
      · have h28 : bt (mkF W S (npV V)) i = true := by simp [bt, h28]
        refine Tr.aload_n (i := 0) dX3_goOn_31 rfl rfl (Eq.refl 32) ?_
        refine Tr.aload_n (i := 1) dX3_goOn_32 rfl rfl (Eq.refl 33) ?_
        refine Tr.aload_n (i := 2) dX3_goOn_33 rfl rfl (Eq.refl 34) ?_
        refine Tr.iload dX3_goOn_34 rfl (Eq.refl 36) ?_
        refine Tr.aload_n (i := 3) dX3_goOn_36 rfl rfl (Eq.refl 37) ?_
        refine Tr.iload dX3_goOn_37 rfl (Eq.refl 39) ?_
        refine Tr.ialdN dX3_goOn_39 rfl (by omega) (by decide) (Eq.refl 40) ?_
        refine Tr.callVs (c_mayCome E ad V X (cmF V L W S i) L W i (W i) hV hi h1) dX3_goOn_40 (kX3_68 (Nat.le_of_ble_eq_true rfl)) iX3_mayCome rfl rfl rfl rfl rfl (Nat.le_refl _) rfl rfl (Eq.refl 43) ?_
        refine Tr.if_eqB (tgt := 57) dX3_goOn_43 (by decide) (Eq.refl 46) (fun h43 => ?_) (fun h43 => ?_)
        · have hc : cmStep V L W S (cmF V L W S i) i = cmF V L W S i := by unfold cmStep; rw [← hb, h28, h43]; rfl
          refine Tr.iincN dX3_goOn_57 rfl rfl rfl (Eq.refl 60) ?_
          refine Tr.goto (pc' := 11) dX3_goOn_60 (by decide) ?_
          refine Tr.eqs rfl rfl ?_ ih
          show _ = goW E ad (cmStep V L W S (cmF V L W S i) i) V X L W
          rw [hc]
          try (rw [← cl_upN]; rfl)
        · have hc : cmStep V L W S (cmF V L W S i) i = (psS (cmF V L W S i), upN (whS (cmF V L W S i)) i (W i), sdS (cmF V L W S i), ltS (cmF V L W S i), alS (cmF V L W S i), soS (cmF V L W S i), stS (cmF V L W S i)) := by unfold cmStep; rw [← hb, h28, h43]; rfl
          refine Tr.aload_n (i := 0) dX3_goOn_46 rfl rfl (Eq.refl 47) ?_
          refine Tr.getf dX3_goOn_47 fX3_9 rfl rfl (Eq.refl 50) ?_
          refine Tr.iload dX3_goOn_50 rfl (Eq.refl 52) ?_
          refine Tr.aload_n (i := 3) dX3_goOn_52 rfl rfl (Eq.refl 53) ?_
          refine Tr.iload dX3_goOn_53 rfl (Eq.refl 55) ?_
          refine Tr.ialdN dX3_goOn_55 rfl (by omega) (by decide) (Eq.refl 56) ?_
          refine Tr.iastN dX3_goOn_56 rfl (by omega) (by decide) (Eq.refl 57) ?_
          refine Tr.iincN dX3_goOn_57 rfl rfl rfl (Eq.refl 60) ?_
          refine Tr.goto (pc' := 11) dX3_goOn_60 (by decide) ?_
          refine Tr.eqs rfl rfl ?_ ih
          show _ = goW E ad (cmStep V L W S (cmF V L W S i) i) V X L W
          rw [hc]
          try (rw [← cl_upN]; rfl)
