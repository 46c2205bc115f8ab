/-! Scene: who has a house -/
/-- the found one's stay -/
def fsI (S : Scn) (f : Nat) : Int32 := if f = 5 then nI 0 else sdS S f
set_option maxHeartbeats 4000000 in
set_option maxRecDepth 100000 in
theorem c_guestsIn (E : EnvT) (ad : Nat → Nat) (V : Vil) (X : Vix) (S : Scn) (h : Nat) (hV : Vok V) (hh : h < nhV V) : Md E mX3_guestsIn ad [.ref (ad 0), .ref (ad 7), .int (nI h)] (scC E ad 0 S ++ viC E ad 7 V X) (some (.int (nI (gue V S h)))) (scC E ad 0 S ++ viC E ad 7 V X) := by
  have v1 := hV.1
  have v2 := hV.2.1
  refine Md.of 2 (by decide) rfl rfl ?_
  refine Tr.iconst (v := nI 0) dX3_guestsIn_0 (icN 0) (Eq.refl 1) ?_
  refine Tr.istore_n (i := 3) dX3_guestsIn_1 rfl rfl rfl (Eq.refl 2) ?_
  refine Tr.iconst (v := nI 0) dX3_guestsIn_2 (icN 0) (Eq.refl 3) ?_
  refine Tr.istore dX3_guestsIn_3 rfl rfl (Eq.refl 5) ?_
  refine Tr.mask [true, true, true, true, true] (lv' := [some (.ref (ad 0)), some (.ref (ad 7)), some (.int (nI h)), some (.int (nI (guF V S h 0))), some (.int (nI 0))]) rfl ?_
  refine loopD (P := fun i => Tr _ 0 0 5 [some (.ref (ad 0)), some (.ref (ad 7)), some (.int (nI h)), some (.int (nI (guF V S h i))), some (.int (nI i))] [] _) (npV V) ?_ (fun i hi ih => ?_)
  · refine Tr.iload dX3_guestsIn_5 rfl (Eq.refl 7) ?_
    refine Tr.aload_n (i := 1) dX3_guestsIn_7 rfl rfl (Eq.refl 8) ?_
    refine Tr.getf dX3_guestsIn_8 fX3_47 rfl rfl (Eq.refl 11) ?_
    refine Tr.icmp_geN (tgt := 45) dX3_guestsIn_11 (by decide) (Eq.refl 14) (by omega) (by omega) (fun h11 => ?_) (fun h11 => ?_)
    · refine Tr.iload_n (i := 3) dX3_guestsIn_45 rfl rfl (Eq.refl 46) ?_
      refine Tr.iret dX3_guestsIn_46 rfl (by first | rfl | exact bI_nar _) ?_ ?_
      · rfl
      · rfl
    · exact absurd h11 (by omega)
  · have hg := guF_le V S h i
    refine Tr.iload dX3_guestsIn_5 rfl (Eq.refl 7) ?_
    refine Tr.aload_n (i := 1) dX3_guestsIn_7 rfl rfl (Eq.refl 8) ?_
    refine Tr.getf dX3_guestsIn_8 fX3_47 rfl rfl (Eq.refl 11) ?_
    refine Tr.icmp_geN (tgt := 45) dX3_guestsIn_11 (by decide) (Eq.refl 14) (by omega) (by omega) (fun h11 => ?_) (fun h11 => ?_)
    · exact absurd h11 (by omega)
    · refine Tr.aload_n (i := 0) dX3_guestsIn_14 rfl rfl (Eq.refl 15) ?_
      refine Tr.getf dX3_guestsIn_15 fX3_9 rfl rfl (Eq.refl 18) ?_
      refine Tr.iload dX3_guestsIn_18 rfl (Eq.refl 20) ?_
      refine Tr.ialdN dX3_guestsIn_20 rfl (by omega) (by decide) (Eq.refl 21) ?_
      refine Tr.iload_n (i := 2) dX3_guestsIn_21 rfl rfl (Eq.refl 22) ?_
      refine Tr.icmp_ne (tgt := 39) dX3_guestsIn_22 (by decide) (Eq.refl 25) (fun h22 => ?_) (fun h22 => ?_)
      · rw [cl_eq (by omega)] at h22
        refine Tr.iincN dX3_guestsIn_39 rfl rfl rfl (Eq.refl 42) ?_
        refine Tr.goto (pc' := 5) dX3_guestsIn_42 (by decide) ?_
        refine Tr.eqs ?_ rfl rfl ih
        simp [guF, gst, *]
      · rw [cl_eq (by omega)] at h22
        refine Tr.aload_n (i := 1) dX3_guestsIn_25 rfl rfl (Eq.refl 26) ?_
        refine Tr.getf dX3_guestsIn_26 fX3_50 rfl rfl (Eq.refl 29) ?_
        refine Tr.iload_n (i := 2) dX3_guestsIn_29 rfl rfl (Eq.refl 30) ?_
        refine Tr.ialdN dX3_guestsIn_30 rfl (by omega) (by decide) (Eq.refl 31) ?_
        refine Tr.iload dX3_guestsIn_31 rfl (Eq.refl 33) ?_
        refine Tr.icmp_eq (tgt := 39) dX3_guestsIn_33 (by decide) (Eq.refl 36) (fun h33 => ?_) (fun h33 => ?_)
        · rw [cl_eq (by omega)] at h33
          refine Tr.iincN dX3_guestsIn_39 rfl rfl rfl (Eq.refl 42) ?_
          refine Tr.goto (pc' := 5) dX3_guestsIn_42 (by decide) ?_
          refine Tr.eqs ?_ rfl rfl ih
          simp [guF, gst, *]
        · rw [cl_eq (by omega)] at h33
          refine Tr.iincN dX3_guestsIn_36 rfl rfl rfl (Eq.refl 39) ?_
          refine Tr.iincN dX3_guestsIn_39 rfl rfl rfl (Eq.refl 42) ?_
          refine Tr.goto (pc' := 5) dX3_guestsIn_42 (by decide) ?_
          refine Tr.eqs ?_ rfl rfl ih
          simp [guF, gst, *]
set_option maxHeartbeats 4000000 in
set_option maxRecDepth 100000 in
theorem c_haver (E : EnvT) (ad : Nat → Nat) (V : Vil) (X : Vix) (S : Scn) (h : Nat) (hV : Vok V) (hh : h < nhV V) : Md E mX3_haver ad [.ref (ad 0), .ref (ad 7), .int (nI h)] (scC E ad 0 S ++ viC E ad 7 V X) (some (.int (cl (hav V S h)))) (scC E ad 0 S ++ viC E ad 7 V X) := by
  have v1 := hV.1
  have v2 := hV.2.1
  have v3 := hV.2.2.1 h hh
  refine Md.of 5 (by decide) rfl rfl ?_
  refine Tr.aload_n (i := 1) dX3_haver_0 rfl rfl (Eq.refl 1) ?_
  refine Tr.getf dX3_haver_1 fX3_50 rfl rfl (Eq.refl 4) ?_
  refine Tr.iload_n (i := 2) dX3_haver_4 rfl rfl (Eq.refl 5) ?_
  refine Tr.ialdN dX3_haver_5 rfl (by omega) (by decide) (Eq.refl 6) ?_
  refine Tr.istore_n (i := 3) dX3_haver_6 rfl rfl rfl (Eq.refl 7) ?_
  refine Tr.iconst (v := (-1)) dX3_haver_7 (by decide +kernel) (Eq.refl 8) ?_
  refine Tr.istore dX3_haver_8 rfl rfl (Eq.refl 10) ?_
  refine Tr.iconst (v := nI 0) dX3_haver_10 (icN 0) (Eq.refl 11) ?_
  refine Tr.istore dX3_haver_11 rfl rfl (Eq.refl 13) ?_
  refine Tr.iconst (v := nI 0) dX3_haver_13 (icN 0) (Eq.refl 14) ?_
  refine Tr.istore dX3_haver_14 rfl rfl (Eq.refl 16) ?_
  refine Tr.mask [true, true, true, true, true, true, true, true] (lv' := [some (.ref (ad 0)), some (.ref (ad 7)), some (.int (nI h)), some (.int (cl (owV V h))), some (.int (cl (hvF V S h 0))), some (.int (fsI S (hvF V S h 0))), some (.int (nI 0)), none]) rfl ?_
  refine loopD (P := fun i => Tr _ 0 0 16 [some (.ref (ad 0)), some (.ref (ad 7)), some (.int (nI h)), some (.int (cl (owV V h))), some (.int (cl (hvF V S h i))), some (.int (fsI S (hvF V S h i))), some (.int (nI i)), none] [] _) (npV V) ?_ (fun i hi ih => ?_)
  · have hl := hvF_lt V S h (npV V)
    refine Tr.iload dX3_haver_16 rfl (Eq.refl 18) ?_
    refine Tr.aload_n (i := 1) dX3_haver_18 rfl rfl (Eq.refl 19) ?_
    refine Tr.getf dX3_haver_19 fX3_47 rfl rfl (Eq.refl 22) ?_
    refine Tr.icmp_geN (tgt := 134) dX3_haver_22 (by decide) (Eq.refl 25) (by omega) (by omega) (fun h22 => ?_) (fun h22 => ?_)
    · refine Tr.iload dX3_haver_134 rfl (Eq.refl 136) ?_
      refine Tr.iconst (v := (-1)) dX3_haver_136 (by decide +kernel) (Eq.refl 137) ?_
      refine Tr.icmp_ne (tgt := 157) dX3_haver_137 (by decide) (Eq.refl 140) (fun h137 => ?_) (fun h137 => ?_)
      · rw [cl_none] at h137
        refine Tr.iload dX3_haver_157 rfl (Eq.refl 159) ?_
        refine Tr.iret dX3_haver_159 rfl (by first | rfl | exact bI_nar _) ?_ ?_
        · simp only [hav]; rw [if_neg (by omega)]
        · rfl
      · rw [cl_none] at h137
        refine Tr.iload_n (i := 3) dX3_haver_140 rfl rfl (Eq.refl 141) ?_
        refine Tr.iconst (v := (-1)) dX3_haver_141 (by decide +kernel) (Eq.refl 142) ?_
        refine Tr.icmp_eq (tgt := 157) dX3_haver_142 (by decide) (Eq.refl 145) (fun h142 => ?_) (fun h142 => ?_)
        · rw [cl_none] at h142
          refine Tr.iload dX3_haver_157 rfl (Eq.refl 159) ?_
          refine Tr.iret dX3_haver_159 rfl (by first | rfl | exact bI_nar _) ?_ ?_
          · simp only [hav]; rw [if_neg (by omega)]
          · rfl
        · rw [cl_none] at h142
          refine Tr.aload_n (i := 0) dX3_haver_145 rfl rfl (Eq.refl 146) ?_
          refine Tr.getf dX3_haver_146 fX3_9 rfl rfl (Eq.refl 149) ?_
          rw [cl_lt (show owV V h < 5 by omega)]
          refine Tr.iload_n (i := 3) dX3_haver_149 rfl rfl (Eq.refl 150) ?_
          refine Tr.ialdN dX3_haver_150 rfl (by omega) (by decide) (Eq.refl 151) ?_
          refine Tr.iload_n (i := 2) dX3_haver_151 rfl rfl (Eq.refl 152) ?_
          refine Tr.icmp_ne (tgt := 157) dX3_haver_152 (by decide) (Eq.refl 155) (fun h152 => ?_) (fun h152 => ?_)
          · rw [cl_eq (by omega)] at h152
            refine Tr.iload dX3_haver_157 rfl (Eq.refl 159) ?_
            refine Tr.iret dX3_haver_159 rfl (by first | rfl | exact bI_nar _) ?_ ?_
            · simp only [hav]; rw [if_neg (by omega)]
            · rfl
          · rw [cl_eq (by omega)] at h152
            refine Tr.iload_n (i := 3) dX3_haver_155 rfl rfl (Eq.refl 156) ?_
            refine Tr.iret dX3_haver_156 rfl (by first | rfl | exact bI_nar _) ?_ ?_
            · simp only [hav]; rw [if_pos ⟨by omega, by omega, h152⟩, cl_lt (by omega)]
            · rfl
    · exact absurd h22 (by omega)
  · have hl := hvF_lt V S h i
    refine Tr.iload dX3_haver_16 rfl (Eq.refl 18) ?_
    refine Tr.aload_n (i := 1) dX3_haver_18 rfl rfl (Eq.refl 19) ?_
    refine Tr.getf dX3_haver_19 fX3_47 rfl rfl (Eq.refl 22) ?_
    refine Tr.icmp_geN (tgt := 134) dX3_haver_22 (by decide) (Eq.refl 25) (by omega) (by omega) (fun h22 => ?_) (fun h22 => ?_)
    · exact absurd h22 (by omega)
    · refine Tr.aload_n (i := 0) dX3_haver_25 rfl rfl (Eq.refl 26) ?_
      refine Tr.getf dX3_haver_26 fX3_9 rfl rfl (Eq.refl 29) ?_
      refine Tr.iload dX3_haver_29 rfl (Eq.refl 31) ?_
      refine Tr.ialdN dX3_haver_31 rfl (by omega) (by decide) (Eq.refl 32) ?_
      refine Tr.iload_n (i := 2) dX3_haver_32 rfl rfl (Eq.refl 33) ?_
      refine Tr.icmp_ne (tgt := 128) dX3_haver_33 (by decide) (Eq.refl 36) (fun h33 => ?_) (fun h33 => ?_)
      · rw [cl_eq (by omega)] at h33
        refine Tr.iincN dX3_haver_128 rfl rfl rfl (Eq.refl 131) ?_
        refine Tr.goto (pc' := 16) dX3_haver_131 (by decide) ?_
        refine Tr.mask [true, true, true, true, true, true, true, false] ?_ ih
        simp [lvm, hvF, cnt, gst, ahd, fsI, cl_lt (show i < 5 by omega), show ¬ i = 5 by omega, *]
      · rw [cl_eq (by omega)] at h33
        refine Tr.iload dX3_haver_36 rfl (Eq.refl 38) ?_
        refine Tr.iload_n (i := 3) dX3_haver_38 rfl rfl (Eq.refl 39) ?_
        refine Tr.icmp_eq (tgt := 128) dX3_haver_39 (by decide) (Eq.refl 42) (fun h39 => ?_) (fun h39 => ?_)
        · rw [eq_comm, cl_eq (by omega)] at h39
          refine Tr.iincN dX3_haver_128 rfl rfl rfl (Eq.refl 131) ?_
          refine Tr.goto (pc' := 16) dX3_haver_131 (by decide) ?_
          refine Tr.mask [true, true, true, true, true, true, true, false] ?_ ih
          simp [lvm, hvF, cnt, gst, ahd, fsI, cl_lt (show i < 5 by omega), show ¬ i = 5 by omega, *]
        · rw [eq_comm, cl_eq (by omega)] at h39
          refine Tr.aload_n (i := 0) dX3_haver_42 rfl rfl (Eq.refl 43) ?_
          refine Tr.getf dX3_haver_43 fX3_15 rfl rfl (Eq.refl 46) ?_
          refine Tr.iload dX3_haver_46 rfl (Eq.refl 48) ?_
          refine Tr.ialdN dX3_haver_48 rfl (by omega) (by decide) (Eq.refl 49) ?_
          refine Tr.aload_n (i := 1) dX3_haver_49 rfl rfl (Eq.refl 50) ?_
          refine Tr.getf dX3_haver_50 fX3_53 rfl rfl (Eq.refl 53) ?_
          refine Tr.iconst (v := nI 1) dX3_haver_53 (icN 1) (Eq.refl 54) ?_
          refine Tr.ialdN dX3_haver_54 rfl (by omega) (by decide) (Eq.refl 55) ?_
          refine Tr.icmp_geL (tgt := 128) dX3_haver_55 (by decide) (Eq.refl 58) (fun h55 => ?_) (fun h55 => ?_)
          · refine Tr.iincN dX3_haver_128 rfl rfl rfl (Eq.refl 131) ?_
            refine Tr.goto (pc' := 16) dX3_haver_131 (by decide) ?_
            refine Tr.mask [true, true, true, true, true, true, true, false] ?_ ih
            simp [lvm, hvF, cnt, gst, ahd, fsI, cl_lt (show i < 5 by omega), show ¬ i = 5 by omega, *]
          · refine Tr.aload_n (i := 1) dX3_haver_58 rfl rfl (Eq.refl 59) ?_
            refine Tr.getf dX3_haver_59 fX3_56 rfl rfl (Eq.refl 62) ?_
            refine Tr.if_eqB (tgt := 85) dX3_haver_62 (by decide) (Eq.refl 65) (fun h62 => ?_) (fun h62 => ?_)
            · refine Tr.aload_n (i := 0) dX3_haver_85 rfl rfl (Eq.refl 86) ?_
              refine Tr.getf dX3_haver_86 fX3_15 rfl rfl (Eq.refl 89) ?_
              refine Tr.iload dX3_haver_89 rfl (Eq.refl 91) ?_
              refine Tr.ialdN dX3_haver_91 rfl (by omega) (by decide) (Eq.refl 92) ?_
              refine Tr.iload dX3_haver_92 rfl (Eq.refl 94) ?_
              refine Tr.icmp_leL (tgt := 101) dX3_haver_94 (by decide) (Eq.refl 97) (fun h94 => ?_) (fun h94 => ?_)
              · refine Tr.iconst (v := nI 0) dX3_haver_101 (icN 0) (Eq.refl 102) ?_
                refine Tr.istore dX3_haver_102 rfl rfl (Eq.refl 104) ?_
                refine Tr.iload dX3_haver_104 rfl (Eq.refl 106) ?_
                refine Tr.iconst (v := (-1)) dX3_haver_106 (by decide +kernel) (Eq.refl 107) ?_
                refine Tr.icmp_eq (tgt := 115) dX3_haver_107 (by decide) (Eq.refl 110) (fun h107 => ?_) (fun h107 => ?_)
                · have h107 : hvF V S h i = 5 := by rw [cl_none] at h107; omega
                  refine Tr.iload dX3_haver_115 rfl (Eq.refl 117) ?_
                  refine Tr.istore dX3_haver_117 rfl rfl (Eq.refl 119) ?_
                  refine Tr.aload_n (i := 0) dX3_haver_119 rfl rfl (Eq.refl 120) ?_
                  refine Tr.getf dX3_haver_120 fX3_15 rfl rfl (Eq.refl 123) ?_
                  refine Tr.iload dX3_haver_123 rfl (Eq.refl 125) ?_
                  refine Tr.ialdN dX3_haver_125 rfl (by omega) (by decide) (Eq.refl 126) ?_
                  refine Tr.istore dX3_haver_126 rfl rfl (Eq.refl 128) ?_
                  refine Tr.iincN dX3_haver_128 rfl rfl rfl (Eq.refl 131) ?_
                  refine Tr.goto (pc' := 16) dX3_haver_131 (by decide) ?_
                  refine Tr.mask [true, true, true, true, true, true, true, false] ?_ ih
                  simp [lvm, hvF, cnt, gst, ahd, fsI, cl_lt (show i < 5 by omega), show ¬ i = 5 by omega, *]
                · have h107 : ¬ hvF V S h i = 5 := by rw [cl_none] at h107; omega
                  have hfs : fsI S (hvF V S h i) = sdS S (hvF V S h i) := if_neg h107
                  try rw [hfs] at h94
                  try rw [hfs] at h74
                  refine Tr.iload dX3_haver_110 rfl (Eq.refl 112) ?_
                  refine Tr.if_eq (tgt := 128) dX3_haver_112 (by decide) (Eq.refl 115) (fun _ => ?_) (fun h => absurd h (by decide))
                  refine Tr.iincN dX3_haver_128 rfl rfl rfl (Eq.refl 131) ?_
                  refine Tr.goto (pc' := 16) dX3_haver_131 (by decide) ?_
                  refine Tr.mask [true, true, true, true, true, true, true, false] ?_ ih
                  simp [lvm, hvF, cnt, gst, ahd, fsI, cl_lt (show i < 5 by omega), show ¬ i = 5 by omega, *]
              · refine Tr.iconst (v := nI 1) dX3_haver_97 (icN 1) (Eq.refl 98) ?_
                refine Tr.goto (pc' := 102) dX3_haver_98 (by decide) ?_
                refine Tr.istore dX3_haver_102 rfl rfl (Eq.refl 104) ?_
                refine Tr.iload dX3_haver_104 rfl (Eq.refl 106) ?_
                refine Tr.iconst (v := (-1)) dX3_haver_106 (by decide +kernel) (Eq.refl 107) ?_
                refine Tr.icmp_eq (tgt := 115) dX3_haver_107 (by decide) (Eq.refl 110) (fun h107 => ?_) (fun h107 => ?_)
                · have h107 : hvF V S h i = 5 := by rw [cl_none] at h107; omega
                  refine Tr.iload dX3_haver_115 rfl (Eq.refl 117) ?_
                  refine Tr.istore dX3_haver_117 rfl rfl (Eq.refl 119) ?_
                  refine Tr.aload_n (i := 0) dX3_haver_119 rfl rfl (Eq.refl 120) ?_
                  refine Tr.getf dX3_haver_120 fX3_15 rfl rfl (Eq.refl 123) ?_
                  refine Tr.iload dX3_haver_123 rfl (Eq.refl 125) ?_
                  refine Tr.ialdN dX3_haver_125 rfl (by omega) (by decide) (Eq.refl 126) ?_
                  refine Tr.istore dX3_haver_126 rfl rfl (Eq.refl 128) ?_
                  refine Tr.iincN dX3_haver_128 rfl rfl rfl (Eq.refl 131) ?_
                  refine Tr.goto (pc' := 16) dX3_haver_131 (by decide) ?_
                  refine Tr.mask [true, true, true, true, true, true, true, false] ?_ ih
                  simp [lvm, hvF, cnt, gst, ahd, fsI, cl_lt (show i < 5 by omega), show ¬ i = 5 by omega, *]
                · have h107 : ¬ hvF V S h i = 5 := by rw [cl_none] at h107; omega
                  have hfs : fsI S (hvF V S h i) = sdS S (hvF V S h i) := if_neg h107
                  try rw [hfs] at h94
                  try rw [hfs] at h74
                  refine Tr.iload dX3_haver_110 rfl (Eq.refl 112) ?_
                  refine Tr.if_eq (tgt := 128) dX3_haver_112 (by decide) (Eq.refl 115) (fun h => absurd h (by decide)) (fun _ => ?_)
                  refine Tr.iload dX3_haver_115 rfl (Eq.refl 117) ?_
                  refine Tr.istore dX3_haver_117 rfl rfl (Eq.refl 119) ?_
                  refine Tr.aload_n (i := 0) dX3_haver_119 rfl rfl (Eq.refl 120) ?_
                  refine Tr.getf dX3_haver_120 fX3_15 rfl rfl (Eq.refl 123) ?_
                  refine Tr.iload dX3_haver_123 rfl (Eq.refl 125) ?_
                  refine Tr.ialdN dX3_haver_125 rfl (by omega) (by decide) (Eq.refl 126) ?_
                  refine Tr.istore dX3_haver_126 rfl rfl (Eq.refl 128) ?_
                  refine Tr.iincN dX3_haver_128 rfl rfl rfl (Eq.refl 131) ?_
                  refine Tr.goto (pc' := 16) dX3_haver_131 (by decide) ?_
                  refine Tr.mask [true, true, true, true, true, true, true, false] ?_ ih
                  simp [lvm, hvF, cnt, gst, ahd, fsI, cl_lt (show i < 5 by omega), show ¬ i = 5 by omega, *]
            · refine Tr.aload_n (i := 0) dX3_haver_65 rfl rfl (Eq.refl 66) ?_
              refine Tr.getf dX3_haver_66 fX3_15 rfl rfl (Eq.refl 69) ?_
              refine Tr.iload dX3_haver_69 rfl (Eq.refl 71) ?_
              refine Tr.ialdN dX3_haver_71 rfl (by omega) (by decide) (Eq.refl 72) ?_
              refine Tr.iload dX3_haver_72 rfl (Eq.refl 74) ?_
              refine Tr.icmp_gt (tgt := 81) dX3_haver_74 (by decide) (Eq.refl 77) (fun h74 => ?_) (fun h74 => ?_)
              · refine Tr.iconst (v := nI 0) dX3_haver_81 (icN 0) (Eq.refl 82) ?_
                refine Tr.goto (pc' := 102) dX3_haver_82 (by decide) ?_
                refine Tr.istore dX3_haver_102 rfl rfl (Eq.refl 104) ?_
                refine Tr.iload dX3_haver_104 rfl (Eq.refl 106) ?_
                refine Tr.iconst (v := (-1)) dX3_haver_106 (by decide +kernel) (Eq.refl 107) ?_
                refine Tr.icmp_eq (tgt := 115) dX3_haver_107 (by decide) (Eq.refl 110) (fun h107 => ?_) (fun h107 => ?_)
                · have h107 : hvF V S h i = 5 := by rw [cl_none] at h107; omega
                  refine Tr.iload dX3_haver_115 rfl (Eq.refl 117) ?_
                  refine Tr.istore dX3_haver_117 rfl rfl (Eq.refl 119) ?_
                  refine Tr.aload_n (i := 0) dX3_haver_119 rfl rfl (Eq.refl 120) ?_
                  refine Tr.getf dX3_haver_120 fX3_15 rfl rfl (Eq.refl 123) ?_
                  refine Tr.iload dX3_haver_123 rfl (Eq.refl 125) ?_
                  refine Tr.ialdN dX3_haver_125 rfl (by omega) (by decide) (Eq.refl 126) ?_
                  refine Tr.istore dX3_haver_126 rfl rfl (Eq.refl 128) ?_
                  refine Tr.iincN dX3_haver_128 rfl rfl rfl (Eq.refl 131) ?_
                  refine Tr.goto (pc' := 16) dX3_haver_131 (by decide) ?_
                  refine Tr.mask [true, true, true, true, true, true, true, false] ?_ ih
                  simp [lvm, hvF, cnt, gst, ahd, fsI, cl_lt (show i < 5 by omega), show ¬ i = 5 by omega, *]
                · have h107 : ¬ hvF V S h i = 5 := by rw [cl_none] at h107; omega
                  have hfs : fsI S (hvF V S h i) = sdS S (hvF V S h i) := if_neg h107
                  try rw [hfs] at h94
                  try rw [hfs] at h74
                  refine Tr.iload dX3_haver_110 rfl (Eq.refl 112) ?_
                  refine Tr.if_eq (tgt := 128) dX3_haver_112 (by decide) (Eq.refl 115) (fun _ => ?_) (fun h => absurd h (by decide))
                  refine Tr.iincN dX3_haver_128 rfl rfl rfl (Eq.refl 131) ?_
                  refine Tr.goto (pc' := 16) dX3_haver_131 (by decide) ?_
                  refine Tr.mask [true, true, true, true, true, true, true, false] ?_ ih
                  simp [lvm, hvF, cnt, gst, ahd, fsI, cl_lt (show i < 5 by omega), show ¬ i = 5 by omega, *]
              · refine Tr.iconst (v := nI 1) dX3_haver_77 (icN 1) (Eq.refl 78) ?_
                refine Tr.goto (pc' := 102) dX3_haver_78 (by decide) ?_
                refine Tr.istore dX3_haver_102 rfl rfl (Eq.refl 104) ?_
                refine Tr.iload dX3_haver_104 rfl (Eq.refl 106) ?_
                refine Tr.iconst (v := (-1)) dX3_haver_106 (by decide +kernel) (Eq.refl 107) ?_
                refine Tr.icmp_eq (tgt := 115) dX3_haver_107 (by decide) (Eq.refl 110) (fun h107 => ?_) (fun h107 => ?_)
                · have h107 : hvF V S h i = 5 := by rw [cl_none] at h107; omega
                  refine Tr.iload dX3_haver_115 rfl (Eq.refl 117) ?_
                  refine Tr.istore dX3_haver_117 rfl rfl (Eq.refl 119) ?_
                  refine Tr.aload_n (i := 0) dX3_haver_119 rfl rfl (Eq.refl 120) ?_
                  refine Tr.getf dX3_haver_120 fX3_15 rfl rfl (Eq.refl 123) ?_
                  refine Tr.iload dX3_haver_123 rfl (Eq.refl 125) ?_
                  refine Tr.ialdN dX3_haver_125 rfl (by omega) (by decide) (Eq.refl 126) ?_
                  refine Tr.istore dX3_haver_126 rfl rfl (Eq.refl 128) ?_
                  refine Tr.iincN dX3_haver_128 rfl rfl rfl (Eq.refl 131) ?_
                  refine Tr.goto (pc' := 16) dX3_haver_131 (by decide) ?_
                  refine Tr.mask [true, true, true, true, true, true, true, false] ?_ ih
                  simp [lvm, hvF, cnt, gst, ahd, fsI, cl_lt (show i < 5 by omega), show ¬ i = 5 by omega, *]
                · have h107 : ¬ hvF V S h i = 5 := by rw [cl_none] at h107; omega
                  have hfs : fsI S (hvF V S h i) = sdS S (hvF V S h i) := if_neg h107
                  try rw [hfs] at h94
                  try rw [hfs] at h74
                  refine Tr.iload dX3_haver_110 rfl (Eq.refl 112) ?_
                  refine Tr.if_eq (tgt := 128) dX3_haver_112 (by decide) (Eq.refl 115) (fun h => absurd h (by decide)) (fun _ => ?_)
                  refine Tr.iload dX3_haver_115 rfl (Eq.refl 117) ?_
                  refine Tr.istore dX3_haver_117 rfl rfl (Eq.refl 119) ?_
                  refine Tr.aload_n (i := 0) dX3_haver_119 rfl rfl (Eq.refl 120) ?_
                  refine Tr.getf dX3_haver_120 fX3_15 rfl rfl (Eq.refl 123) ?_
                  refine Tr.iload dX3_haver_123 rfl (Eq.refl 125) ?_
                  refine Tr.ialdN dX3_haver_125 rfl (by omega) (by decide) (Eq.refl 126) ?_
                  refine Tr.istore dX3_haver_126 rfl rfl (Eq.refl 128) ?_
                  refine Tr.iincN dX3_haver_128 rfl rfl rfl (Eq.refl 131) ?_
                  refine Tr.goto (pc' := 16) dX3_haver_131 (by decide) ?_
                  refine Tr.mask [true, true, true, true, true, true, true, false] ?_ ih
                  simp [lvm, hvF, cnt, gst, ahd, fsI, cl_lt (show i < 5 by omega), show ¬ i = 5 by omega, *]
/-- of the first so many: how many count in h; how many of these stayed as f did -/
def cnF (V : Vil) (S : Scn) (h : Nat) : Nat → Nat
  | 0 => 0
  | p + 1 => if cnt V S h p then cnF V S h p + 1 else cnF V S h p
def akF (V : Vil) (S : Scn) (h f : Nat) : Nat → Nat
  | 0 => 0
  | p + 1 => if cnt V S h p && decide (sdS S p = sdS S f) then akF V S h f p + 1 else akF V S h f p
theorem cnF_le (V : Vil) (S : Scn) (h : Nat) : ∀ n, cnF V S h n ≤ n := by
  intro n
  induction n with
  | zero => exact Nat.le_refl 0
  | succ n ih => unfold cnF; split <;> omega
theorem akF_le (V : Vil) (S : Scn) (h f : Nat) : ∀ n, akF V S h f n ≤ n := by
  intro n
  induction n with
  | zero => exact Nat.le_refl 0
  | succ n ih => unfold akF; split <;> omega
def wrd (V : Vil) (S : Scn) (h : Nat) : Nat :=
  if hav V S h = 5 then 0 else if hav V S h = owV V h then 1 else if cnF V S h (npV V) = 1 then 2 else if akF V S h (hav V S h) (npV V) = 1 then 3 else 4
set_option maxHeartbeats 4000000 in
set_option maxRecDepth 100000 in
theorem c_wordOf (E : EnvT) (ad : Nat → Nat) (V : Vil) (X : Vix) (S : Scn) (h : Nat) (hV : Vok V) (hh : h < nhV V) : Md E mX3_wordOf ad [.ref (ad 0), .ref (ad 7), .int (nI h)] (scC E ad 0 S ++ viC E ad 7 V X) (some (.int (nI (wrd V S h)))) (scC E ad 0 S ++ viC E ad 7 V X) := by
  have v1 := hV.1
  have v2 := hV.2.1
  have v3 := hV.2.2.1 h hh
  have v4 := hav_lt hV S hh
  refine Md.of 5 (by decide) rfl rfl ?_
  refine Tr.aload_n (i := 0) dX3_wordOf_0 rfl rfl (Eq.refl 1) ?_
  refine Tr.aload_n (i := 1) dX3_wordOf_1 rfl rfl (Eq.refl 2) ?_
  refine Tr.iload_n (i := 2) dX3_wordOf_2 rfl rfl (Eq.refl 3) ?_
  refine Tr.callVs (c_haver E ad V X S h hV hh) dX3_wordOf_3 (kX3_60 (Nat.le_of_ble_eq_true rfl)) iX3_haver rfl rfl rfl rfl rfl (Nat.le_refl _) rfl rfl (Eq.refl 6) ?_
  refine Tr.istore_n (i := 3) dX3_wordOf_6 rfl rfl rfl (Eq.refl 7) ?_
  refine Tr.aload_n (i := 1) dX3_wordOf_7 rfl rfl (Eq.refl 8) ?_
  refine Tr.getf dX3_wordOf_8 fX3_50 rfl rfl (Eq.refl 11) ?_
  refine Tr.iload_n (i := 2) dX3_wordOf_11 rfl rfl (Eq.refl 12) ?_
  refine Tr.ialdN dX3_wordOf_12 rfl (by omega) (by decide) (Eq.refl 13) ?_
  refine Tr.istore dX3_wordOf_13 rfl rfl (Eq.refl 15) ?_
  refine Tr.iload_n (i := 3) dX3_wordOf_15 rfl rfl (Eq.refl 16) ?_
  refine Tr.iconst (v := (-1)) dX3_wordOf_16 (by decide +kernel) (Eq.refl 17) ?_
  refine Tr.icmp_ne (tgt := 22) dX3_wordOf_17 (by decide) (Eq.refl 20) (fun h17 => ?_) (fun h17 => ?_)
  · rw [cl_none] at h17
    refine Tr.iload_n (i := 3) dX3_wordOf_22 rfl rfl (Eq.refl 23) ?_
    refine Tr.iload dX3_wordOf_23 rfl (Eq.refl 25) ?_
    refine Tr.icmp_ne (tgt := 30) dX3_wordOf_25 (by decide) (Eq.refl 28) (fun h25 => ?_) (fun h25 => ?_)
    · rw [cl_inj (by omega) (by omega)] at h25
      refine Tr.iconst (v := nI 0) dX3_wordOf_30 (icN 0) (Eq.refl 31) ?_
      refine Tr.istore dX3_wordOf_31 rfl rfl (Eq.refl 33) ?_
      refine Tr.iconst (v := nI 0) dX3_wordOf_33 (icN 0) (Eq.refl 34) ?_
      refine Tr.istore dX3_wordOf_34 rfl rfl (Eq.refl 36) ?_
      refine Tr.iconst (v := nI 0) dX3_wordOf_36 (icN 0) (Eq.refl 37) ?_
      refine Tr.istore dX3_wordOf_37 rfl rfl (Eq.refl 39) ?_
      refine Tr.mask [true, true, true, true, true, true, true, true] (lv' := [some (.ref (ad 0)), some (.ref (ad 7)), some (.int (nI h)), some (.int (cl (hav V S h))), some (.int (cl (owV V h))), some (.int (nI (cnF V S h 0))), some (.int (nI (akF V S h (hav V S h) 0))), some (.int (nI 0))]) rfl ?_
      refine loopD (P := fun i => Tr _ 0 0 39 [some (.ref (ad 0)), some (.ref (ad 7)), some (.int (nI h)), some (.int (cl (hav V S h))), some (.int (cl (owV V h))), some (.int (nI (cnF V S h i))), some (.int (nI (akF V S h (hav V S h) i))), some (.int (nI i))] [] _) (npV V) ?_ (fun i hi ih => ?_)
      · have hc := cnF_le V S h (npV V)
        have hk := akF_le V S h (hav V S h) (npV V)
        refine Tr.iload dX3_wordOf_39 rfl (Eq.refl 41) ?_
        refine Tr.aload_n (i := 1) dX3_wordOf_41 rfl rfl (Eq.refl 42) ?_
        refine Tr.getf dX3_wordOf_42 fX3_47 rfl rfl (Eq.refl 45) ?_
        refine Tr.icmp_geN (tgt := 110) dX3_wordOf_45 (by decide) (Eq.refl 48) (by omega) (by omega) (fun h45 => ?_) (fun h45 => ?_)
        · refine Tr.iload dX3_wordOf_110 rfl (Eq.refl 112) ?_
          refine Tr.iconst (v := nI 1) dX3_wordOf_112 (icN 1) (Eq.refl 113) ?_
          refine Tr.icmp_neN (tgt := 118) dX3_wordOf_113 (by decide) (Eq.refl 116) (by omega) (by omega) (fun h113 => ?_) (fun h113 => ?_)
          · refine Tr.iload dX3_wordOf_118 rfl (Eq.refl 120) ?_
            refine Tr.iconst (v := nI 1) dX3_wordOf_120 (icN 1) (Eq.refl 121) ?_
            refine Tr.icmp_neN (tgt := 128) dX3_wordOf_121 (by decide) (Eq.refl 124) (by omega) (by omega) (fun h121 => ?_) (fun h121 => ?_)
            · refine Tr.iconst (v := nI 4) dX3_wordOf_128 (icN 4) (Eq.refl 129) ?_
              refine Tr.iret dX3_wordOf_129 rfl (by first | rfl | exact bI_nar _) ?_ ?_
              · simp only [wrd]; rw [if_neg (by omega), if_neg h25, if_neg h113]; simp [h121]
              · rfl
            · refine Tr.iconst (v := nI 3) dX3_wordOf_124 (icN 3) (Eq.refl 125) ?_
              refine Tr.goto (pc' := 129) dX3_wordOf_125 (by decide) ?_
              refine Tr.iret dX3_wordOf_129 rfl (by first | rfl | exact bI_nar _) ?_ ?_
              · simp only [wrd]; rw [if_neg (by omega), if_neg h25, if_neg h113]; simp [h121]
              · rfl
          · refine Tr.iconst (v := nI 2) dX3_wordOf_116 (icN 2) (Eq.refl 117) ?_
            refine Tr.iret dX3_wordOf_117 rfl (by first | rfl | exact bI_nar _) ?_ ?_
            · simp only [wrd]; rw [if_neg (by omega), if_neg h25, if_pos h113]
            · rfl
        · exact absurd h45 (by omega)
      · have hc := cnF_le V S h i
        have hk := akF_le V S h (hav V S h) i
        refine Tr.iload dX3_wordOf_39 rfl (Eq.refl 41) ?_
        refine Tr.aload_n (i := 1) dX3_wordOf_41 rfl rfl (Eq.refl 42) ?_
        refine Tr.getf dX3_wordOf_42 fX3_47 rfl rfl (Eq.refl 45) ?_
        refine Tr.icmp_geN (tgt := 110) dX3_wordOf_45 (by decide) (Eq.refl 48) (by omega) (by omega) (fun h45 => ?_) (fun h45 => ?_)
        · exact absurd h45 (by omega)
        · refine Tr.aload_n (i := 0) dX3_wordOf_48 rfl rfl (Eq.refl 49) ?_
          refine Tr.getf dX3_wordOf_49 fX3_9 rfl rfl (Eq.refl 52) ?_
          refine Tr.iload dX3_wordOf_52 rfl (Eq.refl 54) ?_
          refine Tr.ialdN dX3_wordOf_54 rfl (by omega) (by decide) (Eq.refl 55) ?_
          refine Tr.iload_n (i := 2) dX3_wordOf_55 rfl rfl (Eq.refl 56) ?_
          refine Tr.icmp_ne (tgt := 104) dX3_wordOf_56 (by decide) (Eq.refl 59) (fun h56 => ?_) (fun h56 => ?_)
          · rw [cl_eq (by omega)] at h56
            refine Tr.iincN dX3_wordOf_104 rfl rfl rfl (Eq.refl 107) ?_
            refine Tr.goto (pc' := 39) dX3_wordOf_107 (by decide) ?_
            refine Tr.eqs ?_ rfl rfl ih
            simp [cnF, akF, cnt, gst, cl_lt (show hav V S h < 5 by omega), *]
          · rw [cl_eq (by omega)] at h56
            refine Tr.iload dX3_wordOf_59 rfl (Eq.refl 61) ?_
            refine Tr.iload dX3_wordOf_61 rfl (Eq.refl 63) ?_
            refine Tr.icmp_eq (tgt := 104) dX3_wordOf_63 (by decide) (Eq.refl 66) (fun h63 => ?_) (fun h63 => ?_)
            · rw [eq_comm, cl_eq (by omega)] at h63
              refine Tr.iincN dX3_wordOf_104 rfl rfl rfl (Eq.refl 107) ?_
              refine Tr.goto (pc' := 39) dX3_wordOf_107 (by decide) ?_
              refine Tr.eqs ?_ rfl rfl ih
              simp [cnF, akF, cnt, gst, cl_lt (show hav V S h < 5 by omega), *]
            · rw [eq_comm, cl_eq (by omega)] at h63
              refine Tr.aload_n (i := 0) dX3_wordOf_66 rfl rfl (Eq.refl 67) ?_
              refine Tr.getf dX3_wordOf_67 fX3_15 rfl rfl (Eq.refl 70) ?_
              refine Tr.iload dX3_wordOf_70 rfl (Eq.refl 72) ?_
              refine Tr.ialdN dX3_wordOf_72 rfl (by omega) (by decide) (Eq.refl 73) ?_
              refine Tr.aload_n (i := 1) dX3_wordOf_73 rfl rfl (Eq.refl 74) ?_
              refine Tr.getf dX3_wordOf_74 fX3_53 rfl rfl (Eq.refl 77) ?_
              refine Tr.iconst (v := nI 1) dX3_wordOf_77 (icN 1) (Eq.refl 78) ?_
              refine Tr.ialdN dX3_wordOf_78 rfl (by omega) (by decide) (Eq.refl 79) ?_
              refine Tr.icmp_geL (tgt := 104) dX3_wordOf_79 (by decide) (Eq.refl 82) (fun h79 => ?_) (fun h79 => ?_)
              · refine Tr.iincN dX3_wordOf_104 rfl rfl rfl (Eq.refl 107) ?_
                refine Tr.goto (pc' := 39) dX3_wordOf_107 (by decide) ?_
                refine Tr.eqs ?_ rfl rfl ih
                simp [cnF, akF, cnt, gst, cl_lt (show hav V S h < 5 by omega), *]
              · refine Tr.iincN dX3_wordOf_82 rfl rfl rfl (Eq.refl 85) ?_
                refine Tr.aload_n (i := 0) dX3_wordOf_85 rfl rfl (Eq.refl 86) ?_
                refine Tr.getf dX3_wordOf_86 fX3_15 rfl rfl (Eq.refl 89) ?_
                refine Tr.iload dX3_wordOf_89 rfl (Eq.refl 91) ?_
                refine Tr.ialdN dX3_wordOf_91 rfl (by omega) (by decide) (Eq.refl 92) ?_
                refine Tr.aload_n (i := 0) dX3_wordOf_92 rfl rfl (Eq.refl 93) ?_
                refine Tr.getf dX3_wordOf_93 fX3_15 rfl rfl (Eq.refl 96) ?_
                rw [cl_lt (show hav V S h < 5 by omega)]
                refine Tr.iload_n (i := 3) dX3_wordOf_96 rfl rfl (Eq.refl 97) ?_
                refine Tr.ialdN dX3_wordOf_97 rfl (by omega) (by decide) (Eq.refl 98) ?_
                refine Tr.icmp_ne (tgt := 104) dX3_wordOf_98 (by decide) (Eq.refl 101) (fun h98 => ?_) (fun h98 => ?_)
                · refine Tr.iincN dX3_wordOf_104 rfl rfl rfl (Eq.refl 107) ?_
                  refine Tr.goto (pc' := 39) dX3_wordOf_107 (by decide) ?_
                  refine Tr.eqs ?_ rfl rfl ih
                  simp [cnF, akF, cnt, gst, cl_lt (show hav V S h < 5 by omega), *]
                · have h79b := h79
                  rw [h98] at h79b
                  refine Tr.iincN dX3_wordOf_101 rfl rfl rfl (Eq.refl 104) ?_
                  refine Tr.iincN dX3_wordOf_104 rfl rfl rfl (Eq.refl 107) ?_
                  refine Tr.goto (pc' := 39) dX3_wordOf_107 (by decide) ?_
                  refine Tr.eqs ?_ rfl rfl ih
                  simp [cnF, akF, cnt, gst, cl_lt (show hav V S h < 5 by omega), *]
    · rw [cl_inj (by omega) (by omega)] at h25
      refine Tr.iconst (v := nI 1) dX3_wordOf_28 (icN 1) (Eq.refl 29) ?_
      refine Tr.iret dX3_wordOf_29 rfl (by first | rfl | exact bI_nar _) ?_ ?_
      · simp only [wrd]; rw [if_neg (by omega), if_pos h25]
      · rfl
  · rw [cl_none] at h17
    refine Tr.iconst (v := nI 0) dX3_wordOf_20 (icN 0) (Eq.refl 21) ?_
    refine Tr.iret dX3_wordOf_21 rfl (by first | rfl | exact bI_nar _) ?_ ?_
    · simp only [wrd]; rw [if_pos (by omega)]
    · rfl
