/-! THE REFERENCE: persons -/
/-- ties of a new person cleared: the first so many -/
def ptF (n : Nat) (ti : Nat → Int32) (tt : Int32) : Nat → (Nat → Int32) × Int32
  | 0 => (ti, tt)
  | q + 1 => (upd (ptF n ti tt q).1 (5 * n + q) (nI 0), (ptF n ti tt q).2 &&& ((nI 1 <<< (nI (5 * n + q) &&& 31)) ^^^ (-1)))
def pR {len : Nat} (x : Rst len) (n j : Nat) : Rst len := (x.1, x.2.1, x.2.2.1, (nhV x.2.2.2.1, npV x.2.2.2.1, laV x.2.2.2.1, ruV x.2.2.2.1, woV x.2.2.2.1, owV x.2.2.2.1, upN (hoV x.2.2.2.1) n 5, upd (wkV x.2.2.2.1) n (nI 0), (ptF n (tiV x.2.2.2.1) x.2.2.2.2.1.2.2.1 j).1), (x.2.2.2.2.1.1, x.2.2.2.2.1.2.1, (ptF n (tiV x.2.2.2.1) x.2.2.2.2.1.2.2.1 j).2, x.2.2.2.2.1.2.2.2), x.2.2.2.2.2)
def sNP {len : Nat} (x : Rst len) : Rst len := (x.1, x.2.1, x.2.2.1, (nhV x.2.2.2.1, npV x.2.2.2.1 + 1, laV x.2.2.2.1, ruV x.2.2.2.1, woV x.2.2.2.1, owV x.2.2.2.1, hoV x.2.2.2.1, wkV x.2.2.2.1, tiV x.2.2.2.1), x.2.2.2.2)
def sOH {len : Nat} (x : Rst len) (n c : Nat) : Rst len := (x.1, x.2.1, x.2.2.1, (nhV x.2.2.2.1, npV x.2.2.2.1, laV x.2.2.2.1, ruV x.2.2.2.1, woV x.2.2.2.1, upN (owV x.2.2.2.1) c n, upN (hoV x.2.2.2.1) n c, wkV x.2.2.2.1, tiV x.2.2.2.1), x.2.2.2.2)
def rHc {len : Nat} (T : Nat → Nat) (y : Rst len) : Nat := fcN T len y.1.1 y.2.2.2.2.1.2.2.2.1 (nhV y.2.2.2.1)
/-- the house of the new one -/
def rP2 (T : Nat → Nat) {len : Nat} (n : Nat) (y : Rst len) : Bool × Rst len :=
  if tkK T len y.1.1 = 1 then (if rHc T y < 5 then (if owV y.2.2.2.1 (rHc T y) < 5 then (false, badR T y 3) else (true, sNP (advR T (sOH y n (rHc T y))))) else (false, badR T y 5)) else (false, badR T y 1)
def rP1 (T : Nat → Nat) {len : Nat} (n : Nat) (x : Rst len) : Bool × Rst len := if wdP T len x.1.1 2 then rP2 T n (advR T x) else (true, sNP x)
def rP0 (T : Nat → Nat) {len : Nat} (n : Nat) (y : Rst len) : Bool × Rst len := if frB T len y.1.1 y.2.2.2.2.1.2.2.2.2.2.2 n then rP1 T n (pR (fpR T n y) n 5) else (false, fpR T n y)
def rPs (T : Nat → Nat) {len : Nat} (z : Rst len) : Bool × Rst len := if npV z.2.2.2.1 = 5 then (false, badR T z 4) else rP0 T (npV z.2.2.2.1) (advR T z)
set_option maxHeartbeats 4000000 in
set_option maxRecDepth 100000 in
theorem m_readPerson (E : EnvT) (ad r : Nat → Nat) (i : Nat → Int32) (len : Nat) (T : Nat → Nat) (z : Rst len) (hl : len ≤ 900) (hTa : ∀ k, T k < 256) (hv : z.2.1 < 100000) (hh : nhV z.2.2.2.1 ≤ 5) (hn : npV z.2.2.2.1 ≤ 5) : Md E mX10_readPerson ad [.ref (ad 0)] (mrP E ad r i len T z) (some (.int (bI (rPs T z).1))) (mrP E ad r i len T (rPs T z).2) := by
  have hT : ∀ k, k < 900 → T k < 256 := fun k _ => hTa k
  have hv1 : (advR T z).2.1 < 100000 := tkV_lt hTa hv
  have hnn : npV (advR T z).2.2.2.1 = npV z.2.2.2.1 := rfl
  have hh1 : nhV (advR T z).2.2.2.1 ≤ 5 := hh
  unfold rPs
  refine Md.of 2 (by decide) rfl rfl ?_
  refine Tr.aload_n (i := 0) dX10_readPerson_0 rfl rfl (Eq.refl 1) ?_
  refine Tr.getf dX10_readPerson_1 fX10_102 rfl rfl (Eq.refl 4) ?_
  refine Tr.iconst (v := nI 5) dX10_readPerson_4 (icN 5) (Eq.refl 5) ?_
  refine Tr.icmp_neN (tgt := 14) dX10_readPerson_5 (by decide) (Eq.refl 8) (by omega) (by omega) (fun h5 => ?_) (fun h5 => ?_)
  · rw [if_neg h5]
    refine Tr.aload_n (i := 0) dX10_readPerson_14 rfl rfl (Eq.refl 15) ?_
    refine Tr.callV (L := [0, 1]) (m_scanV E _ (rR ad r) (iR z.2.2.2.1 z.2.2.2.2.1 i) len z.1 z.2.1 z.2.2.1 z.2.2.2.2.2.1 z.2.2.2.2.2.2 T hl hT) dX10_readPerson_15 (kX10_59 (Nat.le_of_ble_eq_true rfl)) iX10_scan rfl rfl rfl rfl rfl rfl rfl rfl rfl rfl (Eq.refl 18) ?_
    refine Tr.pic (w' := mrP E ad r i len T (advR T z)) (putB_eq (Lc := [2, 3, 4, 5, 6, 7, 8, 9, 10, 11]) 12 rfl rfl rfl rfl ⟨⟨_, rfl, rfl⟩, ⟨_, rfl, rfl⟩, ⟨_, rfl, rfl⟩, ⟨_, rfl, rfl⟩, ⟨_, rfl, rfl⟩, ⟨_, rfl, rfl⟩, ⟨_, rfl, rfl⟩, ⟨_, rfl, rfl⟩, ⟨_, rfl, rfl⟩, ⟨_, rfl, rfl⟩, trivial⟩ (by decide) rfl) ?_
    generalize advR T z = y at *
    have h5b : npV y.2.2.2.1 < 5 := by omega
    rw [← hnn]
    unfold rP0
    generalize hhn : npV y.2.2.2.1 = n at *
    refine Tr.aload_n (i := 0) dX10_readPerson_18 rfl rfl (Eq.refl 19) ?_
    refine Tr.getf dX10_readPerson_19 fX10_102 rfl rfl (Eq.refl 22) ?_
    rw [hhn]
    refine Tr.istore_n (i := 1) dX10_readPerson_22 rfl rfl rfl (Eq.refl 23) ?_
    refine Tr.aload_n (i := 0) dX10_readPerson_23 rfl rfl (Eq.refl 24) ?_
    refine Tr.aload_n (i := 0) dX10_readPerson_24 rfl rfl (Eq.refl 25) ?_
    refine Tr.getf dX10_readPerson_25 fX10_105 rfl rfl (Eq.refl 28) ?_
    refine Tr.iload_n (i := 1) dX10_readPerson_28 rfl rfl (Eq.refl 29) ?_
    refine Tr.callV (L := [0, 1, 11]) (m_freshS E _ (rR ad r) (iR y.2.2.2.1 y.2.2.2.2.1 i) len y.1 y.2.1 y.2.2.1 y.2.2.2.2.2.1 y.2.2.2.2.2.2 T y.2.2.2.2.1.2.2.2.2.2.2 n hl hT (by omega)) dX10_readPerson_29 (kX10_81 (Nat.le_of_ble_eq_true rfl)) iX10_fresh rfl rfl rfl rfl rfl rfl rfl rfl rfl rfl (Eq.refl 32) ?_
    refine Tr.pic (w' := mrP E ad r i len T (fpR T n y)) (putB_eq (Lc := [2, 3, 4, 5, 6, 7, 8, 9, 10]) 12 rfl rfl rfl rfl ⟨⟨_, rfl, rfl⟩, ⟨_, rfl, rfl⟩, ⟨_, rfl, rfl⟩, ⟨_, rfl, rfl⟩, ⟨_, rfl, rfl⟩, ⟨_, rfl, rfl⟩, ⟨_, rfl, rfl⟩, ⟨_, rfl, rfl⟩, ⟨_, rfl, rfl⟩, trivial⟩ (by decide) rfl) ?_
    have hv1b : (fpR T n y).2.1 < 100000 := fsT_v hTa hv1
    have hhb : nhV (fpR T n y).2.2.2.1 ≤ 5 := hh1
    generalize fpR T n y = x at *
    refine Tr.if_neB (tgt := 37) dX10_readPerson_32 (by decide) (Eq.refl 35) (fun h32 => ?_) (fun h32 => ?_)
    · rw [if_pos h32]
      refine Tr.aload_n (i := 0) dX10_readPerson_37 rfl rfl (Eq.refl 38) ?_
      refine Tr.getf dX10_readPerson_38 fX10_108 rfl rfl (Eq.refl 41) ?_
      refine Tr.iload_n (i := 1) dX10_readPerson_41 rfl rfl (Eq.refl 42) ?_
      refine Tr.iconst (v := (-1)) dX10_readPerson_42 (by decide +kernel) (Eq.refl 43) ?_
      refine Tr.iastN dX10_readPerson_43 rfl (by omega) (by decide) (Eq.refl 44) ?_
      refine Tr.aload_n (i := 0) dX10_readPerson_44 rfl rfl (Eq.refl 45) ?_
      refine Tr.getf dX10_readPerson_45 fX10_111 rfl rfl (Eq.refl 48) ?_
      refine Tr.iload_n (i := 1) dX10_readPerson_48 rfl rfl (Eq.refl 49) ?_
      refine Tr.iconst (v := nI 0) dX10_readPerson_49 (icN 0) (Eq.refl 50) ?_
      refine Tr.iastN dX10_readPerson_50 rfl (by omega) (by decide) (Eq.refl 51) ?_
      refine Tr.iconst (v := nI 0) dX10_readPerson_51 (icN 0) (Eq.refl 52) ?_
      refine Tr.istore_n (i := 2) dX10_readPerson_52 rfl rfl rfl (Eq.refl 53) ?_
      skip
      refine Tr.mask [true, true, true] (lv' := [some (.ref (ad 0)), some (.int (nI n)), some (.int (nI 0))]) rfl ?_
      refine Tr.pic (w' := mrP E ad r i len T (pR x n 0)) (by unfold mrP mrC pR; rw [show (fun k => cl (hoV (nhV x.2.2.2.1, npV x.2.2.2.1, laV x.2.2.2.1, ruV x.2.2.2.1, woV x.2.2.2.1, owV x.2.2.2.1, upN (hoV x.2.2.2.1) n 5, upd (wkV x.2.2.2.1) n (nI 0), (ptF n (tiV x.2.2.2.1) x.2.2.2.2.1.2.2.1 0).1) k)) = upd (fun k => cl (hoV x.2.2.2.1 k)) n (-1) from cl_upN _ _ 5]; rfl) ?_
      refine loopD (P := fun j => Tr _ 0 0 53 [some (.ref (ad 0)), some (.int (nI n)), some (.int (nI j))] [] (mrP E ad r i len T (pR x n j))) 5 ?_ (fun j hj ih => ?_)
      · have hv2 : (pR x n 5).2.1 < 100000 := hv1b
        have hh2 : nhV (pR x n 5).2.2.2.1 ≤ 5 := hhb
        generalize (pR x n 5) = x2 at *
        refine Tr.iload_n (i := 2) dX10_readPerson_53 rfl rfl (Eq.refl 54) ?_
        refine Tr.iconst (v := nI 5) dX10_readPerson_54 (icN 5) (Eq.refl 55) ?_
        refine Tr.icmp_geN (tgt := 93) dX10_readPerson_55 (by decide) (Eq.refl 58) (by omega) (by omega) (fun h55 => ?_) (fun h55 => ?_)
        · skip
          have hk := tkH_lt T len x2.1.1
          have hse := tkE_le T (Nat.le_of_lt_succ x2.1.2)
          have hv3 : (advR T x2).2.1 < 100000 := tkV_lt hTa hv2
          have hh3 : nhV (advR T x2).2.2.2.1 ≤ 5 := hh2
          unfold rP1
          refine Tr.aload_n (i := 0) dX10_readPerson_93 rfl rfl (Eq.refl 94) ?_
          refine Tr.ldcS dX10_readPerson_94 (by decide +kernel : (RX10, 120, 2) ∈ strT) (Eq.refl 96) ?_
          refine Tr.callVr (L := [0, 1]) (m_is E _ (rR ad r) (iV x2.2.2.1 x2.2.2.2.2.2.1 x2.2.2.2.2.2.2 (iR x2.2.2.2.1 x2.2.2.2.2.1 i)) len (tkS T len x2.1.1) (tkE T len x2.1.1) (tkH T len x2.1.1) x2.2.1 T 2 (by decide) hl hT hse.1 hse.2 (by omega)) dX10_readPerson_96 (kX10_122 (Nat.le_of_ble_eq_true rfl)) iX10_is rfl rfl rfl rfl rfl rfl rfl rfl rfl (Eq.refl 99) ?_
          rw [wdH]
          refine Tr.if_eqB (tgt := 183) dX10_readPerson_99 (by decide) (Eq.refl 102) (fun h99 => ?_) (fun h99 => ?_)
          · rw [if_neg (by rw [h99]; decide)]
            refine Tr.aload_n (i := 0) dX10_readPerson_183 rfl rfl (Eq.refl 184) ?_
            refine Tr.dup dX10_readPerson_184 rfl (Eq.refl 185) ?_
            refine Tr.getf dX10_readPerson_185 fX10_102 rfl rfl (Eq.refl 188) ?_
            refine Tr.iconst (v := nI 1) dX10_readPerson_188 (icN 1) (Eq.refl 189) ?_
            refine Tr.iaddN dX10_readPerson_189 (Eq.refl 190) ?_
            refine Tr.putf dX10_readPerson_190 pX10_102 rfl (rfl) (rfl) rfl (Eq.refl 193) ?_
            refine Tr.iconst (v := nI 1) dX10_readPerson_193 (icN 1) (Eq.refl 194) ?_
            refine Tr.iret dX10_readPerson_194 rfl (by first | rfl | exact bI_nar _) ?_ ?_
            · rfl
            · rfl
          · rw [if_pos h99]
            refine Tr.aload_n (i := 0) dX10_readPerson_102 rfl rfl (Eq.refl 103) ?_
            refine Tr.callV (L := [0, 1]) (m_scanV E _ (rR ad r) (iR x2.2.2.2.1 x2.2.2.2.2.1 i) len x2.1 x2.2.1 x2.2.2.1 x2.2.2.2.2.2.1 x2.2.2.2.2.2.2 T hl hT) dX10_readPerson_103 (kX10_59 (Nat.le_of_ble_eq_true rfl)) iX10_scan rfl rfl rfl rfl rfl rfl rfl rfl rfl rfl (Eq.refl 106) ?_
            refine Tr.pic (w' := mrP E ad r i len T (advR T x2)) (putB_eq (Lc := [2, 3, 4, 5, 6, 7, 8, 9, 10, 11]) 12 rfl rfl rfl rfl ⟨⟨_, rfl, rfl⟩, ⟨_, rfl, rfl⟩, ⟨_, rfl, rfl⟩, ⟨_, rfl, rfl⟩, ⟨_, rfl, rfl⟩, ⟨_, rfl, rfl⟩, ⟨_, rfl, rfl⟩, ⟨_, rfl, rfl⟩, ⟨_, rfl, rfl⟩, ⟨_, rfl, rfl⟩, trivial⟩ (by decide) rfl) ?_
            generalize advR T x2 = w at *
            have hkw := tkH_lt T len w.1.1
            have h2 := tkH_1 (T := T) (len := len) (p := w.1.1) (k := 1) (by decide)
            have hfl : rHc T w < 0 + nhV w.2.2.2.1 ∨ rHc T w = 5 := fnd_lt _ _ _ 0 (by omega)
            unfold rP2
            refine Tr.aload_n (i := 0) dX10_readPerson_106 rfl rfl (Eq.refl 107) ?_
            refine Tr.getf dX10_readPerson_107 fX10_27 rfl rfl (Eq.refl 110) ?_
            refine Tr.iconst (v := nI 1) dX10_readPerson_110 (icN 1) (Eq.refl 111) ?_
            refine Tr.icmp_eqN (tgt := 120) dX10_readPerson_111 (by decide) (Eq.refl 114) (by omega) (by omega) (fun h111 => ?_) (fun h111 => ?_)
            · have h111 := h2.mp h111
              rw [if_pos h111]
              refine Tr.aload_n (i := 0) dX10_readPerson_120 rfl rfl (Eq.refl 121) ?_
              refine Tr.aload_n (i := 0) dX10_readPerson_121 rfl rfl (Eq.refl 122) ?_
              refine Tr.getf dX10_readPerson_122 fX10_77 rfl rfl (Eq.refl 125) ?_
              refine Tr.aload_n (i := 0) dX10_readPerson_125 rfl rfl (Eq.refl 126) ?_
              refine Tr.getf dX10_readPerson_126 fX10_74 rfl rfl (Eq.refl 129) ?_
              refine Tr.callVr (L := [0, 1, 10]) (m_find E _ (rR ad r) (iR w.2.2.2.1 w.2.2.2.2.1 i) len w.1 w.2.1 w.2.2.1 w.2.2.2.2.2.1 w.2.2.2.2.2.2 T w.2.2.2.2.1.2.2.2.1 (nhV w.2.2.2.1) hl hT h111 hh3) dX10_readPerson_129 (kX10_67 (Nat.le_of_ble_eq_true rfl)) iX10_find rfl rfl rfl rfl rfl rfl rfl rfl rfl (Eq.refl 132) ?_
              refine Tr.top (y := cl (rHc T w)) rfl ?_
              generalize rHc T w = c at *
              refine Tr.istore_n (i := 2) dX10_readPerson_132 rfl rfl rfl (Eq.refl 133) ?_
              refine Tr.iload_n (i := 2) dX10_readPerson_133 rfl rfl (Eq.refl 134) ?_
              refine Tr.iconst (v := (-1)) dX10_readPerson_134 (by decide +kernel) (Eq.refl 135) ?_
              refine Tr.icmp_eq (tgt := 154) dX10_readPerson_135 (by decide) (Eq.refl 138) (fun h135 => ?_) (fun h135 => ?_)
              · rw [cl_none] at h135
                rw [if_neg h135, cl_ge h135]
                refine Tr.iload_n (i := 2) dX10_readPerson_154 rfl rfl (Eq.refl 155) ?_
                refine Tr.iconst (v := (-1)) dX10_readPerson_155 (by decide +kernel) (Eq.refl 156) ?_
                refine Tr.icmp_ne (tgt := 165) dX10_readPerson_156 (by decide) (Eq.refl 159) (fun h156 => ?_) (fun h156 => ?_)
                · exact absurd rfl h156
                · refine Tr.aload_n (i := 0) dX10_readPerson_159 rfl rfl (Eq.refl 160) ?_
                  refine Tr.iconst (v := nI 5) dX10_readPerson_160 (icN 5) (Eq.refl 161) ?_
                  refine Tr.callV (L := [0, 1]) (m_bad E _ (rR ad r) (iR w.2.2.2.1 w.2.2.2.2.1 i) len w.1 w.2.1 w.2.2.1 w.2.2.2.2.2.1 w.2.2.2.2.2.2 T 5) dX10_readPerson_161 (kX10_49 (Nat.le_of_ble_eq_true rfl)) iX10_bad rfl rfl rfl rfl rfl rfl rfl rfl rfl rfl (Eq.refl 164) ?_
                  refine Tr.pic (w' := mrP E ad r i len T (badR T w 5)) (putB_eq (Lc := [2, 3, 4, 5, 6, 7, 8, 9, 10, 11]) 12 rfl rfl rfl rfl ⟨⟨_, rfl, rfl⟩, ⟨_, rfl, rfl⟩, ⟨_, rfl, rfl⟩, ⟨_, rfl, rfl⟩, ⟨_, rfl, rfl⟩, ⟨_, rfl, rfl⟩, ⟨_, rfl, rfl⟩, ⟨_, rfl, rfl⟩, ⟨_, rfl, rfl⟩, ⟨_, rfl, rfl⟩, trivial⟩ (by decide) rfl) ?_
                  refine Tr.iret dX10_readPerson_164 rfl (by first | rfl | exact bI_nar _) ?_ ?_
                  · rfl
                  · rfl
              · rw [cl_none] at h135
                have hc5 : c < 5 := by omega
                rw [if_pos hc5, cl_lt hc5]
                refine Tr.aload_n (i := 0) dX10_readPerson_138 rfl rfl (Eq.refl 139) ?_
                refine Tr.getf dX10_readPerson_139 fX10_99 rfl rfl (Eq.refl 142) ?_
                refine Tr.iload_n (i := 2) dX10_readPerson_142 rfl rfl (Eq.refl 143) ?_
                refine Tr.ialdN dX10_readPerson_143 rfl (by omega) (by decide) (Eq.refl 144) ?_
                refine Tr.iconst (v := (-1)) dX10_readPerson_144 (by decide +kernel) (Eq.refl 145) ?_
                refine Tr.icmp_eq (tgt := 154) dX10_readPerson_145 (by decide) (Eq.refl 148) (fun h145 => ?_) (fun h145 => ?_)
                · rw [cl_none] at h145
                  rw [if_neg h145]
                  refine Tr.iload_n (i := 2) dX10_readPerson_154 rfl rfl (Eq.refl 155) ?_
                  refine Tr.iconst (v := (-1)) dX10_readPerson_155 (by decide +kernel) (Eq.refl 156) ?_
                  refine Tr.icmp_ne (tgt := 165) dX10_readPerson_156 (by decide) (Eq.refl 159) (fun h156 => ?_) (fun h156 => ?_)
                  · refine Tr.aload_n (i := 0) dX10_readPerson_165 rfl rfl (Eq.refl 166) ?_
                    refine Tr.getf dX10_readPerson_166 fX10_99 rfl rfl (Eq.refl 169) ?_
                    refine Tr.iload_n (i := 2) dX10_readPerson_169 rfl rfl (Eq.refl 170) ?_
                    refine Tr.iload_n (i := 1) dX10_readPerson_170 rfl rfl (Eq.refl 171) ?_
                    refine Tr.iastN dX10_readPerson_171 rfl (by omega) (by decide) (Eq.refl 172) ?_
                    refine Tr.aload_n (i := 0) dX10_readPerson_172 rfl rfl (Eq.refl 173) ?_
                    refine Tr.getf dX10_readPerson_173 fX10_108 rfl rfl (Eq.refl 176) ?_
                    refine Tr.iload_n (i := 1) dX10_readPerson_176 rfl rfl (Eq.refl 177) ?_
                    refine Tr.iload_n (i := 2) dX10_readPerson_177 rfl rfl (Eq.refl 178) ?_
                    refine Tr.iastN dX10_readPerson_178 rfl (by omega) (by decide) (Eq.refl 179) ?_
                    refine Tr.pic (w' := mrP E ad r i len T (sOH w n c)) (by unfold mrP mrC sOH; rw [show (fun k => cl (owV (nhV w.2.2.2.1, npV w.2.2.2.1, laV w.2.2.2.1, ruV w.2.2.2.1, woV w.2.2.2.1, upN (owV w.2.2.2.1) c n, upN (hoV w.2.2.2.1) n c, wkV w.2.2.2.1, tiV w.2.2.2.1) k)) = upd (fun k => cl (owV w.2.2.2.1 k)) c (nI n) from by rw [← cl_lt (show n < 5 by omega)]; exact cl_upN _ _ _, show (fun k => cl (hoV (nhV w.2.2.2.1, npV w.2.2.2.1, laV w.2.2.2.1, ruV w.2.2.2.1, woV w.2.2.2.1, upN (owV w.2.2.2.1) c n, upN (hoV w.2.2.2.1) n c, wkV w.2.2.2.1, tiV w.2.2.2.1) k)) = upd (fun k => cl (hoV w.2.2.2.1 k)) n (nI c) from by rw [← cl_lt hc5]; exact cl_upN _ _ _]; rfl) ?_
                    refine Tr.aload_n (i := 0) dX10_readPerson_179 rfl rfl (Eq.refl 180) ?_
                    refine Tr.callV (L := [0, 1]) (m_scanV E _ (rR ad r) (iR (sOH w n c).2.2.2.1 (sOH w n c).2.2.2.2.1 i) len (sOH w n c).1 (sOH w n c).2.1 (sOH w n c).2.2.1 (sOH w n c).2.2.2.2.2.1 (sOH w n c).2.2.2.2.2.2 T hl hT) dX10_readPerson_180 (kX10_59 (Nat.le_of_ble_eq_true rfl)) iX10_scan rfl rfl rfl rfl rfl rfl rfl rfl rfl rfl (Eq.refl 183) ?_
                    refine Tr.pic (w' := mrP E ad r i len T (advR T (sOH w n c))) (putB_eq (Lc := [2, 3, 4, 5, 6, 7, 8, 9, 10, 11]) 12 rfl rfl rfl rfl ⟨⟨_, rfl, rfl⟩, ⟨_, rfl, rfl⟩, ⟨_, rfl, rfl⟩, ⟨_, rfl, rfl⟩, ⟨_, rfl, rfl⟩, ⟨_, rfl, rfl⟩, ⟨_, rfl, rfl⟩, ⟨_, rfl, rfl⟩, ⟨_, rfl, rfl⟩, ⟨_, rfl, rfl⟩, trivial⟩ (by decide) rfl) ?_
                    generalize advR T (sOH w n c) = x3 at *
                    refine Tr.aload_n (i := 0) dX10_readPerson_183 rfl rfl (Eq.refl 184) ?_
                    refine Tr.dup dX10_readPerson_184 rfl (Eq.refl 185) ?_
                    refine Tr.getf dX10_readPerson_185 fX10_102 rfl rfl (Eq.refl 188) ?_
                    refine Tr.iconst (v := nI 1) dX10_readPerson_188 (icN 1) (Eq.refl 189) ?_
                    refine Tr.iaddN dX10_readPerson_189 (Eq.refl 190) ?_
                    refine Tr.putf dX10_readPerson_190 pX10_102 rfl (rfl) (rfl) rfl (Eq.refl 193) ?_
                    refine Tr.iconst (v := nI 1) dX10_readPerson_193 (icN 1) (Eq.refl 194) ?_
                    refine Tr.iret dX10_readPerson_194 rfl (by first | rfl | exact bI_nar _) ?_ ?_
                    · rfl
                    · rfl
                  · exact absurd h156 (nI_nm1 (by omega))
                · rw [cl_none] at h145
                  rw [if_pos (by omega)]
                  refine Tr.aload_n (i := 0) dX10_readPerson_148 rfl rfl (Eq.refl 149) ?_
                  refine Tr.iconst (v := nI 3) dX10_readPerson_149 (icN 3) (Eq.refl 150) ?_
                  refine Tr.callV (L := [0, 1]) (m_bad E _ (rR ad r) (iR w.2.2.2.1 w.2.2.2.2.1 i) len w.1 w.2.1 w.2.2.1 w.2.2.2.2.2.1 w.2.2.2.2.2.2 T 3) dX10_readPerson_150 (kX10_49 (Nat.le_of_ble_eq_true rfl)) iX10_bad rfl rfl rfl rfl rfl rfl rfl rfl rfl rfl (Eq.refl 153) ?_
                  refine Tr.pic (w' := mrP E ad r i len T (badR T w 3)) (putB_eq (Lc := [2, 3, 4, 5, 6, 7, 8, 9, 10, 11]) 12 rfl rfl rfl rfl ⟨⟨_, rfl, rfl⟩, ⟨_, rfl, rfl⟩, ⟨_, rfl, rfl⟩, ⟨_, rfl, rfl⟩, ⟨_, rfl, rfl⟩, ⟨_, rfl, rfl⟩, ⟨_, rfl, rfl⟩, ⟨_, rfl, rfl⟩, ⟨_, rfl, rfl⟩, ⟨_, rfl, rfl⟩, trivial⟩ (by decide) rfl) ?_
                  refine Tr.iret dX10_readPerson_153 rfl (by first | rfl | exact bI_nar _) ?_ ?_
                  · rfl
                  · rfl
            · have h111 : ¬ tkK T len w.1.1 = 1 := fun z9 => h111 (h2.mpr z9)
              rw [if_neg h111]
              refine Tr.aload_n (i := 0) dX10_readPerson_114 rfl rfl (Eq.refl 115) ?_
              refine Tr.iconst (v := nI 1) dX10_readPerson_115 (icN 1) (Eq.refl 116) ?_
              refine Tr.callV (L := [0, 1]) (m_bad E _ (rR ad r) (iR w.2.2.2.1 w.2.2.2.2.1 i) len w.1 w.2.1 w.2.2.1 w.2.2.2.2.2.1 w.2.2.2.2.2.2 T 1) dX10_readPerson_116 (kX10_49 (Nat.le_of_ble_eq_true rfl)) iX10_bad rfl rfl rfl rfl rfl rfl rfl rfl rfl rfl (Eq.refl 119) ?_
              refine Tr.pic (w' := mrP E ad r i len T (badR T w 1)) (putB_eq (Lc := [2, 3, 4, 5, 6, 7, 8, 9, 10, 11]) 12 rfl rfl rfl rfl ⟨⟨_, rfl, rfl⟩, ⟨_, rfl, rfl⟩, ⟨_, rfl, rfl⟩, ⟨_, rfl, rfl⟩, ⟨_, rfl, rfl⟩, ⟨_, rfl, rfl⟩, ⟨_, rfl, rfl⟩, ⟨_, rfl, rfl⟩, ⟨_, rfl, rfl⟩, ⟨_, rfl, rfl⟩, trivial⟩ (by decide) rfl) ?_
              refine Tr.iret dX10_readPerson_119 rfl (by first | rfl | exact bI_nar _) ?_ ?_
              · rfl
              · rfl
        · exact absurd h55 (by omega)
      · refine Tr.iload_n (i := 2) dX10_readPerson_53 rfl rfl (Eq.refl 54) ?_
        refine Tr.iconst (v := nI 5) dX10_readPerson_54 (icN 5) (Eq.refl 55) ?_
        refine Tr.icmp_geN (tgt := 93) dX10_readPerson_55 (by decide) (Eq.refl 58) (by omega) (by omega) (fun h55 => ?_) (fun h55 => ?_)
        · exact absurd h55 (by omega)
        · refine Tr.aload_n (i := 0) dX10_readPerson_58 rfl rfl (Eq.refl 59) ?_
          refine Tr.getf dX10_readPerson_59 fX10_114 rfl rfl (Eq.refl 62) ?_
          refine Tr.iconst (v := nI 5) dX10_readPerson_62 (icN 5) (Eq.refl 63) ?_
          refine Tr.iload_n (i := 1) dX10_readPerson_63 rfl rfl (Eq.refl 64) ?_
          refine Tr.imulN dX10_readPerson_64 (Eq.refl 65) ?_
          refine Tr.iload_n (i := 2) dX10_readPerson_65 rfl rfl (Eq.refl 66) ?_
          refine Tr.iaddN dX10_readPerson_66 (Eq.refl 67) ?_
          refine Tr.iconst (v := nI 0) dX10_readPerson_67 (icN 0) (Eq.refl 68) ?_
          refine Tr.iastN dX10_readPerson_68 rfl (by omega) (by decide) (Eq.refl 69) ?_
          refine Tr.aload_n (i := 0) dX10_readPerson_69 rfl rfl (Eq.refl 70) ?_
          refine Tr.dup dX10_readPerson_70 rfl (Eq.refl 71) ?_
          refine Tr.getf dX10_readPerson_71 fX10_117 rfl rfl (Eq.refl 74) ?_
          refine Tr.iconst (v := nI 1) dX10_readPerson_74 (icN 1) (Eq.refl 75) ?_
          refine Tr.iconst (v := nI 5) dX10_readPerson_75 (icN 5) (Eq.refl 76) ?_
          refine Tr.iload_n (i := 1) dX10_readPerson_76 rfl rfl (Eq.refl 77) ?_
          refine Tr.imulN dX10_readPerson_77 (Eq.refl 78) ?_
          refine Tr.iload_n (i := 2) dX10_readPerson_78 rfl rfl (Eq.refl 79) ?_
          refine Tr.iaddN dX10_readPerson_79 (Eq.refl 80) ?_
          refine Tr.ishl dX10_readPerson_80 (Eq.refl 81) ?_
          refine Tr.iconst (v := (-1)) dX10_readPerson_81 (by decide +kernel) (Eq.refl 82) ?_
          refine Tr.ixor dX10_readPerson_82 (Eq.refl 83) ?_
          refine Tr.iand dX10_readPerson_83 (Eq.refl 84) ?_
          refine Tr.putf dX10_readPerson_84 pX10_117 rfl (rfl) (rfl) rfl (Eq.refl 87) ?_
          refine Tr.iincN dX10_readPerson_87 rfl rfl rfl (Eq.refl 90) ?_
          refine Tr.goto (pc' := 53) dX10_readPerson_90 (by decide) ?_
          exact Tr.eqs rfl rfl rfl ih
    · rw [if_neg (by rw [h32]; decide)]
      refine Tr.iconst (v := nI 0) dX10_readPerson_35 (icN 0) (Eq.refl 36) ?_
      refine Tr.iret dX10_readPerson_36 rfl (by first | rfl | exact bI_nar _) ?_ ?_
      · rfl
      · rfl
  · rw [if_pos h5]
    refine Tr.aload_n (i := 0) dX10_readPerson_8 rfl rfl (Eq.refl 9) ?_
    refine Tr.iconst (v := nI 4) dX10_readPerson_9 (icN 4) (Eq.refl 10) ?_
    refine Tr.callV (L := [0, 1]) (m_bad E _ (rR ad r) (iR z.2.2.2.1 z.2.2.2.2.1 i) len z.1 z.2.1 z.2.2.1 z.2.2.2.2.2.1 z.2.2.2.2.2.2 T 4) dX10_readPerson_10 (kX10_49 (Nat.le_of_ble_eq_true rfl)) iX10_bad rfl rfl rfl rfl rfl rfl rfl rfl rfl rfl (Eq.refl 13) ?_
    refine Tr.pic (w' := mrP E ad r i len T (badR T z 4)) (putB_eq (Lc := [2, 3, 4, 5, 6, 7, 8, 9, 10, 11]) 12 rfl rfl rfl rfl ⟨⟨_, rfl, rfl⟩, ⟨_, rfl, rfl⟩, ⟨_, rfl, rfl⟩, ⟨_, rfl, rfl⟩, ⟨_, rfl, rfl⟩, ⟨_, rfl, rfl⟩, ⟨_, rfl, rfl⟩, ⟨_, rfl, rfl⟩, ⟨_, rfl, rfl⟩, ⟨_, rfl, rfl⟩, trivial⟩ (by decide) rfl) ?_
    refine Tr.iret dX10_readPerson_13 rfl (by first | rfl | exact bI_nar _) ?_ ?_
    · rfl
    · rfl
