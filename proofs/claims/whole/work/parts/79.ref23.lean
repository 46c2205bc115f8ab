/-! THE REFERENCE: a whole text -/
theorem nft : ¬ (false = true) := by decide
def clT (T : Nat → Nat) {len : Nat} (p : Fin (len + 1)) (vl f : Nat) (fa : Int32) : Fin (len + 1) × Nat × Nat × Int32 := if tkK T len p.1 = 3 then (nxP T len p, tkV T len (tkE T len p.1) vl, f, fa) else (p, vl, 1, nI (tkS T len p.1))
theorem m_closeS (E : EnvT) (ad r : Nat → Nat) (i : Nat → Int32) (len : Nat) (p : Fin (len + 1)) (vl : Nat) (got : Int32) (f : Nat) (fa : Int32) (T : Nat → Nat) (hl : len ≤ 900) (hT : ∀ k, k < 900 → T k < 256) : Md E mX10_close ad [.ref (ad 0)] (mvC E ad r i len p.1 vl got f fa T) (some (.int (bI (decide (tkK T len p.1 = 3))))) (mvC E ad r i len (clT T p vl f fa).1.1 (clT T p vl f fa).2.1 got (clT T p vl f fa).2.2.1 (clT T p vl f fa).2.2.2 T) := by
  have h9 := m_close E ad r i len p vl got f fa T hl hT
  by_cases h : tkK T len p.1 = 3
  · have e : clT T p vl f fa = (nxP T len p, tkV T len (tkE T len p.1) vl, f, fa) := if_pos h
    rw [e]
    rw [if_pos h] at h9
    exact h9
  · have e : clT T p vl f fa = (p, vl, 1, nI (tkS T len p.1)) := if_neg h
    rw [e]
    rw [if_neg h] at h9
    exact h9
def clQ (T : Nat → Nat) {len : Nat} (z : Rst len) : Rst len := ((clT T z.1 z.2.1 z.2.2.2.2.2.1 z.2.2.2.2.2.2).1, (clT T z.1 z.2.1 z.2.2.2.2.2.1 z.2.2.2.2.2.2).2.1, z.2.2.1, z.2.2.2.1, z.2.2.2.2.1, (clT T z.1 z.2.1 z.2.2.2.2.2.1 z.2.2.2.2.2.2).2.2)
theorem clQ_y {T : Nat → Nat} {len : Nat} {z : Rst len} (h : tkK T len z.1.1 = 3) : clQ T z = advR T z := by
  unfold clQ clT
  rw [if_pos h]
  rfl
theorem clQ_n {T : Nat → Nat} {len : Nat} {z : Rst len} (h : ¬ tkK T len z.1.1 = 3) : clQ T z = badR T z 1 := by
  unfold clQ clT
  rw [if_neg h]
  rfl
set_option maxHeartbeats 4000000 in
set_option maxRecDepth 100000 in
theorem m_rvL (E : EnvT) (ad r : Nat → Nat) (i : Nat → Int32) (len : Nat) (T : Nat → Nat) (hl : len ≤ 900) (hTa : ∀ k, T k < 256) : ∀ (n : Nat) (y : Rst len), Ri y → len - y.1.1 < n → Tr (E, mX10_readVillage, ad, some (.int (bI (rVF T n y).1)), mrP E ad r i len T (rVF T n y).2) 0 0 54 [some (.ref (ad 0)), none] [] (mrP E ad r i len T y) := by
  have hT : ∀ k, k < 900 → T k < 256 := fun k _ => hTa k
  intro n
  induction n with
  | zero => intro y _ h; exact absurd h (by omega)
  | succ n ih =>
  intro y hy hn
  have hk := tkH_lt T len y.1.1
  have hse := tkE_le T (Nat.le_of_lt_succ y.1.2)
  have h0 := tkH_1 (T := T) (len := len) (p := y.1.1) (k := 0) (by decide)
  have hv := hy.1
  have hh5 := hy.2.1
  have hp5 := hy.2.2
  have hgo : (rCl T y).1 = true → y.1.1 < (rCl T y).2.1.1 ∧ Ri (rCl T y).2 := rCl_go hTa hy
  have hye := Nat.le_of_lt_succ y.1.2
  have hu : rVF T (n + 1) y = if tkK T len y.1.1 = 0 then (true, y) else if (rCl T y).1 then rVF T n (rCl T y).2 else rCl T y := rfl
  rw [hu]
  refine Tr.aload_n (i := 0) dX10_readVillage_54 rfl rfl (Eq.refl 55) ?_
  refine Tr.getf dX10_readVillage_55 fX10_27 rfl rfl (Eq.refl 58) ?_
  refine Tr.if_eq (tgt := 156) dX10_readVillage_58 (by decide) (Eq.refl 61) (fun h58 => ?_) (fun h58 => ?_)
  · have h58 := h0.mp (nI_inj (by omega) (by decide) h58)
    rw [if_pos h58]
    refine Tr.iconst (v := nI 1) dX10_readVillage_156 (icN 1) (Eq.refl 157) ?_
    refine Tr.iret dX10_readVillage_157 rfl (by first | rfl | exact bI_nar _) ?_ ?_
    · rfl
    · rfl
  · have h58 : ¬ tkK T len y.1.1 = 0 := fun z9 => h58 (by rw [h0.mpr z9]; rfl)
    rw [if_neg h58]
    refine Tr.aload_n (i := 0) dX10_readVillage_61 rfl rfl (Eq.refl 62) ?_
    refine Tr.ldcS dX10_readVillage_62 (by decide +kernel : (RX10, 165, 0) ∈ strT) (Eq.refl 64) ?_
    refine Tr.callVr (L := [0, 1]) (m_is E _ (rR ad r) (iV y.2.2.1 y.2.2.2.2.2.1 y.2.2.2.2.2.2 (iR y.2.2.2.1 y.2.2.2.2.1 i)) len (tkS T len y.1.1) (tkE T len y.1.1) (tkH T len y.1.1) y.2.1 T 0 (by decide) hl hT hse.1 hse.2 (by omega)) dX10_readVillage_64 (kX10_122 (Nat.le_of_ble_eq_true rfl)) iX10_is rfl rfl rfl rfl rfl rfl rfl rfl rfl (Eq.refl 67) ?_
    rw [wdH]
    refine Tr.if_eqB (tgt := 77) dX10_readVillage_67 (by decide) (Eq.refl 70) (fun h67 => ?_) (fun h67 => ?_)
    · skip
      refine Tr.aload_n (i := 0) dX10_readVillage_77 rfl rfl (Eq.refl 78) ?_
      refine Tr.ldcS dX10_readVillage_78 (by decide +kernel : (RX10, 171, 1) ∈ strT) (Eq.refl 80) ?_
      refine Tr.callVr (L := [0, 1]) (m_is E _ (rR ad r) (iV y.2.2.1 y.2.2.2.2.2.1 y.2.2.2.2.2.2 (iR y.2.2.2.1 y.2.2.2.2.1 i)) len (tkS T len y.1.1) (tkE T len y.1.1) (tkH T len y.1.1) y.2.1 T 1 (by decide) hl hT hse.1 hse.2 (by omega)) dX10_readVillage_80 (kX10_122 (Nat.le_of_ble_eq_true rfl)) iX10_is rfl rfl rfl rfl rfl rfl rfl rfl rfl (Eq.refl 83) ?_
      rw [wdH]
      refine Tr.if_eqB (tgt := 93) dX10_readVillage_83 (by decide) (Eq.refl 86) (fun h83 => ?_) (fun h83 => ?_)
      · refine Tr.aload_n (i := 0) dX10_readVillage_93 rfl rfl (Eq.refl 94) ?_
        refine Tr.ldcS dX10_readVillage_94 (by decide +kernel : (RX10, 176, 3) ∈ strT) (Eq.refl 96) ?_
        refine Tr.callVr (L := [0, 1]) (m_is E _ (rR ad r) (iV y.2.2.1 y.2.2.2.2.2.1 y.2.2.2.2.2.2 (iR y.2.2.2.1 y.2.2.2.2.1 i)) len (tkS T len y.1.1) (tkE T len y.1.1) (tkH T len y.1.1) y.2.1 T 3 (by decide) hl hT hse.1 hse.2 (by omega)) dX10_readVillage_96 (kX10_122 (Nat.le_of_ble_eq_true rfl)) iX10_is rfl rfl rfl rfl rfl rfl rfl rfl rfl (Eq.refl 99) ?_
        rw [wdH]
        refine Tr.if_eqB (tgt := 109) dX10_readVillage_99 (by decide) (Eq.refl 102) (fun h99 => ?_) (fun h99 => ?_)
        · refine Tr.aload_n (i := 0) dX10_readVillage_109 rfl rfl (Eq.refl 110) ?_
          refine Tr.ldcS dX10_readVillage_110 (by decide +kernel : (RX10, 181, 4) ∈ strT) (Eq.refl 112) ?_
          refine Tr.callVr (L := [0, 1]) (m_is E _ (rR ad r) (iV y.2.2.1 y.2.2.2.2.2.1 y.2.2.2.2.2.2 (iR y.2.2.2.1 y.2.2.2.2.1 i)) len (tkS T len y.1.1) (tkE T len y.1.1) (tkH T len y.1.1) y.2.1 T 4 (by decide) hl hT hse.1 hse.2 (by omega)) dX10_readVillage_112 (kX10_122 (Nat.le_of_ble_eq_true rfl)) iX10_is rfl rfl rfl rfl rfl rfl rfl rfl rfl (Eq.refl 115) ?_
          rw [wdH]
          refine Tr.if_eqB (tgt := 125) dX10_readVillage_115 (by decide) (Eq.refl 118) (fun h115 => ?_) (fun h115 => ?_)
          · have hbd : rBd T y = rSm T y := by unfold rBd; rw [if_neg (by rw [h67]; decide), if_neg (by rw [h83]; decide), if_neg (by rw [h99]; decide), if_neg (by rw [h115]; decide)]
            refine Tr.aload_n (i := 0) dX10_readVillage_125 rfl rfl (Eq.refl 126) ?_
            refine Tr.callVs (m_readSmall E ad r i len T y hl hTa hv) dX10_readVillage_126 (kX10_186 (Nat.le_of_ble_eq_true rfl)) iX10_readSmall rfl rfl rfl rfl rfl (mrP_le) rfl rfl (Eq.refl 129) ?_
            generalize hb9 : rSm T y = b at *
            skip
            have hu2 : rCl T y = if b.1 then (if tkK T len b.2.1.1 = 3 then (true, sRd (advR T b.2)) else (false, badR T b.2 1)) else (false, b.2) := by unfold rCl; rw [hbd]
            have hk3 := tkH_lt T len b.2.1.1
            refine Tr.istore_n (i := 1) dX10_readVillage_129 rfl rfl rfl (Eq.refl 130) ?_
            refine Tr.iload_n (i := 1) dX10_readVillage_130 rfl rfl (Eq.refl 131) ?_
            refine Tr.if_eqB (tgt := 141) dX10_readVillage_131 (by decide) (Eq.refl 134) (fun h131 => ?_) (fun h131 => ?_)
            · have h131n : ¬ b.1 = true := by rw [h131]; exact nft
              rw [if_neg h131n] at hu2
              rw [hu2, if_neg nft]
              refine Tr.iconst (v := nI 0) dX10_readVillage_141 (icN 0) (Eq.refl 142) ?_
              refine Tr.iret dX10_readVillage_142 rfl (by first | rfl | exact bI_nar _) ?_ ?_
              · rfl
              · rfl
            · rw [if_pos h131] at hu2
              refine Tr.aload_n (i := 0) dX10_readVillage_134 rfl rfl (Eq.refl 135) ?_
              refine Tr.callV (L := [0, 1]) (m_closeS E _ (rR ad r) (iR b.2.2.2.2.1 b.2.2.2.2.2.1 i) len b.2.1 b.2.2.1 b.2.2.2.1 b.2.2.2.2.2.2.1 b.2.2.2.2.2.2.2 T hl hT) dX10_readVillage_135 (kX10_189 (Nat.le_of_ble_eq_true rfl)) iX10_close rfl rfl rfl rfl rfl rfl rfl rfl rfl rfl (Eq.refl 138) ?_
              refine Tr.pic (w' := mrP E ad r i len T (clQ T b.2)) (putB_eq (Lc := [2, 3, 4, 5, 6, 7, 8, 9, 10, 11]) 12 rfl rfl rfl rfl ⟨⟨_, rfl, rfl⟩, ⟨_, rfl, rfl⟩, ⟨_, rfl, rfl⟩, ⟨_, rfl, rfl⟩, ⟨_, rfl, rfl⟩, ⟨_, rfl, rfl⟩, ⟨_, rfl, rfl⟩, ⟨_, rfl, rfl⟩, ⟨_, rfl, rfl⟩, ⟨_, rfl, rfl⟩, trivial⟩ (by decide) rfl) ?_
              refine Tr.if_neB (tgt := 143) dX10_readVillage_138 (by decide) (Eq.refl 141) (fun h138 => ?_) (fun h138 => ?_)
              · have h138 := of_decide_eq_true h138
                rw [if_pos h138] at hu2
                rw [hu2] at hgo
                have hg := hgo rfl
                rw [hu2, if_pos rfl, clQ_y h138]
                generalize hx : sRd (advR T b.2) = x at *
                have hl2 := Nat.le_of_lt_succ x.1.2
                have hg1 : y.1.1 < x.1.1 := hg.1
                refine Tr.aload_n (i := 0) dX10_readVillage_143 rfl rfl (Eq.refl 144) ?_
                refine Tr.dup dX10_readVillage_144 rfl (Eq.refl 145) ?_
                refine Tr.getf dX10_readVillage_145 fX10_159 rfl rfl (Eq.refl 148) ?_
                refine Tr.iconst (v := nI 1) dX10_readVillage_148 (icN 1) (Eq.refl 149) ?_
                refine Tr.iadd dX10_readVillage_149 (Eq.refl 150) ?_
                refine Tr.putf dX10_readVillage_150 pX10_159 rfl (rfl) (rfl) rfl (Eq.refl 153) ?_
                refine Tr.pic (w' := mrP E ad r i len T x) (by rw [← hx]; rfl) ?_
                refine Tr.mask [true, false] (lv' := [some (.ref (ad 0)), none]) rfl ?_
                refine Tr.goto (pc' := 54) dX10_readVillage_153 (by decide) ?_
                exact ih x hg.2 (by omega)
              · have h138 := of_decide_eq_false h138
                rw [if_neg h138] at hu2
                rw [hu2, if_neg nft, clQ_n h138]
                refine Tr.iconst (v := nI 0) dX10_readVillage_141 (icN 0) (Eq.refl 142) ?_
                refine Tr.iret dX10_readVillage_142 rfl (by first | rfl | exact bI_nar _) ?_ ?_
                · rfl
                · rfl
          · have hbd : rBd T y = rWy T (advR T y) := by unfold rBd; rw [if_neg (by rw [h67]; decide), if_neg (by rw [h83]; decide), if_neg (by rw [h99]; decide), if_pos h115]
            refine Tr.aload_n (i := 0) dX10_readVillage_118 rfl rfl (Eq.refl 119) ?_
            refine Tr.callVs (m_readWorks E ad r i len T y hl hTa hv hp5) dX10_readVillage_119 (kX10_183 (Nat.le_of_ble_eq_true rfl)) iX10_readWorks rfl rfl rfl rfl rfl (mrP_le) rfl rfl (Eq.refl 122) ?_
            generalize hb9 : rWy T (advR T y) = b at *
            refine Tr.goto (pc' := 129) dX10_readVillage_122 (by decide) ?_
            skip
            have hu2 : rCl T y = if b.1 then (if tkK T len b.2.1.1 = 3 then (true, sRd (advR T b.2)) else (false, badR T b.2 1)) else (false, b.2) := by unfold rCl; rw [hbd]
            have hk3 := tkH_lt T len b.2.1.1
            refine Tr.istore_n (i := 1) dX10_readVillage_129 rfl rfl rfl (Eq.refl 130) ?_
            refine Tr.iload_n (i := 1) dX10_readVillage_130 rfl rfl (Eq.refl 131) ?_
            refine Tr.if_eqB (tgt := 141) dX10_readVillage_131 (by decide) (Eq.refl 134) (fun h131 => ?_) (fun h131 => ?_)
            · have h131n : ¬ b.1 = true := by rw [h131]; exact nft
              rw [if_neg h131n] at hu2
              rw [hu2, if_neg nft]
              refine Tr.iconst (v := nI 0) dX10_readVillage_141 (icN 0) (Eq.refl 142) ?_
              refine Tr.iret dX10_readVillage_142 rfl (by first | rfl | exact bI_nar _) ?_ ?_
              · rfl
              · rfl
            · rw [if_pos h131] at hu2
              refine Tr.aload_n (i := 0) dX10_readVillage_134 rfl rfl (Eq.refl 135) ?_
              refine Tr.callV (L := [0, 1]) (m_closeS E _ (rR ad r) (iR b.2.2.2.2.1 b.2.2.2.2.2.1 i) len b.2.1 b.2.2.1 b.2.2.2.1 b.2.2.2.2.2.2.1 b.2.2.2.2.2.2.2 T hl hT) dX10_readVillage_135 (kX10_189 (Nat.le_of_ble_eq_true rfl)) iX10_close rfl rfl rfl rfl rfl rfl rfl rfl rfl rfl (Eq.refl 138) ?_
              refine Tr.pic (w' := mrP E ad r i len T (clQ T b.2)) (putB_eq (Lc := [2, 3, 4, 5, 6, 7, 8, 9, 10, 11]) 12 rfl rfl rfl rfl ⟨⟨_, rfl, rfl⟩, ⟨_, rfl, rfl⟩, ⟨_, rfl, rfl⟩, ⟨_, rfl, rfl⟩, ⟨_, rfl, rfl⟩, ⟨_, rfl, rfl⟩, ⟨_, rfl, rfl⟩, ⟨_, rfl, rfl⟩, ⟨_, rfl, rfl⟩, ⟨_, rfl, rfl⟩, trivial⟩ (by decide) rfl) ?_
              refine Tr.if_neB (tgt := 143) dX10_readVillage_138 (by decide) (Eq.refl 141) (fun h138 => ?_) (fun h138 => ?_)
              · have h138 := of_decide_eq_true h138
                rw [if_pos h138] at hu2
                rw [hu2] at hgo
                have hg := hgo rfl
                rw [hu2, if_pos rfl, clQ_y h138]
                generalize hx : sRd (advR T b.2) = x at *
                have hl2 := Nat.le_of_lt_succ x.1.2
                have hg1 : y.1.1 < x.1.1 := hg.1
                refine Tr.aload_n (i := 0) dX10_readVillage_143 rfl rfl (Eq.refl 144) ?_
                refine Tr.dup dX10_readVillage_144 rfl (Eq.refl 145) ?_
                refine Tr.getf dX10_readVillage_145 fX10_159 rfl rfl (Eq.refl 148) ?_
                refine Tr.iconst (v := nI 1) dX10_readVillage_148 (icN 1) (Eq.refl 149) ?_
                refine Tr.iadd dX10_readVillage_149 (Eq.refl 150) ?_
                refine Tr.putf dX10_readVillage_150 pX10_159 rfl (rfl) (rfl) rfl (Eq.refl 153) ?_
                refine Tr.pic (w' := mrP E ad r i len T x) (by rw [← hx]; rfl) ?_
                refine Tr.mask [true, false] (lv' := [some (.ref (ad 0)), none]) rfl ?_
                refine Tr.goto (pc' := 54) dX10_readVillage_153 (by decide) ?_
                exact ih x hg.2 (by omega)
              · have h138 := of_decide_eq_false h138
                rw [if_neg h138] at hu2
                rw [hu2, if_neg nft, clQ_n h138]
                refine Tr.iconst (v := nI 0) dX10_readVillage_141 (icN 0) (Eq.refl 142) ?_
                refine Tr.iret dX10_readVillage_142 rfl (by first | rfl | exact bI_nar _) ?_ ?_
                · rfl
                · rfl
        · have hbd : rBd T y = rT1 T (advR T y) := by unfold rBd; rw [if_neg (by rw [h67]; decide), if_neg (by rw [h83]; decide), if_pos h99]
          refine Tr.aload_n (i := 0) dX10_readVillage_102 rfl rfl (Eq.refl 103) ?_
          refine Tr.callVs (m_readTies E ad r i len T y hl hTa hv hp5) dX10_readVillage_103 (kX10_178 (Nat.le_of_ble_eq_true rfl)) iX10_readTies rfl rfl rfl rfl rfl (mrP_le) rfl rfl (Eq.refl 106) ?_
          generalize hb9 : rT1 T (advR T y) = b at *
          refine Tr.goto (pc' := 129) dX10_readVillage_106 (by decide) ?_
          skip
          have hu2 : rCl T y = if b.1 then (if tkK T len b.2.1.1 = 3 then (true, sRd (advR T b.2)) else (false, badR T b.2 1)) else (false, b.2) := by unfold rCl; rw [hbd]
          have hk3 := tkH_lt T len b.2.1.1
          refine Tr.istore_n (i := 1) dX10_readVillage_129 rfl rfl rfl (Eq.refl 130) ?_
          refine Tr.iload_n (i := 1) dX10_readVillage_130 rfl rfl (Eq.refl 131) ?_
          refine Tr.if_eqB (tgt := 141) dX10_readVillage_131 (by decide) (Eq.refl 134) (fun h131 => ?_) (fun h131 => ?_)
          · have h131n : ¬ b.1 = true := by rw [h131]; exact nft
            rw [if_neg h131n] at hu2
            rw [hu2, if_neg nft]
            refine Tr.iconst (v := nI 0) dX10_readVillage_141 (icN 0) (Eq.refl 142) ?_
            refine Tr.iret dX10_readVillage_142 rfl (by first | rfl | exact bI_nar _) ?_ ?_
            · rfl
            · rfl
          · rw [if_pos h131] at hu2
            refine Tr.aload_n (i := 0) dX10_readVillage_134 rfl rfl (Eq.refl 135) ?_
            refine Tr.callV (L := [0, 1]) (m_closeS E _ (rR ad r) (iR b.2.2.2.2.1 b.2.2.2.2.2.1 i) len b.2.1 b.2.2.1 b.2.2.2.1 b.2.2.2.2.2.2.1 b.2.2.2.2.2.2.2 T hl hT) dX10_readVillage_135 (kX10_189 (Nat.le_of_ble_eq_true rfl)) iX10_close rfl rfl rfl rfl rfl rfl rfl rfl rfl rfl (Eq.refl 138) ?_
            refine Tr.pic (w' := mrP E ad r i len T (clQ T b.2)) (putB_eq (Lc := [2, 3, 4, 5, 6, 7, 8, 9, 10, 11]) 12 rfl rfl rfl rfl ⟨⟨_, rfl, rfl⟩, ⟨_, rfl, rfl⟩, ⟨_, rfl, rfl⟩, ⟨_, rfl, rfl⟩, ⟨_, rfl, rfl⟩, ⟨_, rfl, rfl⟩, ⟨_, rfl, rfl⟩, ⟨_, rfl, rfl⟩, ⟨_, rfl, rfl⟩, ⟨_, rfl, rfl⟩, trivial⟩ (by decide) rfl) ?_
            refine Tr.if_neB (tgt := 143) dX10_readVillage_138 (by decide) (Eq.refl 141) (fun h138 => ?_) (fun h138 => ?_)
            · have h138 := of_decide_eq_true h138
              rw [if_pos h138] at hu2
              rw [hu2] at hgo
              have hg := hgo rfl
              rw [hu2, if_pos rfl, clQ_y h138]
              generalize hx : sRd (advR T b.2) = x at *
              have hl2 := Nat.le_of_lt_succ x.1.2
              have hg1 : y.1.1 < x.1.1 := hg.1
              refine Tr.aload_n (i := 0) dX10_readVillage_143 rfl rfl (Eq.refl 144) ?_
              refine Tr.dup dX10_readVillage_144 rfl (Eq.refl 145) ?_
              refine Tr.getf dX10_readVillage_145 fX10_159 rfl rfl (Eq.refl 148) ?_
              refine Tr.iconst (v := nI 1) dX10_readVillage_148 (icN 1) (Eq.refl 149) ?_
              refine Tr.iadd dX10_readVillage_149 (Eq.refl 150) ?_
              refine Tr.putf dX10_readVillage_150 pX10_159 rfl (rfl) (rfl) rfl (Eq.refl 153) ?_
              refine Tr.pic (w' := mrP E ad r i len T x) (by rw [← hx]; rfl) ?_
              refine Tr.mask [true, false] (lv' := [some (.ref (ad 0)), none]) rfl ?_
              refine Tr.goto (pc' := 54) dX10_readVillage_153 (by decide) ?_
              exact ih x hg.2 (by omega)
            · have h138 := of_decide_eq_false h138
              rw [if_neg h138] at hu2
              rw [hu2, if_neg nft, clQ_n h138]
              refine Tr.iconst (v := nI 0) dX10_readVillage_141 (icN 0) (Eq.refl 142) ?_
              refine Tr.iret dX10_readVillage_142 rfl (by first | rfl | exact bI_nar _) ?_ ?_
              · rfl
              · rfl
      · have hbd : rBd T y = rPs T y := by unfold rBd; rw [if_neg (by rw [h67]; decide), if_pos h83]
        refine Tr.aload_n (i := 0) dX10_readVillage_86 rfl rfl (Eq.refl 87) ?_
        refine Tr.callVs (m_readPerson E ad r i len T y hl hTa hv hh5 hp5) dX10_readVillage_87 (kX10_173 (Nat.le_of_ble_eq_true rfl)) iX10_readPerson rfl rfl rfl rfl rfl (mrP_le) rfl rfl (Eq.refl 90) ?_
        generalize hb9 : rPs T y = b at *
        refine Tr.goto (pc' := 129) dX10_readVillage_90 (by decide) ?_
        skip
        have hu2 : rCl T y = if b.1 then (if tkK T len b.2.1.1 = 3 then (true, sRd (advR T b.2)) else (false, badR T b.2 1)) else (false, b.2) := by unfold rCl; rw [hbd]
        have hk3 := tkH_lt T len b.2.1.1
        refine Tr.istore_n (i := 1) dX10_readVillage_129 rfl rfl rfl (Eq.refl 130) ?_
        refine Tr.iload_n (i := 1) dX10_readVillage_130 rfl rfl (Eq.refl 131) ?_
        refine Tr.if_eqB (tgt := 141) dX10_readVillage_131 (by decide) (Eq.refl 134) (fun h131 => ?_) (fun h131 => ?_)
        · have h131n : ¬ b.1 = true := by rw [h131]; exact nft
          rw [if_neg h131n] at hu2
          rw [hu2, if_neg nft]
          refine Tr.iconst (v := nI 0) dX10_readVillage_141 (icN 0) (Eq.refl 142) ?_
          refine Tr.iret dX10_readVillage_142 rfl (by first | rfl | exact bI_nar _) ?_ ?_
          · rfl
          · rfl
        · rw [if_pos h131] at hu2
          refine Tr.aload_n (i := 0) dX10_readVillage_134 rfl rfl (Eq.refl 135) ?_
          refine Tr.callV (L := [0, 1]) (m_closeS E _ (rR ad r) (iR b.2.2.2.2.1 b.2.2.2.2.2.1 i) len b.2.1 b.2.2.1 b.2.2.2.1 b.2.2.2.2.2.2.1 b.2.2.2.2.2.2.2 T hl hT) dX10_readVillage_135 (kX10_189 (Nat.le_of_ble_eq_true rfl)) iX10_close rfl rfl rfl rfl rfl rfl rfl rfl rfl rfl (Eq.refl 138) ?_
          refine Tr.pic (w' := mrP E ad r i len T (clQ T b.2)) (putB_eq (Lc := [2, 3, 4, 5, 6, 7, 8, 9, 10, 11]) 12 rfl rfl rfl rfl ⟨⟨_, rfl, rfl⟩, ⟨_, rfl, rfl⟩, ⟨_, rfl, rfl⟩, ⟨_, rfl, rfl⟩, ⟨_, rfl, rfl⟩, ⟨_, rfl, rfl⟩, ⟨_, rfl, rfl⟩, ⟨_, rfl, rfl⟩, ⟨_, rfl, rfl⟩, ⟨_, rfl, rfl⟩, trivial⟩ (by decide) rfl) ?_
          refine Tr.if_neB (tgt := 143) dX10_readVillage_138 (by decide) (Eq.refl 141) (fun h138 => ?_) (fun h138 => ?_)
          · have h138 := of_decide_eq_true h138
            rw [if_pos h138] at hu2
            rw [hu2] at hgo
            have hg := hgo rfl
            rw [hu2, if_pos rfl, clQ_y h138]
            generalize hx : sRd (advR T b.2) = x at *
            have hl2 := Nat.le_of_lt_succ x.1.2
            have hg1 : y.1.1 < x.1.1 := hg.1
            refine Tr.aload_n (i := 0) dX10_readVillage_143 rfl rfl (Eq.refl 144) ?_
            refine Tr.dup dX10_readVillage_144 rfl (Eq.refl 145) ?_
            refine Tr.getf dX10_readVillage_145 fX10_159 rfl rfl (Eq.refl 148) ?_
            refine Tr.iconst (v := nI 1) dX10_readVillage_148 (icN 1) (Eq.refl 149) ?_
            refine Tr.iadd dX10_readVillage_149 (Eq.refl 150) ?_
            refine Tr.putf dX10_readVillage_150 pX10_159 rfl (rfl) (rfl) rfl (Eq.refl 153) ?_
            refine Tr.pic (w' := mrP E ad r i len T x) (by rw [← hx]; rfl) ?_
            refine Tr.mask [true, false] (lv' := [some (.ref (ad 0)), none]) rfl ?_
            refine Tr.goto (pc' := 54) dX10_readVillage_153 (by decide) ?_
            exact ih x hg.2 (by omega)
          · have h138 := of_decide_eq_false h138
            rw [if_neg h138] at hu2
            rw [hu2, if_neg nft, clQ_n h138]
            refine Tr.iconst (v := nI 0) dX10_readVillage_141 (icN 0) (Eq.refl 142) ?_
            refine Tr.iret dX10_readVillage_142 rfl (by first | rfl | exact bI_nar _) ?_ ?_
            · rfl
            · rfl
    · have hbd : rBd T y = rHs T y := by unfold rBd; rw [if_pos h67]
      refine Tr.aload_n (i := 0) dX10_readVillage_70 rfl rfl (Eq.refl 71) ?_
      refine Tr.callVs (m_readHouse E ad r i len T y hl hTa hv hh5) dX10_readVillage_71 (kX10_167 (Nat.le_of_ble_eq_true rfl)) iX10_readHouse rfl rfl rfl rfl rfl (mrP_le) rfl rfl (Eq.refl 74) ?_
      generalize hb9 : rHs T y = b at *
      refine Tr.goto (pc' := 129) dX10_readVillage_74 (by decide) ?_
      skip
      have hu2 : rCl T y = if b.1 then (if tkK T len b.2.1.1 = 3 then (true, sRd (advR T b.2)) else (false, badR T b.2 1)) else (false, b.2) := by unfold rCl; rw [hbd]
      have hk3 := tkH_lt T len b.2.1.1
      refine Tr.istore_n (i := 1) dX10_readVillage_129 rfl rfl rfl (Eq.refl 130) ?_
      refine Tr.iload_n (i := 1) dX10_readVillage_130 rfl rfl (Eq.refl 131) ?_
      refine Tr.if_eqB (tgt := 141) dX10_readVillage_131 (by decide) (Eq.refl 134) (fun h131 => ?_) (fun h131 => ?_)
      · have h131n : ¬ b.1 = true := by rw [h131]; exact nft
        rw [if_neg h131n] at hu2
        rw [hu2, if_neg nft]
        refine Tr.iconst (v := nI 0) dX10_readVillage_141 (icN 0) (Eq.refl 142) ?_
        refine Tr.iret dX10_readVillage_142 rfl (by first | rfl | exact bI_nar _) ?_ ?_
        · rfl
        · rfl
      · rw [if_pos h131] at hu2
        refine Tr.aload_n (i := 0) dX10_readVillage_134 rfl rfl (Eq.refl 135) ?_
        refine Tr.callV (L := [0, 1]) (m_closeS E _ (rR ad r) (iR b.2.2.2.2.1 b.2.2.2.2.2.1 i) len b.2.1 b.2.2.1 b.2.2.2.1 b.2.2.2.2.2.2.1 b.2.2.2.2.2.2.2 T hl hT) dX10_readVillage_135 (kX10_189 (Nat.le_of_ble_eq_true rfl)) iX10_close rfl rfl rfl rfl rfl rfl rfl rfl rfl rfl (Eq.refl 138) ?_
        refine Tr.pic (w' := mrP E ad r i len T (clQ T b.2)) (putB_eq (Lc := [2, 3, 4, 5, 6, 7, 8, 9, 10, 11]) 12 rfl rfl rfl rfl ⟨⟨_, rfl, rfl⟩, ⟨_, rfl, rfl⟩, ⟨_, rfl, rfl⟩, ⟨_, rfl, rfl⟩, ⟨_, rfl, rfl⟩, ⟨_, rfl, rfl⟩, ⟨_, rfl, rfl⟩, ⟨_, rfl, rfl⟩, ⟨_, rfl, rfl⟩, ⟨_, rfl, rfl⟩, trivial⟩ (by decide) rfl) ?_
        refine Tr.if_neB (tgt := 143) dX10_readVillage_138 (by decide) (Eq.refl 141) (fun h138 => ?_) (fun h138 => ?_)
        · have h138 := of_decide_eq_true h138
          rw [if_pos h138] at hu2
          rw [hu2] at hgo
          have hg := hgo rfl
          rw [hu2, if_pos rfl, clQ_y h138]
          generalize hx : sRd (advR T b.2) = x at *
          have hl2 := Nat.le_of_lt_succ x.1.2
          have hg1 : y.1.1 < x.1.1 := hg.1
          refine Tr.aload_n (i := 0) dX10_readVillage_143 rfl rfl (Eq.refl 144) ?_
          refine Tr.dup dX10_readVillage_144 rfl (Eq.refl 145) ?_
          refine Tr.getf dX10_readVillage_145 fX10_159 rfl rfl (Eq.refl 148) ?_
          refine Tr.iconst (v := nI 1) dX10_readVillage_148 (icN 1) (Eq.refl 149) ?_
          refine Tr.iadd dX10_readVillage_149 (Eq.refl 150) ?_
          refine Tr.putf dX10_readVillage_150 pX10_159 rfl (rfl) (rfl) rfl (Eq.refl 153) ?_
          refine Tr.pic (w' := mrP E ad r i len T x) (by rw [← hx]; rfl) ?_
          refine Tr.mask [true, false] (lv' := [some (.ref (ad 0)), none]) rfl ?_
          refine Tr.goto (pc' := 54) dX10_readVillage_153 (by decide) ?_
          exact ih x hg.2 (by omega)
        · have h138 := of_decide_eq_false h138
          rw [if_neg h138] at hu2
          rw [hu2, if_neg nft, clQ_n h138]
          refine Tr.iconst (v := nI 0) dX10_readVillage_141 (icN 0) (Eq.refl 142) ?_
          refine Tr.iret dX10_readVillage_142 rfl (by first | rfl | exact bI_nar _) ?_ ?_
          · rfl
          · rfl
def rV0 {len : Nat} (z : Rst len) : Rst len := (z.1, z.2.1, z.2.2.1, (0, 0, false, pre ruU (ruV z.2.2.2.1) 6, woV z.2.2.2.1, owV z.2.2.2.1, hoV z.2.2.2.1, wkV z.2.2.2.1, tiV z.2.2.2.1), (nI 0, nI 0, nI 0, z.2.2.2.2.1.2.2.2), z.2.2.2.2.2)
def rV1 {len : Nat} (z : Rst len) (k : Nat) : Rst len := (z.1, z.2.1, z.2.2.1, (0, 0, false, pre ruU (ruV z.2.2.2.1) k, woV z.2.2.2.1, owV z.2.2.2.1, hoV z.2.2.2.1, wkV z.2.2.2.1, tiV z.2.2.2.1), (nI 0, nI 0, nI 0, z.2.2.2.2.1.2.2.2), z.2.2.2.2.2)
set_option maxHeartbeats 4000000 in
set_option maxRecDepth 100000 in
theorem m_readVillage (E : EnvT) (ad r : Nat → Nat) (i : Nat → Int32) (len : Nat) (T : Nat → Nat) (z : Rst len) (hl : len ≤ 900) (hTa : ∀ k, T k < 256) (hv : z.2.1 < 100000) : Md E mX10_readVillage ad [.ref (ad 0)] (mrP E ad r i len T z) (some (.int (bI (rVF T (len + 1) (rV0 z)).1))) (mrP E ad r i len T (rVF T (len + 1) (rV0 z)).2) := by
  refine Md.of 1 (by decide) rfl rfl ?_
  refine Tr.aload_n (i := 0) dX10_readVillage_0 rfl rfl (Eq.refl 1) ?_
  refine Tr.iconst (v := nI 0) dX10_readVillage_1 (icN 0) (Eq.refl 2) ?_
  refine Tr.putf dX10_readVillage_2 pX10_74 rfl (rfl) (rfl) rfl (Eq.refl 5) ?_
  refine Tr.aload_n (i := 0) dX10_readVillage_5 rfl rfl (Eq.refl 6) ?_
  refine Tr.iconst (v := nI 0) dX10_readVillage_6 (icN 0) (Eq.refl 7) ?_
  refine Tr.putf dX10_readVillage_7 pX10_102 rfl (rfl) (rfl) rfl (Eq.refl 10) ?_
  refine Tr.aload_n (i := 0) dX10_readVillage_10 rfl rfl (Eq.refl 11) ?_
  refine Tr.iconst (v := nI 0) dX10_readVillage_11 (icN 0) (Eq.refl 12) ?_
  refine Tr.putf dX10_readVillage_12 pX10_149 rfl (rfl) (rfl) rfl (Eq.refl 15) ?_
  refine Tr.aload_n (i := 0) dX10_readVillage_15 rfl rfl (Eq.refl 16) ?_
  refine Tr.iconst (v := nI 0) dX10_readVillage_16 (icN 0) (Eq.refl 17) ?_
  refine Tr.putf dX10_readVillage_17 pX10_146 rfl (rfl) (rfl) rfl (Eq.refl 20) ?_
  refine Tr.aload_n (i := 0) dX10_readVillage_20 rfl rfl (Eq.refl 21) ?_
  refine Tr.iconst (v := nI 0) dX10_readVillage_21 (icN 0) (Eq.refl 22) ?_
  refine Tr.putf dX10_readVillage_22 pX10_117 rfl (rfl) (rfl) rfl (Eq.refl 25) ?_
  refine Tr.aload_n (i := 0) dX10_readVillage_25 rfl rfl (Eq.refl 26) ?_
  refine Tr.iconst (v := nI 0) dX10_readVillage_26 (icN 0) (Eq.refl 27) ?_
  refine Tr.putf dX10_readVillage_27 pX10_159 rfl (rfl) (rfl) rfl (Eq.refl 30) ?_
  refine Tr.iconst (v := nI 0) dX10_readVillage_30 (icN 0) (Eq.refl 31) ?_
  refine Tr.istore_n (i := 1) dX10_readVillage_31 rfl rfl rfl (Eq.refl 32) ?_
  skip
  refine Tr.mask [true, true] (lv' := [some (.ref (ad 0)), some (.int (nI 0))]) rfl ?_
  refine Tr.pic (w' := mrP E ad r i len T (rV1 z 0)) (by unfold rV1; rw [pre_0]; rfl) ?_
  refine loopD (P := fun j => Tr _ 0 0 32 [some (.ref (ad 0)), some (.int (nI j))] [] (mrP E ad r i len T (rV1 z j))) 6 ?_ (fun j hj ih => ?_)
  · refine Tr.iload_n (i := 1) dX10_readVillage_32 rfl rfl (Eq.refl 33) ?_
    refine Tr.bipush (v := nI 6) dX10_readVillage_33 (by decide +kernel) (Eq.refl 35) ?_
    refine Tr.icmp_geN (tgt := 54) dX10_readVillage_35 (by decide) (Eq.refl 38) (by omega) (by omega) (fun h35 => ?_) (fun h35 => ?_)
    · refine Tr.mask [true, false] (lv' := [some (.ref (ad 0)), none]) rfl ?_
      exact m_rvL E ad r i len T hl hTa (len + 1) (rV0 z) ⟨hv, by show 0 ≤ 5; omega, by show 0 ≤ 5; omega⟩ (by omega)
    · exact absurd h35 (by omega)
  · refine Tr.iload_n (i := 1) dX10_readVillage_32 rfl rfl (Eq.refl 33) ?_
    refine Tr.bipush (v := nI 6) dX10_readVillage_33 (by decide +kernel) (Eq.refl 35) ?_
    refine Tr.icmp_geN (tgt := 54) dX10_readVillage_35 (by decide) (Eq.refl 38) (by omega) (by omega) (fun h35 => ?_) (fun h35 => ?_)
    · exact absurd h35 (by omega)
    · refine Tr.aload_n (i := 0) dX10_readVillage_38 rfl rfl (Eq.refl 39) ?_
      refine Tr.getf dX10_readVillage_39 fX10_156 rfl rfl (Eq.refl 42) ?_
      refine Tr.iload_n (i := 1) dX10_readVillage_42 rfl rfl (Eq.refl 43) ?_
      refine Tr.iload_n (i := 1) dX10_readVillage_43 rfl rfl (Eq.refl 44) ?_
      refine Tr.callSr (L := []) (m_usual E _ j hj) dX10_readVillage_44 (kX10_162 (Nat.le_of_ble_eq_true rfl)) sX10_usual rfl rfl rfl rfl rfl rfl rfl (Eq.refl 47) ?_
      refine Tr.iastN dX10_readVillage_47 rfl (by omega) (by decide) (Eq.refl 48) ?_
      refine Tr.pic (w' := mrP E ad r i len T (rV1 z (j + 1))) (by unfold rV1; rw [← pre_s]; rfl) ?_
      refine Tr.iincN dX10_readVillage_48 rfl rfl rfl (Eq.refl 51) ?_
      refine Tr.goto (pc' := 32) dX10_readVillage_51 (by decide) ?_
      exact Tr.eqs rfl rfl rfl ih
