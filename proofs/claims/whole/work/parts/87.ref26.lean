/-! THE REFERENCE: a book is read -/
abbrev Bst (len : Nat) : Type := Fin (len + 1) × Nat × Int32 × Bki
def rbC (T : Nat → Nat) {len : Nat} (p : Fin (len + 1)) (vl : Nat) (got : Int32) (b : Bki) : Bool × Bst len := if tkK T len p.1 = 3 then (true, nxP T len p, tkV T len (tkE T len p.1) vl, got, b) else (false, p, vl, got, b)
/-- a row: whether it is one, where it ends, the rows -/
def rbR (T : Nat → Nat) {len : Nat} (p : Fin (len + 1)) (vl : Nat) (got : Int32) (b : Bki) : Bool × Bst len :=
  if rnB T len p.1 vl (nI 0) (nI 99) then
    (if rnB T len (nxP T len p).1 (tkV T len (tkE T len p.1) vl) (nI 0) (nI 4) then
      (if rnB T len (nxP T len (nxP T len p)).1 (tkV T len (tkE T len (nxP T len p).1) (tkV T len (tkE T len p.1) vl)) (nI 0) (nI 5) then
        rbC T (nxP T len (nxP T len (nxP T len p))) (tkV T len (tkE T len (nxP T len (nxP T len p)).1) (tkV T len (tkE T len (nxP T len p).1) (tkV T len (tkE T len p.1) vl))) (nI (tkV T len (tkE T len (nxP T len p).1) (tkV T len (tkE T len p.1) vl))) (b.1 + 1, upN b.2.1 b.1 vl, upN b.2.2.1 b.1 (tkV T len (tkE T len p.1) vl), upN b.2.2.2 b.1 (tkV T len (tkE T len (nxP T len p).1) (tkV T len (tkE T len p.1) vl)))
      else (false, nxP T len (nxP T len p), tkV T len (tkE T len (nxP T len p).1) (tkV T len (tkE T len p.1) vl), nI (tkV T len (tkE T len p.1) vl), b.1 + 1, upN b.2.1 b.1 vl, upN b.2.2.1 b.1 (tkV T len (tkE T len p.1) vl), b.2.2.2))
    else (false, nxP T len p, tkV T len (tkE T len p.1) vl, nI vl, b.1 + 1, upN b.2.1 b.1 vl, b.2.2.1, b.2.2.2))
  else (false, p, vl, got, b.1 + 1, b.2.1, b.2.2.1, b.2.2.2)
def rbF (T : Nat → Nat) {len : Nat} : Nat → Bst len → Bool × Bst len
  | 0, z => (true, z)
  | n + 1, z => if tkK T len z.1.1 = 0 then (true, z) else if (rbR T z.1 z.2.1 z.2.2.1 z.2.2.2).1 then rbF T n (rbR T z.1 z.2.1 z.2.2.1 z.2.2.2).2 else rbR T z.1 z.2.1 z.2.2.1 z.2.2.2
theorem nuT_t {T : Nat → Nat} {len : Nat} {p : Fin (len + 1)} {vl : Nat} {got : Int32} {f : Nat} {fa lo hi : Int32} (h : rnB T len p.1 vl lo hi = true) : nuT T p vl got f fa lo hi = (nxP T len p, tkV T len (tkE T len p.1) vl, nI vl, f, fa) := by unfold nuT; rw [if_pos h]
theorem nuT_f {T : Nat → Nat} {len : Nat} {p : Fin (len + 1)} {vl : Nat} {got : Int32} {f : Nat} {fa lo hi : Int32} (h : rnB T len p.1 vl lo hi = false) : ∃ x y, nuT T p vl got f fa lo hi = (p, vl, got, x, y) := by
  unfold nuT
  rw [if_neg (by rw [h]; exact nft)]
  split
  · exact ⟨_, _, rfl⟩
  · exact ⟨_, _, rfl⟩
theorem clT_t {T : Nat → Nat} {len : Nat} {p : Fin (len + 1)} {vl : Nat} {f : Nat} {fa : Int32} (h : tkK T len p.1 = 3) : clT T p vl f fa = (nxP T len p, tkV T len (tkE T len p.1) vl, f, fa) := by unfold clT; rw [if_pos h]
theorem clT_f {T : Nat → Nat} {len : Nat} {p : Fin (len + 1)} {vl : Nat} {f : Nat} {fa : Int32} (h : ¬ tkK T len p.1 = 3) : ∃ x y, clT T p vl f fa = (p, vl, x, y) := by
  unfold clT
  rw [if_neg h]
  exact ⟨_, _, rfl⟩
theorem rnB_2 {T : Nat → Nat} {len p vl : Nat} {lo hi : Int32} (h : rnB T len p vl lo hi = true) : tkK T len p = 2 ∧ rgB (nI vl) lo hi = true := ⟨of_decide_eq_true (Bool.and_eq_true_iff.mp h).1, (Bool.and_eq_true_iff.mp h).2⟩
theorem tk2_e {T : Nat → Nat} {len p : Nat} (h : tkK T len p = 2) : tkS T len p < len ∧ isSm (T (tkS T len p)) = false ∧ isDg (T (tkS T len p)) = true := by
  unfold tkK at h
  split at h
  · rename_i h1
    split at h
    · split at h <;> omega
    · rename_i h2
      split at h
      · rename_i h3; exact ⟨h1, by cases hx : isSm (T (tkS T len p)) with | false => rfl | true => exact absurd hx h2, h3⟩
      · split at h <;> omega
  · omega
theorem tk2_E {T : Nat → Nat} {len p : Nat} (h : tkK T len p = 2) : tkE T len p = runF isDg T (len - tkS T len p) (tkS T len p) := by
  have h1 := tk2_e h
  unfold tkE
  rw [if_pos h1.1, if_neg (by rw [h1.2.1]; exact nft), if_pos h1.2.2]
theorem tk2_gt {T : Nat → Nat} {len p : Nat} (h : tkK T len p = 2) : p + 1 ≤ tkE T len p := by
  have h1 := tk2_e h
  have h2 := (runF_le isBl T (len - p) p).1
  have h3 : p ≤ tkS T len p := h2
  rw [tk2_E h]
  have hn : ∃ n, len - tkS T len p = n + 1 := ⟨len - tkS T len p - 1, by omega⟩
  obtain ⟨n, hn⟩ := hn
  rw [hn]
  unfold runF
  rw [if_pos h1.2.2]
  have := (runF_le isDg T n (tkS T len p + 1)).1
  omega
/-- between two numbers lies a byte -/
theorem tk2_2 {T : Nat → Nat} {len p : Nat} (h : tkK T len p = 2) (h' : tkK T len (tkE T len p) = 2) : tkE T len p + 1 ≤ tkS T len (tkE T len p) := by
  have h1 := tk2_e h
  have h2 := tk2_e h'
  have h3 : tkE T len p ≤ tkS T len (tkE T len p) := (runF_le isBl T (len - tkE T len p) (tkE T len p)).1
  by_cases e : tkS T len (tkE T len p) = tkE T len p
  · exfalso
    rw [e] at h2
    have h4 := tk2_E h
    have h5 := runF_stop isDg T (len - tkS T len p) (tkS T len p) (by rw [← h4]; have := h2.1; omega)
    rw [← h4, h2.2.2] at h5
    exact absurd h5 (by decide)
  · omega
theorem tk2_go {T : Nat → Nat} {len p : Nat} (h : tkK T len p = 2) (h' : tkK T len (tkE T len p) = 2) : tkE T len p + 2 ≤ tkE T len (tkE T len p) := by
  have h2 := tk2_2 h h'
  have h4 : tkS T len (tkE T len p) < tkE T len (tkE T len p) := by
    have e1 := tk2_e h'
    rw [tk2_E h']
    obtain ⟨n, hn⟩ : ∃ n, len - tkS T len (tkE T len p) = n + 1 := ⟨len - tkS T len (tkE T len p) - 1, by omega⟩
    rw [hn]
    unfold runF
    rw [if_pos e1.2.2]
    have := (runF_le isDg T n (tkS T len (tkE T len p) + 1)).1
    omega
  omega
set_option maxHeartbeats 4000000 in
set_option maxRecDepth 100000 in
theorem m_rbX (E : EnvT) (ad : Nat → Nat) (V : Vil) (D : Dvi) (len : Nat) (T : Nat → Nat) (f : Nat) (fa : Int32) (VR : Vil) (XR : Vix) (N : Nwi) (J : Jk) (K : Nat → Int32) (kb : Nat → Bool) (fn : Nat) (hb : Bool) (F : Nat → Nat) (b : Bki) (k : Tki) (f1 : Nat) (fa1 : Int32) (l3 : Option Value) : Tr (E, mX10_readBook, ad, some (.int (bI false)), (mA E ad V D 0 T k f fa VR XR N J K kb fn hb F (b.1 + 1, b.2))) 0 0 144 [some (.ref (ad 0)), some (.int (nI f)), some (.int fa), l3] [] (mA E ad V D 0 T k f1 fa1 VR XR N J K kb fn hb F b) := by
  refine Tr.iconst (v := nI 0) dX10_readBook_144 (icN 0) (Eq.refl 145) ?_
  refine Tr.istore_n (i := 3) dX10_readBook_145 rfl rfl rfl (Eq.refl 146) ?_
  refine Tr.mask [true, true, true, true] (lv' := [some (.ref (ad 0)), some (.int (nI f)), some (.int fa), some (.int (bI false))]) rfl ?_
  refine Tr.aload_n (i := 0) dX10_readBook_146 rfl rfl (Eq.refl 147) ?_
  refine Tr.dup dX10_readBook_147 rfl (Eq.refl 148) ?_
  refine Tr.getf dX10_readBook_148 fX10_474 rfl rfl (Eq.refl 151) ?_
  refine Tr.iconst (v := nI 1) dX10_readBook_151 (icN 1) (Eq.refl 152) ?_
  refine Tr.iaddN dX10_readBook_152 (Eq.refl 153) ?_
  refine Tr.putf dX10_readBook_153 pX10_474 rfl (rfl) (rfl) rfl (Eq.refl 156) ?_
  refine Tr.goto (pc' := 21) dX10_readBook_156 (by decide) ?_
  refine Tr.aload_n (i := 0) dX10_readBook_21 rfl rfl (Eq.refl 22) ?_
  refine Tr.getf dX10_readBook_22 fX10_27 rfl rfl (Eq.refl 25) ?_
  refine Tr.if_eq (tgt := 159) dX10_readBook_25 (by decide) (Eq.refl 28) (fun h25 => ?_) (fun h25 => ?_)
  · refine Tr.aload_n (i := 0) dX10_readBook_159 rfl rfl (Eq.refl 160) ?_
    refine Tr.iload_n (i := 1) dX10_readBook_160 rfl rfl (Eq.refl 161) ?_
    refine Tr.putf dX10_readBook_161 pX10_3 rfl (rfl) (rfl) rfl (Eq.refl 164) ?_
    refine Tr.aload_n (i := 0) dX10_readBook_164 rfl rfl (Eq.refl 165) ?_
    refine Tr.iload_n (i := 2) dX10_readBook_165 rfl rfl (Eq.refl 166) ?_
    refine Tr.putf dX10_readBook_166 pX10_10 rfl (rfl) (rfl) rfl (Eq.refl 169) ?_
    refine Tr.iload_n (i := 3) dX10_readBook_169 rfl rfl (Eq.refl 170) ?_
    refine Tr.iret dX10_readBook_170 rfl (by first | rfl | exact bI_nar _) ?_ ?_
    · rfl
    · rfl
  · refine Tr.iload_n (i := 3) dX10_readBook_28 rfl rfl (Eq.refl 29) ?_
    refine Tr.if_eq (tgt := 159) dX10_readBook_29 (by decide) (Eq.refl 32) (fun _ => ?_) (fun h => absurd h (by decide))
    refine Tr.aload_n (i := 0) dX10_readBook_159 rfl rfl (Eq.refl 160) ?_
    refine Tr.iload_n (i := 1) dX10_readBook_160 rfl rfl (Eq.refl 161) ?_
    refine Tr.putf dX10_readBook_161 pX10_3 rfl (rfl) (rfl) rfl (Eq.refl 164) ?_
    refine Tr.aload_n (i := 0) dX10_readBook_164 rfl rfl (Eq.refl 165) ?_
    refine Tr.iload_n (i := 2) dX10_readBook_165 rfl rfl (Eq.refl 166) ?_
    refine Tr.putf dX10_readBook_166 pX10_10 rfl (rfl) (rfl) rfl (Eq.refl 169) ?_
    refine Tr.iload_n (i := 3) dX10_readBook_169 rfl rfl (Eq.refl 170) ?_
    refine Tr.iret dX10_readBook_170 rfl (by first | rfl | exact bI_nar _) ?_ ?_
    · rfl
    · rfl
set_option maxHeartbeats 4000000 in
set_option maxRecDepth 100000 in
theorem m_rbL (E : EnvT) (ad : Nat → Nat) (V : Vil) (D : Dvi) (len : Nat) (T : Nat → Nat) (f : Nat) (fa : Int32) (VR : Vil) (XR : Vix) (N : Nwi) (J : Jk) (K : Nat → Int32) (kb : Nat → Bool) (fn : Nat) (hb : Bool) (F : Nat → Nat) (b : Bki) (hl : len ≤ 900) (hTa : ∀ k, T k < 256) : ∀ (n : Nat) (p : Fin (len + 1)) (vl : Nat) (got : Int32) (b : Bki), vl < 100000 → 6 * b.1 ≤ p.1 → len - p.1 < n → Tr (E, mX10_readBook, ad, some (.int (bI (rbF T n (p, vl, got, b)).1)), (mA E ad V D 0 T (len, tkS T len (rbF T n (p, vl, got, b)).2.1.1, tkE T len (rbF T n (p, vl, got, b)).2.1.1, tkH T len (rbF T n (p, vl, got, b)).2.1.1, (rbF T n (p, vl, got, b)).2.2.1, (rbF T n (p, vl, got, b)).2.2.2.1) f fa VR XR N J K kb fn hb F (rbF T n (p, vl, got, b)).2.2.2.2)) 0 0 21 [some (.ref (ad 0)), some (.int (nI f)), some (.int fa), some (.int (bI true))] [] (mA E ad V D 0 T (len, tkS T len p.1, tkE T len p.1, tkH T len p.1, vl, got) f fa VR XR N J K kb fn hb F b) := by
  have hT : ∀ k, k < 900 → T k < 256 := fun k _ => hTa k
  intro n
  induction n with
  | zero => intro p vl got b _ _ h; exact absurd h (by omega)
  | succ n ih =>
  intro p vl got b hv hbp hn
  have hk := tkH_lt T len p.1
  have hpl := Nat.le_of_lt_succ p.2
  have h0 := tkH_1 (T := T) (len := len) (p := p.1) (k := 0) (by decide)
  have hu : rbF T (n + 1) (p, vl, got, b) = if tkK T len p.1 = 0 then (true, p, vl, got, b) else if (rbR T p vl got b).1 then rbF T n (rbR T p vl got b).2 else rbR T p vl got b := rfl
  rw [hu]
  clear hu
  have hR : rbR T p vl got b = if rnB T len p.1 vl (nI 0) (nI 99) then (if rnB T len (nxP T len p).1 (tkV T len (tkE T len p.1) vl) (nI 0) (nI 4) then (if rnB T len (nxP T len (nxP T len p)).1 (tkV T len (tkE T len (nxP T len p).1) (tkV T len (tkE T len p.1) vl)) (nI 0) (nI 5) then rbC T (nxP T len (nxP T len (nxP T len p))) (tkV T len (tkE T len (nxP T len (nxP T len p)).1) (tkV T len (tkE T len (nxP T len p).1) (tkV T len (tkE T len p.1) vl))) (nI (tkV T len (tkE T len (nxP T len p).1) (tkV T len (tkE T len p.1) vl))) (b.1 + 1, upN b.2.1 b.1 vl, upN b.2.2.1 b.1 (tkV T len (tkE T len p.1) vl), upN b.2.2.2 b.1 (tkV T len (tkE T len (nxP T len p).1) (tkV T len (tkE T len p.1) vl))) else (false, nxP T len (nxP T len p), tkV T len (tkE T len (nxP T len p).1) (tkV T len (tkE T len p.1) vl), nI (tkV T len (tkE T len p.1) vl), b.1 + 1, upN b.2.1 b.1 vl, upN b.2.2.1 b.1 (tkV T len (tkE T len p.1) vl), b.2.2.2)) else (false, nxP T len p, tkV T len (tkE T len p.1) vl, nI vl, b.1 + 1, upN b.2.1 b.1 vl, b.2.2.1, b.2.2.2)) else (false, p, vl, got, b.1 + 1, b.2.1, b.2.2.1, b.2.2.2) := rfl
  have hp1 : (nxP T len p).1 = tkE T len p.1 := rfl
  have hp2 : (nxP T len (nxP T len p)).1 = tkE T len (nxP T len p).1 := rfl
  have hp3 : (nxP T len (nxP T len (nxP T len p))).1 = tkE T len (nxP T len (nxP T len p)).1 := rfl
  have hv1 : tkV T len (tkE T len p.1) vl < 100000 := tkV_lt hTa hv
  have hv2 : tkV T len (tkE T len (nxP T len p).1) (tkV T len (tkE T len p.1) vl) < 100000 := tkV_lt hTa hv1
  have hv3 : tkV T len (tkE T len (nxP T len (nxP T len p)).1) (tkV T len (tkE T len (nxP T len p).1) (tkV T len (tkE T len p.1) vl)) < 100000 := tkV_lt hTa hv2
  generalize hv3e : tkV T len (tkE T len (nxP T len (nxP T len p)).1) (tkV T len (tkE T len (nxP T len p).1) (tkV T len (tkE T len p.1) vl)) = v3 at *
  generalize hv2e : tkV T len (tkE T len (nxP T len p).1) (tkV T len (tkE T len p.1) vl) = v2 at *
  generalize hv1e : tkV T len (tkE T len p.1) vl = v1 at *
  generalize hq3 : nxP T len (nxP T len (nxP T len p)) = p3 at *
  generalize hq2 : nxP T len (nxP T len p) = p2 at *
  generalize hq1 : nxP T len p = p1 at *
  refine Tr.aload_n (i := 0) dX10_readBook_21 rfl rfl (Eq.refl 22) ?_
  refine Tr.getf dX10_readBook_22 fX10_27 rfl rfl (Eq.refl 25) ?_
  refine Tr.if_eq (tgt := 159) dX10_readBook_25 (by decide) (Eq.refl 28) (fun h25 => ?_) (fun h25 => ?_)
  · have h25 := h0.mp (nI_inj (by omega) (by decide) h25)
    rw [if_pos h25]
    refine Tr.aload_n (i := 0) dX10_readBook_159 rfl rfl (Eq.refl 160) ?_
    refine Tr.iload_n (i := 1) dX10_readBook_160 rfl rfl (Eq.refl 161) ?_
    refine Tr.putf dX10_readBook_161 pX10_3 rfl (rfl) (rfl) rfl (Eq.refl 164) ?_
    refine Tr.aload_n (i := 0) dX10_readBook_164 rfl rfl (Eq.refl 165) ?_
    refine Tr.iload_n (i := 2) dX10_readBook_165 rfl rfl (Eq.refl 166) ?_
    refine Tr.putf dX10_readBook_166 pX10_10 rfl (rfl) (rfl) rfl (Eq.refl 169) ?_
    refine Tr.iload_n (i := 3) dX10_readBook_169 rfl rfl (Eq.refl 170) ?_
    refine Tr.iret dX10_readBook_170 rfl (by first | rfl | exact bI_nar _) ?_ ?_
    · rfl
    · rfl
  · have h25 : ¬ tkK T len p.1 = 0 := fun z9 => h25 (by rw [h0.mpr z9]; rfl)
    rw [if_neg h25]
    refine Tr.iload_n (i := 3) dX10_readBook_28 rfl rfl (Eq.refl 29) ?_
    refine Tr.if_eqB (tgt := 159) dX10_readBook_29 (by decide) (Eq.refl 32) (fun h29 => ?_) (fun h29 => ?_)
    · exact absurd h29 (by decide)
    · refine Tr.aload_n (i := 0) dX10_readBook_32 rfl rfl (Eq.refl 33) ?_
      refine Tr.iconst (v := nI 0) dX10_readBook_33 (icN 0) (Eq.refl 34) ?_
      refine Tr.bipush (v := nI 99) dX10_readBook_34 (by decide +kernel) (Eq.refl 36) ?_
      refine Tr.callV (L := [0, 1]) (m_numberS E _ (rA ad) (iA V D 0 (len, tkS T len p.1, tkE T len p.1, tkH T len p.1, vl, got) f fa VR XR J fn hb b) len p vl got f fa T (nI 0) (nI 99) hl hT (by omega)) dX10_readBook_36 (kX10_85 (Nat.le_of_ble_eq_true rfl)) iX10_number rfl rfl rfl rfl rfl rfl rfl rfl rfl rfl (Eq.refl 39) ?_
      refine Tr.pic (w' := (mA E ad V D 0 T (len, tkS T len (nuT T p vl got f fa (nI 0) (nI 99)).1.1, tkE T len (nuT T p vl got f fa (nI 0) (nI 99)).1.1, tkH T len (nuT T p vl got f fa (nI 0) (nI 99)).1.1, (nuT T p vl got f fa (nI 0) (nI 99)).2.1, (nuT T p vl got f fa (nI 0) (nI 99)).2.2.1) (nuT T p vl got f fa (nI 0) (nI 99)).2.2.2.1 (nuT T p vl got f fa (nI 0) (nI 99)).2.2.2.2 VR XR N J K kb fn hb F b)) (putB_eq (Lc := [2, 3, 4, 5, 6, 7, 8, 9, 10, 11, 12, 13, 14, 15, 16, 17, 18, 19, 20, 21, 22, 23, 24, 25, 26, 27, 28, 29, 30, 31]) 32 rfl rfl rfl rfl ⟨⟨_, rfl, rfl⟩, ⟨_, rfl, rfl⟩, ⟨_, rfl, rfl⟩, ⟨_, rfl, rfl⟩, ⟨_, rfl, rfl⟩, ⟨_, rfl, rfl⟩, ⟨_, rfl, rfl⟩, ⟨_, rfl, rfl⟩, ⟨_, rfl, rfl⟩, ⟨_, rfl, rfl⟩, ⟨_, rfl, rfl⟩, ⟨_, rfl, rfl⟩, ⟨_, rfl, rfl⟩, ⟨_, rfl, rfl⟩, ⟨_, rfl, rfl⟩, ⟨_, rfl, rfl⟩, ⟨_, rfl, rfl⟩, ⟨_, rfl, rfl⟩, ⟨_, rfl, rfl⟩, ⟨_, rfl, rfl⟩, ⟨_, rfl, rfl⟩, ⟨_, rfl, rfl⟩, ⟨_, rfl, rfl⟩, ⟨_, rfl, rfl⟩, ⟨_, rfl, rfl⟩, ⟨_, rfl, rfl⟩, ⟨_, rfl, rfl⟩, ⟨_, rfl, rfl⟩, ⟨_, rfl, rfl⟩, ⟨_, rfl, rfl⟩, trivial⟩ (by decide) rfl) ?_
      refine Tr.istore_n (i := 3) dX10_readBook_39 rfl rfl rfl (Eq.refl 40) ?_
      refine Tr.iload_n (i := 3) dX10_readBook_40 rfl rfl (Eq.refl 41) ?_
      refine Tr.if_eqB (tgt := 57) dX10_readBook_41 (by decide) (Eq.refl 44) (fun h41 => ?_) (fun h41 => ?_)
      · rw [if_neg (by rw [h41]; exact nft)] at hR
        obtain ⟨x9, y9, e9⟩ := nuT_f (got := got) (f := f) (fa := fa) h41
        rw [hR, if_neg nft, h41, e9]
        refine Tr.iload_n (i := 3) dX10_readBook_57 rfl rfl (Eq.refl 58) ?_
        refine Tr.if_eq (tgt := 74) dX10_readBook_58 (by decide) (Eq.refl 61) (fun _ => ?_) (fun h => absurd h (by decide))
        refine Tr.iconst (v := nI 0) dX10_readBook_74 (icN 0) (Eq.refl 75) ?_
        refine Tr.istore_n (i := 3) dX10_readBook_75 rfl rfl rfl (Eq.refl 76) ?_
        refine Tr.iload_n (i := 3) dX10_readBook_76 rfl rfl (Eq.refl 77) ?_
        refine Tr.if_eq (tgt := 93) dX10_readBook_77 (by decide) (Eq.refl 80) (fun _ => ?_) (fun h => absurd h (by decide))
        refine Tr.iload_n (i := 3) dX10_readBook_93 rfl rfl (Eq.refl 94) ?_
        refine Tr.if_eq (tgt := 110) dX10_readBook_94 (by decide) (Eq.refl 97) (fun _ => ?_) (fun h => absurd h (by decide))
        refine Tr.iconst (v := nI 0) dX10_readBook_110 (icN 0) (Eq.refl 111) ?_
        refine Tr.istore_n (i := 3) dX10_readBook_111 rfl rfl rfl (Eq.refl 112) ?_
        refine Tr.iload_n (i := 3) dX10_readBook_112 rfl rfl (Eq.refl 113) ?_
        refine Tr.if_eq (tgt := 129) dX10_readBook_113 (by decide) (Eq.refl 116) (fun _ => ?_) (fun h => absurd h (by decide))
        refine Tr.iload_n (i := 3) dX10_readBook_129 rfl rfl (Eq.refl 130) ?_
        refine Tr.if_eq (tgt := 144) dX10_readBook_130 (by decide) (Eq.refl 133) (fun _ => ?_) (fun h => absurd h (by decide))
        skip
        exact Tr.eqs rfl rfl rfl (m_rbX E ad V D len T f fa VR XR N J K kb fn hb F b (len, tkS T len p.1, tkE T len p.1, tkH T len p.1, vl, got) x9 y9 _)
      · rw [if_pos h41] at hR
        have k1 := (rnB_2 h41).1
        rw [h41, nuT_t h41, hv1e, hq1]
        refine Tr.aload_n (i := 0) dX10_readBook_44 rfl rfl (Eq.refl 45) ?_
        refine Tr.getf dX10_readBook_45 fX10_259 rfl rfl (Eq.refl 48) ?_
        refine Tr.aload_n (i := 0) dX10_readBook_48 rfl rfl (Eq.refl 49) ?_
        refine Tr.getf dX10_readBook_49 fX10_474 rfl rfl (Eq.refl 52) ?_
        refine Tr.aload_n (i := 0) dX10_readBook_52 rfl rfl (Eq.refl 53) ?_
        refine Tr.getf dX10_readBook_53 fX10_56 rfl rfl (Eq.refl 56) ?_
        refine Tr.iastN dX10_readBook_56 rfl (by omega) (by decide) (Eq.refl 57) ?_
        refine Tr.pic (w' := (mA E ad V D 0 T (len, tkS T len p1.1, tkE T len p1.1, tkH T len p1.1, v1, (nI vl)) f fa VR XR N J K kb fn hb F (b.1, upN b.2.1 b.1 vl, b.2.2))) (by unfold mA; rw [show (fun k => nI (((b.1, upN b.2.1 b.1 vl, b.2.2) : Bki).2.1 k)) = upd (fun k => nI (b.2.1 k)) b.1 (nI vl) from nI_upN _ _ _]; rfl) ?_
        refine Tr.iload_n (i := 3) dX10_readBook_57 rfl rfl (Eq.refl 58) ?_
        refine Tr.if_eqB (tgt := 74) dX10_readBook_58 (by decide) (Eq.refl 61) (fun h58 => ?_) (fun h58 => ?_)
        · exact absurd h58 (by decide)
        · refine Tr.aload_n (i := 0) dX10_readBook_61 rfl rfl (Eq.refl 62) ?_
          refine Tr.iconst (v := nI 0) dX10_readBook_62 (icN 0) (Eq.refl 63) ?_
          refine Tr.iconst (v := nI 4) dX10_readBook_63 (icN 4) (Eq.refl 64) ?_
          refine Tr.callV (L := [0, 1]) (m_numberS E _ (rA ad) (iA V D 0 (len, tkS T len p1.1, tkE T len p1.1, tkH T len p1.1, v1, (nI vl)) f fa VR XR J fn hb (b.1, upN b.2.1 b.1 vl, b.2.2)) len p1 v1 (nI vl) f fa T (nI 0) (nI 4) hl hT (by omega)) dX10_readBook_64 (kX10_85 (Nat.le_of_ble_eq_true rfl)) iX10_number rfl rfl rfl rfl rfl rfl rfl rfl rfl rfl (Eq.refl 67) ?_
          refine Tr.pic (w' := (mA E ad V D 0 T (len, tkS T len (nuT T p1 v1 (nI vl) f fa (nI 0) (nI 4)).1.1, tkE T len (nuT T p1 v1 (nI vl) f fa (nI 0) (nI 4)).1.1, tkH T len (nuT T p1 v1 (nI vl) f fa (nI 0) (nI 4)).1.1, (nuT T p1 v1 (nI vl) f fa (nI 0) (nI 4)).2.1, (nuT T p1 v1 (nI vl) f fa (nI 0) (nI 4)).2.2.1) (nuT T p1 v1 (nI vl) f fa (nI 0) (nI 4)).2.2.2.1 (nuT T p1 v1 (nI vl) f fa (nI 0) (nI 4)).2.2.2.2 VR XR N J K kb fn hb F (b.1, upN b.2.1 b.1 vl, b.2.2))) (putB_eq (Lc := [2, 3, 4, 5, 6, 7, 8, 9, 10, 11, 12, 13, 14, 15, 16, 17, 18, 19, 20, 21, 22, 23, 24, 25, 26, 27, 28, 29, 30, 31]) 32 rfl rfl rfl rfl ⟨⟨_, rfl, rfl⟩, ⟨_, rfl, rfl⟩, ⟨_, rfl, rfl⟩, ⟨_, rfl, rfl⟩, ⟨_, rfl, rfl⟩, ⟨_, rfl, rfl⟩, ⟨_, rfl, rfl⟩, ⟨_, rfl, rfl⟩, ⟨_, rfl, rfl⟩, ⟨_, rfl, rfl⟩, ⟨_, rfl, rfl⟩, ⟨_, rfl, rfl⟩, ⟨_, rfl, rfl⟩, ⟨_, rfl, rfl⟩, ⟨_, rfl, rfl⟩, ⟨_, rfl, rfl⟩, ⟨_, rfl, rfl⟩, ⟨_, rfl, rfl⟩, ⟨_, rfl, rfl⟩, ⟨_, rfl, rfl⟩, ⟨_, rfl, rfl⟩, ⟨_, rfl, rfl⟩, ⟨_, rfl, rfl⟩, ⟨_, rfl, rfl⟩, ⟨_, rfl, rfl⟩, ⟨_, rfl, rfl⟩, ⟨_, rfl, rfl⟩, ⟨_, rfl, rfl⟩, ⟨_, rfl, rfl⟩, ⟨_, rfl, rfl⟩, trivial⟩ (by decide) rfl) ?_
          refine Tr.if_eqB (tgt := 74) dX10_readBook_67 (by decide) (Eq.refl 70) (fun h67 => ?_) (fun h67 => ?_)
          · rw [if_neg (by rw [h67]; exact nft)] at hR
            obtain ⟨x9, y9, e9⟩ := nuT_f (got := nI vl) (f := f) (fa := fa) h67
            rw [hR, if_neg nft, e9]
            refine Tr.iconst (v := nI 0) dX10_readBook_74 (icN 0) (Eq.refl 75) ?_
            refine Tr.istore_n (i := 3) dX10_readBook_75 rfl rfl rfl (Eq.refl 76) ?_
            refine Tr.iload_n (i := 3) dX10_readBook_76 rfl rfl (Eq.refl 77) ?_
            refine Tr.if_eq (tgt := 93) dX10_readBook_77 (by decide) (Eq.refl 80) (fun _ => ?_) (fun h => absurd h (by decide))
            refine Tr.iload_n (i := 3) dX10_readBook_93 rfl rfl (Eq.refl 94) ?_
            refine Tr.if_eq (tgt := 110) dX10_readBook_94 (by decide) (Eq.refl 97) (fun _ => ?_) (fun h => absurd h (by decide))
            refine Tr.iconst (v := nI 0) dX10_readBook_110 (icN 0) (Eq.refl 111) ?_
            refine Tr.istore_n (i := 3) dX10_readBook_111 rfl rfl rfl (Eq.refl 112) ?_
            refine Tr.iload_n (i := 3) dX10_readBook_112 rfl rfl (Eq.refl 113) ?_
            refine Tr.if_eq (tgt := 129) dX10_readBook_113 (by decide) (Eq.refl 116) (fun _ => ?_) (fun h => absurd h (by decide))
            refine Tr.iload_n (i := 3) dX10_readBook_129 rfl rfl (Eq.refl 130) ?_
            refine Tr.if_eq (tgt := 144) dX10_readBook_130 (by decide) (Eq.refl 133) (fun _ => ?_) (fun h => absurd h (by decide))
            skip
            exact Tr.eqs rfl rfl rfl (m_rbX E ad V D len T f fa VR XR N J K kb fn hb F (b.1, upN b.2.1 b.1 vl, b.2.2) (len, tkS T len p1.1, tkE T len p1.1, tkH T len p1.1, v1, (nI vl)) x9 y9 _)
          · rw [if_pos h67] at hR
            have k2 := (rnB_2 h67).1
            rw [nuT_t h67, hv2e, hq2]
            refine Tr.iconst (v := nI 1) dX10_readBook_70 (icN 1) (Eq.refl 71) ?_
            refine Tr.goto (pc' := 75) dX10_readBook_71 (by decide) ?_
            refine Tr.istore_n (i := 3) dX10_readBook_75 rfl rfl rfl (Eq.refl 76) ?_
            refine Tr.iload_n (i := 3) dX10_readBook_76 rfl rfl (Eq.refl 77) ?_
            refine Tr.if_eq (tgt := 93) dX10_readBook_77 (by decide) (Eq.refl 80) (fun h => absurd h (by decide)) (fun _ => ?_)
            refine Tr.aload_n (i := 0) dX10_readBook_80 rfl rfl (Eq.refl 81) ?_
            refine Tr.getf dX10_readBook_81 fX10_262 rfl rfl (Eq.refl 84) ?_
            refine Tr.aload_n (i := 0) dX10_readBook_84 rfl rfl (Eq.refl 85) ?_
            refine Tr.getf dX10_readBook_85 fX10_474 rfl rfl (Eq.refl 88) ?_
            refine Tr.aload_n (i := 0) dX10_readBook_88 rfl rfl (Eq.refl 89) ?_
            refine Tr.getf dX10_readBook_89 fX10_56 rfl rfl (Eq.refl 92) ?_
            refine Tr.iastN dX10_readBook_92 rfl (by omega) (by decide) (Eq.refl 93) ?_
            refine Tr.pic (w' := (mA E ad V D 0 T (len, tkS T len p2.1, tkE T len p2.1, tkH T len p2.1, v2, (nI v1)) f fa VR XR N J K kb fn hb F (b.1, upN b.2.1 b.1 vl, upN b.2.2.1 b.1 v1, b.2.2.2))) (by unfold mA; rw [show (fun k => nI (((b.1, upN b.2.1 b.1 vl, upN b.2.2.1 b.1 v1, b.2.2.2) : Bki).2.2.1 k)) = upd (fun k => nI (b.2.2.1 k)) b.1 (nI v1) from nI_upN _ _ _]; rfl) ?_
            refine Tr.iload_n (i := 3) dX10_readBook_93 rfl rfl (Eq.refl 94) ?_
            refine Tr.if_eq (tgt := 110) dX10_readBook_94 (by decide) (Eq.refl 97) (fun h => absurd h (by decide)) (fun _ => ?_)
            refine Tr.aload_n (i := 0) dX10_readBook_97 rfl rfl (Eq.refl 98) ?_
            refine Tr.iconst (v := nI 0) dX10_readBook_98 (icN 0) (Eq.refl 99) ?_
            refine Tr.iconst (v := nI 5) dX10_readBook_99 (icN 5) (Eq.refl 100) ?_
            refine Tr.callV (L := [0, 1]) (m_numberS E _ (rA ad) (iA V D 0 (len, tkS T len p2.1, tkE T len p2.1, tkH T len p2.1, v2, (nI v1)) f fa VR XR J fn hb (b.1, upN b.2.1 b.1 vl, upN b.2.2.1 b.1 v1, b.2.2.2)) len p2 v2 (nI v1) f fa T (nI 0) (nI 5) hl hT (by omega)) dX10_readBook_100 (kX10_85 (Nat.le_of_ble_eq_true rfl)) iX10_number rfl rfl rfl rfl rfl rfl rfl rfl rfl rfl (Eq.refl 103) ?_
            refine Tr.pic (w' := (mA E ad V D 0 T (len, tkS T len (nuT T p2 v2 (nI v1) f fa (nI 0) (nI 5)).1.1, tkE T len (nuT T p2 v2 (nI v1) f fa (nI 0) (nI 5)).1.1, tkH T len (nuT T p2 v2 (nI v1) f fa (nI 0) (nI 5)).1.1, (nuT T p2 v2 (nI v1) f fa (nI 0) (nI 5)).2.1, (nuT T p2 v2 (nI v1) f fa (nI 0) (nI 5)).2.2.1) (nuT T p2 v2 (nI v1) f fa (nI 0) (nI 5)).2.2.2.1 (nuT T p2 v2 (nI v1) f fa (nI 0) (nI 5)).2.2.2.2 VR XR N J K kb fn hb F (b.1, upN b.2.1 b.1 vl, upN b.2.2.1 b.1 v1, b.2.2.2))) (putB_eq (Lc := [2, 3, 4, 5, 6, 7, 8, 9, 10, 11, 12, 13, 14, 15, 16, 17, 18, 19, 20, 21, 22, 23, 24, 25, 26, 27, 28, 29, 30, 31]) 32 rfl rfl rfl rfl ⟨⟨_, rfl, rfl⟩, ⟨_, rfl, rfl⟩, ⟨_, rfl, rfl⟩, ⟨_, rfl, rfl⟩, ⟨_, rfl, rfl⟩, ⟨_, rfl, rfl⟩, ⟨_, rfl, rfl⟩, ⟨_, rfl, rfl⟩, ⟨_, rfl, rfl⟩, ⟨_, rfl, rfl⟩, ⟨_, rfl, rfl⟩, ⟨_, rfl, rfl⟩, ⟨_, rfl, rfl⟩, ⟨_, rfl, rfl⟩, ⟨_, rfl, rfl⟩, ⟨_, rfl, rfl⟩, ⟨_, rfl, rfl⟩, ⟨_, rfl, rfl⟩, ⟨_, rfl, rfl⟩, ⟨_, rfl, rfl⟩, ⟨_, rfl, rfl⟩, ⟨_, rfl, rfl⟩, ⟨_, rfl, rfl⟩, ⟨_, rfl, rfl⟩, ⟨_, rfl, rfl⟩, ⟨_, rfl, rfl⟩, ⟨_, rfl, rfl⟩, ⟨_, rfl, rfl⟩, ⟨_, rfl, rfl⟩, ⟨_, rfl, rfl⟩, trivial⟩ (by decide) rfl) ?_
            refine Tr.if_eqB (tgt := 110) dX10_readBook_103 (by decide) (Eq.refl 106) (fun h103 => ?_) (fun h103 => ?_)
            · rw [if_neg (by rw [h103]; exact nft)] at hR
              obtain ⟨x9, y9, e9⟩ := nuT_f (got := nI v1) (f := f) (fa := fa) h103
              rw [hR, if_neg nft, e9]
              refine Tr.iconst (v := nI 0) dX10_readBook_110 (icN 0) (Eq.refl 111) ?_
              refine Tr.istore_n (i := 3) dX10_readBook_111 rfl rfl rfl (Eq.refl 112) ?_
              refine Tr.iload_n (i := 3) dX10_readBook_112 rfl rfl (Eq.refl 113) ?_
              refine Tr.if_eq (tgt := 129) dX10_readBook_113 (by decide) (Eq.refl 116) (fun _ => ?_) (fun h => absurd h (by decide))
              refine Tr.iload_n (i := 3) dX10_readBook_129 rfl rfl (Eq.refl 130) ?_
              refine Tr.if_eq (tgt := 144) dX10_readBook_130 (by decide) (Eq.refl 133) (fun _ => ?_) (fun h => absurd h (by decide))
              skip
              exact Tr.eqs rfl rfl rfl (m_rbX E ad V D len T f fa VR XR N J K kb fn hb F (b.1, upN b.2.1 b.1 vl, upN b.2.2.1 b.1 v1, b.2.2.2) (len, tkS T len p2.1, tkE T len p2.1, tkH T len p2.1, v2, (nI v1)) x9 y9 _)
            · rw [if_pos h103] at hR
              have k3 := (rnB_2 h103).1
              rw [nuT_t h103, hv3e, hq3]
              refine Tr.iconst (v := nI 1) dX10_readBook_106 (icN 1) (Eq.refl 107) ?_
              refine Tr.goto (pc' := 111) dX10_readBook_107 (by decide) ?_
              refine Tr.istore_n (i := 3) dX10_readBook_111 rfl rfl rfl (Eq.refl 112) ?_
              refine Tr.iload_n (i := 3) dX10_readBook_112 rfl rfl (Eq.refl 113) ?_
              refine Tr.if_eq (tgt := 129) dX10_readBook_113 (by decide) (Eq.refl 116) (fun h => absurd h (by decide)) (fun _ => ?_)
              refine Tr.aload_n (i := 0) dX10_readBook_116 rfl rfl (Eq.refl 117) ?_
              refine Tr.getf dX10_readBook_117 fX10_265 rfl rfl (Eq.refl 120) ?_
              refine Tr.aload_n (i := 0) dX10_readBook_120 rfl rfl (Eq.refl 121) ?_
              refine Tr.getf dX10_readBook_121 fX10_474 rfl rfl (Eq.refl 124) ?_
              refine Tr.aload_n (i := 0) dX10_readBook_124 rfl rfl (Eq.refl 125) ?_
              refine Tr.getf dX10_readBook_125 fX10_56 rfl rfl (Eq.refl 128) ?_
              refine Tr.iastN dX10_readBook_128 rfl (by omega) (by decide) (Eq.refl 129) ?_
              refine Tr.pic (w' := (mA E ad V D 0 T (len, tkS T len p3.1, tkE T len p3.1, tkH T len p3.1, v3, (nI v2)) f fa VR XR N J K kb fn hb F (b.1, upN b.2.1 b.1 vl, upN b.2.2.1 b.1 v1, upN b.2.2.2 b.1 v2))) (by unfold mA; rw [show (fun k => nI (((b.1, upN b.2.1 b.1 vl, upN b.2.2.1 b.1 v1, upN b.2.2.2 b.1 v2) : Bki).2.2.2 k)) = upd (fun k => nI (b.2.2.2 k)) b.1 (nI v2) from nI_upN _ _ _]; rfl) ?_
              refine Tr.iload_n (i := 3) dX10_readBook_129 rfl rfl (Eq.refl 130) ?_
              refine Tr.if_eq (tgt := 144) dX10_readBook_130 (by decide) (Eq.refl 133) (fun h => absurd h (by decide)) (fun _ => ?_)
              refine Tr.aload_n (i := 0) dX10_readBook_133 rfl rfl (Eq.refl 134) ?_
              refine Tr.callV (L := [0, 1]) (m_closeS E _ (rA ad) (iA V D 0 (len, tkS T len p3.1, tkE T len p3.1, tkH T len p3.1, v3, (nI v2)) f fa VR XR J fn hb (b.1, upN b.2.1 b.1 vl, upN b.2.2.1 b.1 v1, upN b.2.2.2 b.1 v2)) len p3 v3 (nI v2) f fa T hl hT) dX10_readBook_134 (kX10_189 (Nat.le_of_ble_eq_true rfl)) iX10_close rfl rfl rfl rfl rfl rfl rfl rfl rfl rfl (Eq.refl 137) ?_
              refine Tr.pic (w' := (mA E ad V D 0 T (len, tkS T len (clT T p3 v3 f fa).1.1, tkE T len (clT T p3 v3 f fa).1.1, tkH T len (clT T p3 v3 f fa).1.1, (clT T p3 v3 f fa).2.1, (nI v2)) (clT T p3 v3 f fa).2.2.1 (clT T p3 v3 f fa).2.2.2 VR XR N J K kb fn hb F (b.1, upN b.2.1 b.1 vl, upN b.2.2.1 b.1 v1, upN b.2.2.2 b.1 v2))) (putB_eq (Lc := [2, 3, 4, 5, 6, 7, 8, 9, 10, 11, 12, 13, 14, 15, 16, 17, 18, 19, 20, 21, 22, 23, 24, 25, 26, 27, 28, 29, 30, 31]) 32 rfl rfl rfl rfl ⟨⟨_, rfl, rfl⟩, ⟨_, rfl, rfl⟩, ⟨_, rfl, rfl⟩, ⟨_, rfl, rfl⟩, ⟨_, rfl, rfl⟩, ⟨_, rfl, rfl⟩, ⟨_, rfl, rfl⟩, ⟨_, rfl, rfl⟩, ⟨_, rfl, rfl⟩, ⟨_, rfl, rfl⟩, ⟨_, rfl, rfl⟩, ⟨_, rfl, rfl⟩, ⟨_, rfl, rfl⟩, ⟨_, rfl, rfl⟩, ⟨_, rfl, rfl⟩, ⟨_, rfl, rfl⟩, ⟨_, rfl, rfl⟩, ⟨_, rfl, rfl⟩, ⟨_, rfl, rfl⟩, ⟨_, rfl, rfl⟩, ⟨_, rfl, rfl⟩, ⟨_, rfl, rfl⟩, ⟨_, rfl, rfl⟩, ⟨_, rfl, rfl⟩, ⟨_, rfl, rfl⟩, ⟨_, rfl, rfl⟩, ⟨_, rfl, rfl⟩, ⟨_, rfl, rfl⟩, ⟨_, rfl, rfl⟩, ⟨_, rfl, rfl⟩, trivial⟩ (by decide) rfl) ?_
              refine Tr.if_eqB (tgt := 144) dX10_readBook_137 (by decide) (Eq.refl 140) (fun h137 => ?_) (fun h137 => ?_)
              · have h137 := of_decide_eq_false h137
                obtain ⟨x9, y9, e9⟩ := clT_f (vl := v3) (f := f) (fa := fa) h137
                unfold rbC at hR
                rw [if_neg h137] at hR
                rw [hR, if_neg nft, e9]
                exact Tr.eqs rfl rfl rfl (m_rbX E ad V D len T f fa VR XR N J K kb fn hb F (b.1, upN b.2.1 b.1 vl, upN b.2.2.1 b.1 v1, upN b.2.2.2 b.1 v2) (len, tkS T len p3.1, tkE T len p3.1, tkH T len p3.1, v3, (nI v2)) x9 y9 _)
              · have h137 := of_decide_eq_true h137
                unfold rbC at hR
                rw [if_pos h137] at hR
                rw [hR, if_pos rfl, clT_t h137]
                refine Tr.iconst (v := nI 1) dX10_readBook_140 (icN 1) (Eq.refl 141) ?_
                refine Tr.goto (pc' := 145) dX10_readBook_141 (by decide) ?_
                refine Tr.istore_n (i := 3) dX10_readBook_145 rfl rfl rfl (Eq.refl 146) ?_
                refine Tr.aload_n (i := 0) dX10_readBook_146 rfl rfl (Eq.refl 147) ?_
                refine Tr.dup dX10_readBook_147 rfl (Eq.refl 148) ?_
                refine Tr.getf dX10_readBook_148 fX10_474 rfl rfl (Eq.refl 151) ?_
                refine Tr.iconst (v := nI 1) dX10_readBook_151 (icN 1) (Eq.refl 152) ?_
                refine Tr.iaddN dX10_readBook_152 (Eq.refl 153) ?_
                refine Tr.putf dX10_readBook_153 pX10_474 rfl (rfl) (rfl) rfl (Eq.refl 156) ?_
                refine Tr.goto (pc' := 21) dX10_readBook_156 (by decide) ?_
                have g1 := tk2_gt k1
                have g2 := tk2_go k1 (by rw [← hp1]; exact k2)
                have g3 := tk2_go k2 (by rw [← hp2]; exact k3)
                have g4 := tkE_gt h137
                rw [← hp1, ← hp2] at g2
                rw [← hp2, ← hp3] at g3
                rw [← hp1] at g1
                have g5 : (nxP T len p3).1 = tkE T len p3.1 := rfl
                have g6 := Nat.le_of_lt_succ (nxP T len p3).2
                exact Tr.eqs rfl rfl rfl (ih (nxP T len p3) (tkV T len (tkE T len p3.1) v3) (nI v2) (b.1 + 1, upN b.2.1 b.1 vl, upN b.2.2.1 b.1 v1, upN b.2.2.2 b.1 v2) (tkV_lt hTa hv3) (by rw [g5]; show 6 * (b.1 + 1) ≤ _; omega) (by rw [g5]; omega))
set_option maxHeartbeats 4000000 in
set_option maxRecDepth 100000 in
theorem m_readBook (E : EnvT) (ad : Nat → Nat) (V : Vil) (D : Dvi) (len : Nat) (T : Nat → Nat) (f : Nat) (fa : Int32) (VR : Vil) (XR : Vix) (N : Nwi) (J : Jk) (K : Nat → Int32) (kb : Nat → Bool) (fn : Nat) (hb : Bool) (F : Nat → Nat) (b : Bki) (k : Tki) (hl : len ≤ 900) (hTa : ∀ k, T k < 256) (hv : k.2.2.2.2.1 < 100000) : Md E mX10_readBook ad [.ref (ad 0)] (mA E ad V D len T k f fa VR XR N J K kb fn hb F b) (some (.int (bI (rbF T (len + 1) (p0F len, tkV T len 0 k.2.2.2.2.1, k.2.2.2.2.2, 0, b.2)).1))) (mA E ad V D 0 T (len, tkS T len (rbF T (len + 1) (p0F len, tkV T len 0 k.2.2.2.2.1, k.2.2.2.2.2, 0, b.2)).2.1.1, tkE T len (rbF T (len + 1) (p0F len, tkV T len 0 k.2.2.2.2.1, k.2.2.2.2.2, 0, b.2)).2.1.1, tkH T len (rbF T (len + 1) (p0F len, tkV T len 0 k.2.2.2.2.1, k.2.2.2.2.2, 0, b.2)).2.1.1, (rbF T (len + 1) (p0F len, tkV T len 0 k.2.2.2.2.1, k.2.2.2.2.2, 0, b.2)).2.2.1, (rbF T (len + 1) (p0F len, tkV T len 0 k.2.2.2.2.1, k.2.2.2.2.2, 0, b.2)).2.2.2.1) f fa VR XR N J K kb fn hb F (rbF T (len + 1) (p0F len, tkV T len 0 k.2.2.2.2.1, k.2.2.2.2.2, 0, b.2)).2.2.2.2) := by
  have hT : ∀ k, k < 900 → T k < 256 := fun k _ => hTa k
  have hL := m_rbL E ad V D len T f fa VR XR N J K kb fn hb F b hl hTa (len + 1) (p0F len) (tkV T len 0 k.2.2.2.2.1) k.2.2.2.2.2 (0, b.2) (tkV_lt hTa hv) (by show 6 * 0 ≤ _; omega) (by omega)
  generalize (rbF T (len + 1) (p0F len, tkV T len 0 k.2.2.2.2.1, k.2.2.2.2.2, 0, b.2)) = y at *
  refine Md.of 3 (by decide) rfl rfl ?_
  refine Tr.aload_n (i := 0) dX10_readBook_0 rfl rfl (Eq.refl 1) ?_
  refine Tr.getf dX10_readBook_1 fX10_3 rfl rfl (Eq.refl 4) ?_
  refine Tr.istore_n (i := 1) dX10_readBook_4 rfl rfl rfl (Eq.refl 5) ?_
  refine Tr.aload_n (i := 0) dX10_readBook_5 rfl rfl (Eq.refl 6) ?_
  refine Tr.getf dX10_readBook_6 fX10_10 rfl rfl (Eq.refl 9) ?_
  refine Tr.istore_n (i := 2) dX10_readBook_9 rfl rfl rfl (Eq.refl 10) ?_
  refine Tr.aload_n (i := 0) dX10_readBook_10 rfl rfl (Eq.refl 11) ?_
  refine Tr.callV (L := [0, 1]) (m_open E _ (rA ad) (iA V D len k f fa VR XR J fn hb b) len T k f fa hl hT) dX10_readBook_11 (kX10_276 (Nat.le_of_ble_eq_true rfl)) iX10_open rfl rfl rfl rfl rfl rfl rfl rfl rfl rfl (Eq.refl 14) ?_
  refine Tr.pic (w' := (mA E ad V D 0 T (len, tkS T len 0, tkE T len 0, tkH T len 0, (tkV T len 0 k.2.2.2.2.1), k.2.2.2.2.2) f fa VR XR N J K kb fn hb F b)) (putB_eq (Lc := [2, 3, 4, 5, 6, 7, 8, 9, 10, 11, 12, 13, 14, 15, 16, 17, 18, 19, 20, 21, 22, 23, 24, 25, 26, 27, 28, 29, 30, 31]) 32 rfl rfl rfl rfl ⟨⟨_, rfl, rfl⟩, ⟨_, rfl, rfl⟩, ⟨_, rfl, rfl⟩, ⟨_, rfl, rfl⟩, ⟨_, rfl, rfl⟩, ⟨_, rfl, rfl⟩, ⟨_, rfl, rfl⟩, ⟨_, rfl, rfl⟩, ⟨_, rfl, rfl⟩, ⟨_, rfl, rfl⟩, ⟨_, rfl, rfl⟩, ⟨_, rfl, rfl⟩, ⟨_, rfl, rfl⟩, ⟨_, rfl, rfl⟩, ⟨_, rfl, rfl⟩, ⟨_, rfl, rfl⟩, ⟨_, rfl, rfl⟩, ⟨_, rfl, rfl⟩, ⟨_, rfl, rfl⟩, ⟨_, rfl, rfl⟩, ⟨_, rfl, rfl⟩, ⟨_, rfl, rfl⟩, ⟨_, rfl, rfl⟩, ⟨_, rfl, rfl⟩, ⟨_, rfl, rfl⟩, ⟨_, rfl, rfl⟩, ⟨_, rfl, rfl⟩, ⟨_, rfl, rfl⟩, ⟨_, rfl, rfl⟩, ⟨_, rfl, rfl⟩, trivial⟩ (by decide) rfl) ?_
  refine Tr.aload_n (i := 0) dX10_readBook_14 rfl rfl (Eq.refl 15) ?_
  refine Tr.iconst (v := nI 0) dX10_readBook_15 (icN 0) (Eq.refl 16) ?_
  refine Tr.putf dX10_readBook_16 pX10_474 rfl (rfl) (rfl) rfl (Eq.refl 19) ?_
  refine Tr.iconst (v := nI 1) dX10_readBook_19 (icN 1) (Eq.refl 20) ?_
  refine Tr.istore_n (i := 3) dX10_readBook_20 rfl rfl rfl (Eq.refl 21) ?_
  exact Tr.eqs rfl rfl rfl hL
