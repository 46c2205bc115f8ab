/-! LEDGER: quarters of rows -/
/-- the wishes of the rows of this quarter -/
def prF (t : Nat) (b : Bki) : Nat → Nat → (Nat → Nat) → Nat × (Nat → Nat)
  | 0, d, W => (d, W)
  | n + 1, d, W => if b.2.1 d = t then prF t b n (d + 1) (upN W (b.2.2.1 d) (b.2.2.2 d)) else (d, W)
def wkF (V : Vil) (t : Nat) (W : Nat → Nat) : Nat → (Nat → Nat)
  | 0 => W
  | p + 1 => if wkB V p t then upN (wkF V t W p) p 5 else wkF V t W p
/-- a quarter's rows: the next row, wishes -/
def pqR (V : Vil) (b : Bki) (S : Scn) (W : Nat → Nat) (d g : Nat) : Nat × (Nat → Nat) := ((prF (psS S) b (g - d) d (pre (whS S) W (npV V))).1, wkF V (psS S) (prF (psS S) b (g - d) d (pre (whS S) W (npV V))).2 (npV V))
theorem prF_le {t : Nat} {b : Bki} (hb : ∀ k, b.2.2.2 k ≤ 5) : ∀ n d W, (∀ k, W k ≤ 5) → (∀ k, (prF t b n d W).2 k ≤ 5) ∧ d ≤ (prF t b n d W).1 ∧ (prF t b n d W).1 ≤ d + n := by
  intro n
  induction n with
  | zero => intro d W h; exact ⟨h, Nat.le_refl _, Nat.le_refl _⟩
  | succ n ih =>
    intro d W h
    unfold prF
    split
    · have := ih (d + 1) (upN W (b.2.2.1 d) (b.2.2.2 d)) (fun k => by unfold upN; split; exact hb d; exact h k)
      exact ⟨this.1, by omega, by omega⟩
    · exact ⟨h, Nat.le_refl _, by omega⟩
theorem wkF_le {V : Vil} {t : Nat} {W : Nat → Nat} (h : ∀ k, W k ≤ 5) : ∀ n k, wkF V t W n k ≤ 5 := by
  intro n
  induction n with
  | zero => exact h
  | succ n ih =>
    intro k
    unfold wkF
    split
    · unfold upN; split
      · exact Nat.le_refl _
      · exact ih k
    · exact ih k
theorem pre_le {f g : Nat → Nat} {n : Nat} (hg : ∀ k, k < n → g k ≤ 5) (hf : ∀ k, f k ≤ 5) : ∀ k, pre g f n k ≤ 5 := by
  intro k
  unfold pre
  split
  · rename_i h; exact hg k h
  · exact hf k
set_option maxHeartbeats 4000000 in
set_option maxRecDepth 100000 in
theorem g_passL (E : EnvT) (ad : Nat → Nat) (b : Bki) (S : Scn) (W : Nat → Nat) (V : Vil) (X : Vix) (L : Nat → Int32) (d0 g : Nat) (r0 : Option Value) (w0 : List va_E) (hb : ∀ k, b.2.1 k < 1000 ∧ b.2.2.1 k < 5 ∧ b.2.2.2 k ≤ 5) (hV : Vok V) (ht : psS S < 2 ^ 30) (hg : g ≤ 150) : ∀ (n d : Nat) (W : Nat → Nat), d + n = g → (∀ q, q = prF (psS S) b n d W → Tr (E, mX2_passRows, ad, r0, w0) 0 0 87 [some (.ref (ad 0)), some (.ref (ad 12)), some (.ref (ad 23)), none, some (.int (nI g)), some (.int (nI q.1)), none] [] (lgC E ad b S q.2 V X L)) → Tr (E, mX2_passRows, ad, r0, w0) 0 0 38 [some (.ref (ad 0)), some (.ref (ad 12)), some (.ref (ad 23)), none, some (.int (nI g)), some (.int (nI d)), none] [] (lgC E ad b S W V X L) := by
  intro n
  induction n with
  | zero =>
    intro d W h hx
    have hx := hx _ rfl
    refine Tr.iload dX2_passRows_38 rfl (Eq.refl 40) ?_
    refine Tr.iload dX2_passRows_40 rfl (Eq.refl 42) ?_
    refine Tr.icmp_geN (tgt := 87) dX2_passRows_42 (by decide) (Eq.refl 45) (by omega) (by omega) (fun h42 => ?_) (fun h42 => ?_)
    · exact Tr.eqs rfl rfl rfl hx
    · exact absurd h42 (by omega)
  | succ n ih =>
    intro d W h hx
    have b1 := hb d
    have hu : prF (psS S) b (n + 1) d W = if b.2.1 d = psS S then prF (psS S) b n (d + 1) (upN W (b.2.2.1 d) (b.2.2.2 d)) else (d, W) := rfl
    rw [hu] at hx
    clear hu
    refine Tr.iload dX2_passRows_38 rfl (Eq.refl 40) ?_
    refine Tr.iload dX2_passRows_40 rfl (Eq.refl 42) ?_
    refine Tr.icmp_geN (tgt := 87) dX2_passRows_42 (by decide) (Eq.refl 45) (by omega) (by omega) (fun h42 => ?_) (fun h42 => ?_)
    · exact absurd h42 (by omega)
    · refine Tr.aload_n (i := 0) dX2_passRows_45 rfl rfl (Eq.refl 46) ?_
      refine Tr.getf dX2_passRows_46 fX2_11 rfl rfl (Eq.refl 49) ?_
      refine Tr.iload dX2_passRows_49 rfl (Eq.refl 51) ?_
      refine Tr.ialdN dX2_passRows_51 rfl (by omega) (by decide) (Eq.refl 52) ?_
      refine Tr.aload_n (i := 0) dX2_passRows_52 rfl rfl (Eq.refl 53) ?_
      refine Tr.getf dX2_passRows_53 fX2_24 rfl rfl (Eq.refl 56) ?_
      refine Tr.getf dX2_passRows_56 fX2_84 rfl rfl (Eq.refl 59) ?_
      refine Tr.icmp_neN (tgt := 87) dX2_passRows_59 (by decide) (Eq.refl 62) (by omega) (by omega) (fun h59 => ?_) (fun h59 => ?_)
      · rw [if_neg (by omega)] at hx
        exact Tr.eqs rfl rfl rfl (hx _ rfl)
      · rw [if_pos (by omega)] at hx
        refine Tr.aload_n (i := 0) dX2_passRows_62 rfl rfl (Eq.refl 63) ?_
        refine Tr.getf dX2_passRows_63 fX2_28 rfl rfl (Eq.refl 66) ?_
        refine Tr.aload_n (i := 0) dX2_passRows_66 rfl rfl (Eq.refl 67) ?_
        refine Tr.getf dX2_passRows_67 fX2_15 rfl rfl (Eq.refl 70) ?_
        refine Tr.iload dX2_passRows_70 rfl (Eq.refl 72) ?_
        refine Tr.ialdN dX2_passRows_72 rfl (by omega) (by decide) (Eq.refl 73) ?_
        refine Tr.aload_n (i := 0) dX2_passRows_73 rfl rfl (Eq.refl 74) ?_
        refine Tr.getf dX2_passRows_74 fX2_18 rfl rfl (Eq.refl 77) ?_
        refine Tr.iload dX2_passRows_77 rfl (Eq.refl 79) ?_
        refine Tr.ialdN dX2_passRows_79 rfl (by omega) (by decide) (Eq.refl 80) ?_
        refine Tr.iastN dX2_passRows_80 rfl (by omega) (by decide) (Eq.refl 81) ?_
        refine Tr.pic (w' := (lgC E ad b S (upN W (b.2.2.1 d) (b.2.2.2 d)) V X L)) (by unfold lgC; rw [cl_upN W]; rfl) ?_
        refine Tr.iincN dX2_passRows_81 rfl rfl rfl (Eq.refl 84) ?_
        refine Tr.goto (pc' := 38) dX2_passRows_84 (by decide) ?_
        exact Tr.eqs rfl rfl rfl (ih (d + 1) _ (by omega) hx)
set_option maxHeartbeats 4000000 in
set_option maxRecDepth 100000 in
theorem g_pass (E : EnvT) (ad : Nat → Nat) (b : Bki) (S : Scn) (W : Nat → Nat) (V : Vil) (X : Vix) (L : Nat → Int32) (d g : Nat) (hb : ∀ k, b.2.1 k < 1000 ∧ b.2.2.1 k < 5 ∧ b.2.2.2 k ≤ 5) (hV : Vok V) (hS : Sle V S) (hW : ∀ k, W k ≤ 5) (ht : psS S < 2 ^ 30) (hg : g ≤ 150) (hd : d ≤ g) : Md E mX2_passRows ad [.ref (ad 0), .ref (ad 12), .ref (ad 23), .int (nI d), .int (nI g)] (lgC E ad b S W V X L) (some (.int (nI (pqR V b S W d g).1))) (lgC E ad b (gon V L (pqR V b S W d g).2 S) (pqR V b S W d g).2 V X L) := by
  have hp5 := hV.2.1
  have hle1 : ∀ k, pre (whS S) W (npV V) k ≤ 5 := pre_le hS hW
  have hle2 := prF_le (t := psS S) (fun k => (hb k).2.2) (g - d) d (pre (whS S) W (npV V)) hle1
  have hle3 : ∀ n k, wkF V (psS S) (prF (psS S) b (g - d) d (pre (whS S) W (npV V))).2 n k ≤ 5 := wkF_le hle2.1
  unfold pqR
  refine Md.of 2 (by decide) rfl rfl ?_
  refine Tr.iconst (v := nI 0) dX2_passRows_0 (icN 0) (Eq.refl 1) ?_
  refine Tr.istore dX2_passRows_1 rfl rfl (Eq.refl 3) ?_
  skip
  refine Tr.mask [true, true, true, true, true, true, false] (lv' := [some (.ref (ad 0)), some (.ref (ad 12)), some (.ref (ad 23)), some (.int (nI d)), some (.int (nI g)), some (.int (nI 0)), none]) rfl ?_
  refine Tr.pic (w' := (lgC E ad b S (pre (whS S) W 0) V X L)) (by rw [pre_0]) ?_
  refine loopD (P := fun j => Tr _ 0 0 3 [some (.ref (ad 0)), some (.ref (ad 12)), some (.ref (ad 23)), some (.int (nI d)), some (.int (nI g)), some (.int (nI j)), none] [] (lgC E ad b S (pre (whS S) W j) V X L)) (npV V) ?_ (fun j hj ih => ?_)
  · generalize pre (whS S) W (npV V) = W1 at *
    refine Tr.iload dX2_passRows_3 rfl (Eq.refl 5) ?_
    refine Tr.aload_n (i := 1) dX2_passRows_5 rfl rfl (Eq.refl 6) ?_
    refine Tr.getf dX2_passRows_6 fX2_72 rfl rfl (Eq.refl 9) ?_
    refine Tr.icmp_geN (tgt := 35) dX2_passRows_9 (by decide) (Eq.refl 12) (by omega) (by omega) (fun h9 => ?_) (fun h9 => ?_)
    · refine Tr.iload_n (i := 3) dX2_passRows_35 rfl rfl (Eq.refl 36) ?_
      refine Tr.istore dX2_passRows_36 rfl rfl (Eq.refl 38) ?_
      refine Tr.mask [true, true, true, false, true, true, false] (lv' := [some (.ref (ad 0)), some (.ref (ad 12)), some (.ref (ad 23)), none, some (.int (nI g)), some (.int (nI d)), none]) rfl ?_
      refine g_passL E ad b S W1 V X L d g _ _ hb hV ht hg (g - d) d W1 (by omega) (fun q hq => ?_)
      rw [← hq] at hle2 hle3 ⊢
      clear hq
      refine Tr.iconst (v := nI 0) dX2_passRows_87 (icN 0) (Eq.refl 88) ?_
      refine Tr.istore dX2_passRows_88 rfl rfl (Eq.refl 90) ?_
      skip
      refine Tr.mask [true, true, true, false, false, true, true] (lv' := [some (.ref (ad 0)), some (.ref (ad 12)), some (.ref (ad 23)), none, none, some (.int (nI q.1)), some (.int (nI 0))]) rfl ?_
      refine loopD (P := fun j => Tr _ 0 0 90 [some (.ref (ad 0)), some (.ref (ad 12)), some (.ref (ad 23)), none, none, some (.int (nI q.1)), some (.int (nI j))] [] (lgC E ad b S (wkF V (psS S) q.2 j) V X L)) (npV V) ?_ (fun j hj ih => ?_)
      · have hWl : Wle V (wkF V (psS S) q.2 (npV V)) := fun p _ => hle3 _ p
        generalize wkF V (psS S) q.2 (npV V) = W3 at *
        refine Tr.iload dX2_passRows_90 rfl (Eq.refl 92) ?_
        refine Tr.aload_n (i := 1) dX2_passRows_92 rfl rfl (Eq.refl 93) ?_
        refine Tr.getf dX2_passRows_93 fX2_72 rfl rfl (Eq.refl 96) ?_
        refine Tr.icmp_geN (tgt := 129) dX2_passRows_96 (by decide) (Eq.refl 99) (by omega) (by omega) (fun h96 => ?_) (fun h96 => ?_)
        · refine Tr.aload_n (i := 0) dX2_passRows_129 rfl rfl (Eq.refl 130) ?_
          refine Tr.getf dX2_passRows_130 fX2_24 rfl rfl (Eq.refl 133) ?_
          refine Tr.aload_n (i := 1) dX2_passRows_133 rfl rfl (Eq.refl 134) ?_
          refine Tr.aload_n (i := 2) dX2_passRows_134 rfl rfl (Eq.refl 135) ?_
          refine Tr.aload_n (i := 0) dX2_passRows_135 rfl rfl (Eq.refl 136) ?_
          refine Tr.getf dX2_passRows_136 fX2_28 rfl rfl (Eq.refl 139) ?_
          refine Tr.callV (L := [4, 5, 6, 7, 8, 9, 10, 12, 13, 14, 15, 16, 17, 18, 19, 20, 21, 22, 23, 11]) (c_goOn E _ V X S L W3 hV hS hWl) dX2_passRows_139 (kX2_91 (Nat.le_of_ble_eq_true rfl)) iX3_goOn rfl rfl rfl rfl rfl rfl rfl rfl rfl rfl (Eq.refl 142) ?_
          refine Tr.pic (w' := (lgC E ad b (gon V L W3 S) W3 V X L)) (putB_eq (Lc := [0, 1, 2, 3]) 24 rfl rfl rfl rfl ⟨⟨_, rfl, rfl⟩, ⟨_, rfl, rfl⟩, ⟨_, rfl, rfl⟩, ⟨_, rfl, rfl⟩, trivial⟩ (by decide) rfl) ?_
          refine Tr.iload dX2_passRows_142 rfl (Eq.refl 144) ?_
          refine Tr.iret dX2_passRows_144 rfl (by first | rfl | exact bI_nar _) ?_ ?_
          · rfl
          · rfl
        · exact absurd h96 (by omega)
      · have hu : wkF V (psS S) q.2 (j + 1) = if wkB V j (psS S) then upN (wkF V (psS S) q.2 j) j 5 else wkF V (psS S) q.2 j := rfl
        rw [hu] at ih
        clear hu
        generalize wkF V (psS S) q.2 j = W2 at *
        refine Tr.iload dX2_passRows_90 rfl (Eq.refl 92) ?_
        refine Tr.aload_n (i := 1) dX2_passRows_92 rfl rfl (Eq.refl 93) ?_
        refine Tr.getf dX2_passRows_93 fX2_72 rfl rfl (Eq.refl 96) ?_
        refine Tr.icmp_geN (tgt := 129) dX2_passRows_96 (by decide) (Eq.refl 99) (by omega) (by omega) (fun h96 => ?_) (fun h96 => ?_)
        · exact absurd h96 (by omega)
        · refine Tr.aload_n (i := 1) dX2_passRows_99 rfl rfl (Eq.refl 100) ?_
          refine Tr.iload dX2_passRows_100 rfl (Eq.refl 102) ?_
          refine Tr.aload_n (i := 0) dX2_passRows_102 rfl rfl (Eq.refl 103) ?_
          refine Tr.getf dX2_passRows_103 fX2_24 rfl rfl (Eq.refl 106) ?_
          refine Tr.getf dX2_passRows_106 fX2_84 rfl rfl (Eq.refl 109) ?_
          refine Tr.callVr (L := [12, 13, 14, 15, 16, 17, 18, 19, 20, 21, 22]) (c_mustWork E _ V X j (psS S) hV hj (by omega)) dX2_passRows_109 (kX2_87 (Nat.le_of_ble_eq_true rfl)) iX7_mustWork rfl rfl rfl rfl rfl rfl rfl rfl rfl (Eq.refl 112) ?_
          refine Tr.if_eqB (tgt := 123) dX2_passRows_112 (by decide) (Eq.refl 115) (fun h112 => ?_) (fun h112 => ?_)
          · rw [if_neg (by rw [h112]; decide)] at ih
            refine Tr.iincN dX2_passRows_123 rfl rfl rfl (Eq.refl 126) ?_
            refine Tr.goto (pc' := 90) dX2_passRows_126 (by decide) ?_
            exact Tr.eqs rfl rfl rfl ih
          · rw [if_pos h112] at ih
            refine Tr.aload_n (i := 0) dX2_passRows_115 rfl rfl (Eq.refl 116) ?_
            refine Tr.getf dX2_passRows_116 fX2_28 rfl rfl (Eq.refl 119) ?_
            refine Tr.iload dX2_passRows_119 rfl (Eq.refl 121) ?_
            refine Tr.iconst (v := (-1)) dX2_passRows_121 (by decide +kernel) (Eq.refl 122) ?_
            refine Tr.iastN dX2_passRows_122 rfl (by omega) (by decide) (Eq.refl 123) ?_
            refine Tr.pic (w' := (lgC E ad b S (upN W2 j 5) V X L)) (by unfold lgC; rw [cl_upN W2]; rfl) ?_
            refine Tr.iincN dX2_passRows_123 rfl rfl rfl (Eq.refl 126) ?_
            refine Tr.goto (pc' := 90) dX2_passRows_126 (by decide) ?_
            exact Tr.eqs rfl rfl rfl ih
    · exact absurd h9 (by omega)
  · have hcp := cl_pre (whS S) W j
    refine Tr.iload dX2_passRows_3 rfl (Eq.refl 5) ?_
    refine Tr.aload_n (i := 1) dX2_passRows_5 rfl rfl (Eq.refl 6) ?_
    refine Tr.getf dX2_passRows_6 fX2_72 rfl rfl (Eq.refl 9) ?_
    refine Tr.icmp_geN (tgt := 35) dX2_passRows_9 (by decide) (Eq.refl 12) (by omega) (by omega) (fun h9 => ?_) (fun h9 => ?_)
    · exact absurd h9 (by omega)
    · refine Tr.aload_n (i := 0) dX2_passRows_12 rfl rfl (Eq.refl 13) ?_
      refine Tr.getf dX2_passRows_13 fX2_28 rfl rfl (Eq.refl 16) ?_
      refine Tr.iload dX2_passRows_16 rfl (Eq.refl 18) ?_
      refine Tr.aload_n (i := 0) dX2_passRows_18 rfl rfl (Eq.refl 19) ?_
      refine Tr.getf dX2_passRows_19 fX2_24 rfl rfl (Eq.refl 22) ?_
      refine Tr.getf dX2_passRows_22 fX2_69 rfl rfl (Eq.refl 25) ?_
      refine Tr.iload dX2_passRows_25 rfl (Eq.refl 27) ?_
      refine Tr.ialdN dX2_passRows_27 rfl (by omega) (by decide) (Eq.refl 28) ?_
      refine Tr.iastN dX2_passRows_28 rfl (by omega) (by decide) (Eq.refl 29) ?_
      refine Tr.pic (w' := (lgC E ad b S (pre (whS S) W (j + 1)) V X L)) (by unfold lgC; rw [← hcp]; rfl) ?_
      refine Tr.iincN dX2_passRows_29 rfl rfl rfl (Eq.refl 32) ?_
      refine Tr.goto (pc' := 3) dX2_passRows_32 (by decide) ?_
      exact Tr.eqs rfl rfl rfl ih
