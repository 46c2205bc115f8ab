/-! LEDGER: the first row that can't be -/
def loC (E : EnvT) (ad r : Nat → Nat) (b : Bki) : List va_E := [.inr (2, [.ref (ad 1), .ref (ad 2), .ref (ad 3), .int (nI b.1), .ref (r 0), .ref (r 1)]), aI E 150 (fun k => nI (b.2.1 k)), aI E 150 (fun k => nI (b.2.2.1 k)), aI E 150 (fun k => cl (b.2.2.2 k))]
def lvC (E : EnvT) (ad r : Nat → Nat) (b : Bki) (V : Vil) (X : Vix) : List va_E := loC E ad r b ++ viC E ad 4 V X
def lgC (E : EnvT) (ad : Nat → Nat) (b : Bki) (S : Scn) (W : Nat → Nat) (V : Vil) (X : Vix) (L : Nat → Int32) : List va_E := [.inr (2, [.ref (ad 1), .ref (ad 2), .ref (ad 3), .int (nI b.1), .ref (ad 4), .ref (ad 11)]), aI E 150 (fun k => nI (b.2.1 k)), aI E 150 (fun k => nI (b.2.2.1 k)), aI E 150 (fun k => cl (b.2.2.2 k))] ++ (scC E ad 4 S ++ ([aI E 5 (fun k => cl (W k))] ++ (viC E ad 12 V X ++ [aI E 5 L])))
def ooS (b : Bki) (i k : Nat) (_ : Unit) : Bool × Unit := (!(decide (b.2.1 i < b.2.1 k) || (decide (b.2.1 k = b.2.1 i) && decide (b.2.2.1 k = b.2.2.1 i))), ())
def ooB (b : Bki) (i : Nat) : Bool := !(itB (ooS b i) () i).1
def inC (V : Vil) (b : Bki) (i : Nat) : Bool := decide (b.2.2.1 i < npV V) && ((decide (b.2.2.2 i = 5) || decide (b.2.2.2 i < nhV V)) && !ooB b i)
def gdF (V : Vil) (b : Bki) : Nat → Nat → Nat
  | 0, i => i
  | n + 1, i => if inC V b i then gdF V b n (i + 1) else i
theorem m1_lt {n : Nat} (h : n ≤ 5) : (-1 : Int32) < nI n := by
  rcases (show n = 0 ∨ n = 1 ∨ n = 2 ∨ n = 3 ∨ n = 4 ∨ n = 5 by omega) with e | e | e | e | e | e <;> rw [e] <;> decide
theorem g_ple {c n : Nat} (hn : n ≤ 5) (hc : c ≤ 5) (h : ¬ cl c < nI n) : ¬ c = 5 ∧ ¬ c < n := by
  by_cases h5 : c < 5
  · rw [cl_lt h5, nI_lt_iff (by omega) (by omega)] at h; omega
  · exact absurd (by rw [cl_ge h5]; exact m1_lt (by omega)) h
theorem g_plt {c n : Nat} (hn : n ≤ 5) (hc : c ≤ 5) (h : cl c < nI n) : c = 5 ∨ c < n := by
  by_cases h5 : c < 5
  · rw [cl_lt h5, nI_lt_iff (by omega) (by omega)] at h; omega
  · omega
set_option maxHeartbeats 4000000 in
set_option maxRecDepth 100000 in
theorem g_isOut (E : EnvT) (ad r : Nat → Nat) (b : Bki) (i : Nat) (hb : ∀ k, b.2.1 k < 1000 ∧ b.2.2.1 k < 5 ∧ b.2.2.2 k ≤ 5) (hi : i < 150) : Md E mX2_isOutOfOrder ad [.ref (ad 0), .int (nI i)] (loC E ad r b) (some (.int (bI (ooB b i)))) (loC E ad r b) := by
  unfold ooB
  generalize hR : (itB (ooS b i) () i) = R at *
  refine Md.of 1 (by decide) rfl rfl ?_
  refine Tr.iconst (v := nI 0) dX2_isOutOfOrder_0 (icN 0) (Eq.refl 1) ?_
  refine Tr.istore_n (i := 2) dX2_isOutOfOrder_1 rfl rfl rfl (Eq.refl 2) ?_
  skip
  refine Tr.mask [true, true, true] (lv' := [some (.ref (ad 0)), some (.int (nI i)), some (.int (nI 0))]) rfl ?_
  refine loopD (P := fun j => (itB (ooS b i) () j).1 = true → Tr _ 0 0 2 [some (.ref (ad 0)), some (.int (nI i)), some (.int (nI j))] [] (loC E ad r b)) i (fun hn9 => ?_) (fun j hj ih hn9 => ?_) rfl
  · rw [hR] at hn9
    rw [hn9]
    refine Tr.iload_n (i := 2) dX2_isOutOfOrder_2 rfl rfl (Eq.refl 3) ?_
    refine Tr.iload_n (i := 1) dX2_isOutOfOrder_3 rfl rfl (Eq.refl 4) ?_
    refine Tr.icmp_geN (tgt := 60) dX2_isOutOfOrder_4 (by decide) (Eq.refl 7) (by omega) (by omega) (fun h4 => ?_) (fun h4 => ?_)
    · refine Tr.iconst (v := nI 0) dX2_isOutOfOrder_60 (icN 0) (Eq.refl 61) ?_
      refine Tr.iret dX2_isOutOfOrder_61 rfl (by first | rfl | exact bI_nar _) ?_ ?_
      · rfl
      · rfl
    · exact absurd h4 (by omega)
  · have hs := itB_s hn9
    have hf9 : (itB (ooS b i) () (j + 1)).1 = false → R = (itB (ooS b i) () (j + 1)) := fun z9 => by rw [← hR]; exact itB_fr (Nat.succ_le_of_lt hj) z9
    rw [hs] at ih hf9
    clear hs
    have b1 := hb i
    have b2 := hb j
    have hu : ∀ s, ooS b i j s = (!(decide (b.2.1 i < b.2.1 j) || (decide (b.2.1 j = b.2.1 i) && decide (b.2.2.1 j = b.2.2.1 i))), ()) := fun _ => rfl
    rw [hu] at ih hf9
    clear hu
    refine Tr.iload_n (i := 2) dX2_isOutOfOrder_2 rfl rfl (Eq.refl 3) ?_
    refine Tr.iload_n (i := 1) dX2_isOutOfOrder_3 rfl rfl (Eq.refl 4) ?_
    refine Tr.icmp_geN (tgt := 60) dX2_isOutOfOrder_4 (by decide) (Eq.refl 7) (by omega) (by omega) (fun h4 => ?_) (fun h4 => ?_)
    · exact absurd h4 (by omega)
    · refine Tr.aload_n (i := 0) dX2_isOutOfOrder_7 rfl rfl (Eq.refl 8) ?_
      refine Tr.getf dX2_isOutOfOrder_8 fX2_11 rfl rfl (Eq.refl 11) ?_
      refine Tr.iload_n (i := 2) dX2_isOutOfOrder_11 rfl rfl (Eq.refl 12) ?_
      refine Tr.ialdN dX2_isOutOfOrder_12 rfl (by omega) (by decide) (Eq.refl 13) ?_
      refine Tr.aload_n (i := 0) dX2_isOutOfOrder_13 rfl rfl (Eq.refl 14) ?_
      refine Tr.getf dX2_isOutOfOrder_14 fX2_11 rfl rfl (Eq.refl 17) ?_
      refine Tr.iload_n (i := 1) dX2_isOutOfOrder_17 rfl rfl (Eq.refl 18) ?_
      refine Tr.ialdN dX2_isOutOfOrder_18 rfl (by omega) (by decide) (Eq.refl 19) ?_
      refine Tr.icmp_gtN (tgt := 52) dX2_isOutOfOrder_19 (by decide) (Eq.refl 22) (by omega) (by omega) (fun h19 => ?_) (fun h19 => ?_)
      · rw [decide_eq_true (show b.2.1 i < b.2.1 j by omega), Bool.true_or] at hf9
        have hRf : R.1 = false := by rw [hf9 rfl]; rfl
        rw [hRf]
        refine Tr.iconst (v := nI 1) dX2_isOutOfOrder_52 (icN 1) (Eq.refl 53) ?_
        refine Tr.iret dX2_isOutOfOrder_53 rfl (by first | rfl | exact bI_nar _) ?_ ?_
        · rfl
        · rfl
      · rw [decide_eq_false (show ¬ b.2.1 i < b.2.1 j by omega), Bool.false_or] at ih hf9
        refine Tr.aload_n (i := 0) dX2_isOutOfOrder_22 rfl rfl (Eq.refl 23) ?_
        refine Tr.getf dX2_isOutOfOrder_23 fX2_11 rfl rfl (Eq.refl 26) ?_
        refine Tr.iload_n (i := 2) dX2_isOutOfOrder_26 rfl rfl (Eq.refl 27) ?_
        refine Tr.ialdN dX2_isOutOfOrder_27 rfl (by omega) (by decide) (Eq.refl 28) ?_
        refine Tr.aload_n (i := 0) dX2_isOutOfOrder_28 rfl rfl (Eq.refl 29) ?_
        refine Tr.getf dX2_isOutOfOrder_29 fX2_11 rfl rfl (Eq.refl 32) ?_
        refine Tr.iload_n (i := 1) dX2_isOutOfOrder_32 rfl rfl (Eq.refl 33) ?_
        refine Tr.ialdN dX2_isOutOfOrder_33 rfl (by omega) (by decide) (Eq.refl 34) ?_
        refine Tr.icmp_neN (tgt := 54) dX2_isOutOfOrder_34 (by decide) (Eq.refl 37) (by omega) (by omega) (fun h34 => ?_) (fun h34 => ?_)
        · rw [decide_eq_false (show ¬ b.2.1 j = b.2.1 i by omega), Bool.false_and] at ih
          refine Tr.iincN dX2_isOutOfOrder_54 rfl rfl rfl (Eq.refl 57) ?_
          refine Tr.goto (pc' := 2) dX2_isOutOfOrder_57 (by decide) ?_
          exact Tr.eqs rfl rfl rfl (ih rfl)
        · rw [decide_eq_true (show b.2.1 j = b.2.1 i by omega), Bool.true_and] at ih hf9
          refine Tr.aload_n (i := 0) dX2_isOutOfOrder_37 rfl rfl (Eq.refl 38) ?_
          refine Tr.getf dX2_isOutOfOrder_38 fX2_15 rfl rfl (Eq.refl 41) ?_
          refine Tr.iload_n (i := 2) dX2_isOutOfOrder_41 rfl rfl (Eq.refl 42) ?_
          refine Tr.ialdN dX2_isOutOfOrder_42 rfl (by omega) (by decide) (Eq.refl 43) ?_
          refine Tr.aload_n (i := 0) dX2_isOutOfOrder_43 rfl rfl (Eq.refl 44) ?_
          refine Tr.getf dX2_isOutOfOrder_44 fX2_15 rfl rfl (Eq.refl 47) ?_
          refine Tr.iload_n (i := 1) dX2_isOutOfOrder_47 rfl rfl (Eq.refl 48) ?_
          refine Tr.ialdN dX2_isOutOfOrder_48 rfl (by omega) (by decide) (Eq.refl 49) ?_
          refine Tr.icmp_neN (tgt := 54) dX2_isOutOfOrder_49 (by decide) (Eq.refl 52) (by omega) (by omega) (fun h49 => ?_) (fun h49 => ?_)
          · rw [decide_eq_false (show ¬ b.2.2.1 j = b.2.2.1 i by omega)] at ih
            refine Tr.iincN dX2_isOutOfOrder_54 rfl rfl rfl (Eq.refl 57) ?_
            refine Tr.goto (pc' := 2) dX2_isOutOfOrder_57 (by decide) ?_
            exact Tr.eqs rfl rfl rfl (ih rfl)
          · rw [decide_eq_true (show b.2.2.1 j = b.2.2.1 i by omega)] at hf9
            have hRf : R.1 = false := by rw [hf9 rfl]; rfl
            rw [hRf]
            refine Tr.iconst (v := nI 1) dX2_isOutOfOrder_52 (icN 1) (Eq.refl 53) ?_
            refine Tr.iret dX2_isOutOfOrder_53 rfl (by first | rfl | exact bI_nar _) ?_ ?_
            · rfl
            · rfl
set_option maxHeartbeats 4000000 in
set_option maxRecDepth 100000 in
theorem g_rowsL (E : EnvT) (ad r : Nat → Nat) (b : Bki) (V : Vil) (X : Vix) (hb : ∀ k, b.2.1 k < 1000 ∧ b.2.2.1 k < 5 ∧ b.2.2.2 k ≤ 5) (hV : Vok V) (hs : b.1 ≤ 150) : ∀ (n i : Nat), i + n = b.1 → Tr (E, mX2_rowsInOrder, ad, some (.int (nI (gdF V b n i))), (lvC E ad r b V X)) 0 0 2 [some (.ref (ad 0)), some (.ref (ad 4)), some (.int (nI i))] [] (lvC E ad r b V X) := by
  have hh5 := hV.1
  have hp5 := hV.2.1
  intro n
  induction n with
  | zero =>
    intro i h
    have hu : gdF V b 0 i = i := rfl
    rw [hu, show i = b.1 by omega]
    refine Tr.iload_n (i := 2) dX2_rowsInOrder_2 rfl rfl (Eq.refl 3) ?_
    refine Tr.aload_n (i := 0) dX2_rowsInOrder_3 rfl rfl (Eq.refl 4) ?_
    refine Tr.getf dX2_rowsInOrder_4 fX2_31 rfl rfl (Eq.refl 7) ?_
    refine Tr.icmp_geN (tgt := 52) dX2_rowsInOrder_7 (by decide) (Eq.refl 10) (by omega) (by omega) (fun h7 => ?_) (fun h7 => ?_)
    · refine Tr.aload_n (i := 0) dX2_rowsInOrder_52 rfl rfl (Eq.refl 53) ?_
      refine Tr.getf dX2_rowsInOrder_53 fX2_31 rfl rfl (Eq.refl 56) ?_
      refine Tr.iret dX2_rowsInOrder_56 rfl (by first | rfl | exact bI_nar _) ?_ ?_
      · rfl
      · rfl
    · exact absurd h7 (by omega)
  | succ n ih =>
    intro i h
    have b1 := hb i
    have hu : gdF V b (n + 1) i = if inC V b i then gdF V b n (i + 1) else i := rfl
    rw [hu]
    clear hu
    unfold inC
    refine Tr.iload_n (i := 2) dX2_rowsInOrder_2 rfl rfl (Eq.refl 3) ?_
    refine Tr.aload_n (i := 0) dX2_rowsInOrder_3 rfl rfl (Eq.refl 4) ?_
    refine Tr.getf dX2_rowsInOrder_4 fX2_31 rfl rfl (Eq.refl 7) ?_
    refine Tr.icmp_geN (tgt := 52) dX2_rowsInOrder_7 (by decide) (Eq.refl 10) (by omega) (by omega) (fun h7 => ?_) (fun h7 => ?_)
    · exact absurd h7 (by omega)
    · refine Tr.aload_n (i := 0) dX2_rowsInOrder_10 rfl rfl (Eq.refl 11) ?_
      refine Tr.getf dX2_rowsInOrder_11 fX2_15 rfl rfl (Eq.refl 14) ?_
      refine Tr.iload_n (i := 2) dX2_rowsInOrder_14 rfl rfl (Eq.refl 15) ?_
      refine Tr.ialdN dX2_rowsInOrder_15 rfl (by omega) (by decide) (Eq.refl 16) ?_
      refine Tr.aload_n (i := 1) dX2_rowsInOrder_16 rfl rfl (Eq.refl 17) ?_
      refine Tr.getf dX2_rowsInOrder_17 fX2_72 rfl rfl (Eq.refl 20) ?_
      refine Tr.icmp_geN (tgt := 44) dX2_rowsInOrder_20 (by decide) (Eq.refl 23) (by omega) (by omega) (fun h20 => ?_) (fun h20 => ?_)
      · rw [decide_eq_false (show ¬ b.2.2.1 i < npV V by omega), Bool.false_and, if_neg nft]
        refine Tr.iload_n (i := 2) dX2_rowsInOrder_44 rfl rfl (Eq.refl 45) ?_
        refine Tr.iret dX2_rowsInOrder_45 rfl (by first | rfl | exact bI_nar _) ?_ ?_
        · rfl
        · rfl
      · rw [decide_eq_true (show b.2.2.1 i < npV V by omega), Bool.true_and]
        refine Tr.aload_n (i := 0) dX2_rowsInOrder_23 rfl rfl (Eq.refl 24) ?_
        refine Tr.getf dX2_rowsInOrder_24 fX2_18 rfl rfl (Eq.refl 27) ?_
        refine Tr.iload_n (i := 2) dX2_rowsInOrder_27 rfl rfl (Eq.refl 28) ?_
        refine Tr.ialdN dX2_rowsInOrder_28 rfl (by omega) (by decide) (Eq.refl 29) ?_
        refine Tr.aload_n (i := 1) dX2_rowsInOrder_29 rfl rfl (Eq.refl 30) ?_
        refine Tr.getf dX2_rowsInOrder_30 fX2_77 rfl rfl (Eq.refl 33) ?_
        refine Tr.icmp_geL (tgt := 44) dX2_rowsInOrder_33 (by decide) (Eq.refl 36) (fun h33 => ?_) (fun h33 => ?_)
        · have h33b : ¬ (b.2.2.2 i = 5) ∧ ¬ (b.2.2.2 i < nhV V) := g_ple hh5 b1.2.2 h33
          rw [decide_eq_false h33b.1, decide_eq_false h33b.2, Bool.false_or, Bool.false_and, if_neg nft]
          refine Tr.iload_n (i := 2) dX2_rowsInOrder_44 rfl rfl (Eq.refl 45) ?_
          refine Tr.iret dX2_rowsInOrder_45 rfl (by first | rfl | exact bI_nar _) ?_ ?_
          · rfl
          · rfl
        · have h33b : (b.2.2.2 i = 5) ∨ (b.2.2.2 i < nhV V) := g_plt hh5 b1.2.2 h33
          rw [show (decide (b.2.2.2 i = 5) || decide (b.2.2.2 i < nhV V)) = true by rcases h33b with z9 | z9; rw [decide_eq_true z9, Bool.true_or]; rw [decide_eq_true z9, Bool.or_true], Bool.true_and]
          refine Tr.aload_n (i := 0) dX2_rowsInOrder_36 rfl rfl (Eq.refl 37) ?_
          refine Tr.iload_n (i := 2) dX2_rowsInOrder_37 rfl rfl (Eq.refl 38) ?_
          refine Tr.callVr (L := [0, 1, 2, 3]) (g_isOut E _ r b i hb (by omega)) dX2_rowsInOrder_38 (kX2_80 (Nat.le_of_ble_eq_true rfl)) iX2_isOutOfOrder rfl rfl rfl rfl rfl rfl rfl rfl rfl (Eq.refl 41) ?_
          refine Tr.if_eqB (tgt := 46) dX2_rowsInOrder_41 (by decide) (Eq.refl 44) (fun h41 => ?_) (fun h41 => ?_)
          · rw [h41, if_pos (by decide)]
            refine Tr.iincN dX2_rowsInOrder_46 rfl rfl rfl (Eq.refl 49) ?_
            refine Tr.goto (pc' := 2) dX2_rowsInOrder_49 (by decide) ?_
            exact Tr.eqs rfl rfl rfl (ih (i + 1) (by omega))
          · rw [h41, if_neg (by decide)]
            refine Tr.iload_n (i := 2) dX2_rowsInOrder_44 rfl rfl (Eq.refl 45) ?_
            refine Tr.iret dX2_rowsInOrder_45 rfl (by first | rfl | exact bI_nar _) ?_ ?_
            · rfl
            · rfl
set_option maxHeartbeats 4000000 in
set_option maxRecDepth 100000 in
theorem g_rows (E : EnvT) (ad r : Nat → Nat) (b : Bki) (V : Vil) (X : Vix) (hb : ∀ k, b.2.1 k < 1000 ∧ b.2.2.1 k < 5 ∧ b.2.2.2 k ≤ 5) (hV : Vok V) (hs : b.1 ≤ 150) : Md E mX2_rowsInOrder ad [.ref (ad 0), .ref (ad 4)] (lvC E ad r b V X) (some (.int (nI (gdF V b b.1 0)))) (lvC E ad r b V X) := by
  refine Md.of 1 (by decide) rfl rfl ?_
  refine Tr.iconst (v := nI 0) dX2_rowsInOrder_0 (icN 0) (Eq.refl 1) ?_
  refine Tr.istore_n (i := 2) dX2_rowsInOrder_1 rfl rfl rfl (Eq.refl 2) ?_
  exact Tr.eqs rfl rfl rfl (g_rowsL E ad r b V X hb hV hs b.1 0 (by omega))
