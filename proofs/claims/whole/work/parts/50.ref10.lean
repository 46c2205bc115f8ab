/-! THE REFERENCE: how many rests, which; rings; the best law; settling -/
def rsN (V : Vil) (t : Nat) (G : Nat → Int32) : Nat → Nat
  | 0 => 0
  | x + 1 => if irB V t G x then rsN V t G x + 1 else rsN V t G x
theorem rsN_le (V : Vil) (t : Nat) (G : Nat → Int32) : ∀ n, rsN V t G n ≤ n := by
  intro n
  induction n with
  | zero => exact Nat.le_refl 0
  | succ n ih => unfold rsN; split <;> omega
set_option maxHeartbeats 4000000 in
set_option maxRecDepth 100000 in
theorem m_rests (E : EnvT) (ad r : Nat → Nat) (i : Nat → Int32) (V : Vil) (w : Int32) (l : Bool) (lg ll : Int32) (W : Nat → Nat) (B f : Nat → Int32) (bp : Nat → Nat) (G : Nat → Int32) (S : Scn) (P : Nat → Nat) (L : Nat → Int32) (a : Nat) (hV : Vok V) (hS : Sle V S) (hP : Pok V P) (ht : psS S < 2 ^ 29) : Md E mX10_rests ad [.ref (ad 0)] (mtJ E ad r i V (w, l, lg, ll, W, B, f, bp, G) (rwF S P L a)) (some (.int (nI (rsN V (psS S) (ggF V (-1, -1, w, -1, false, l) S P L a (W, B, f, G) (rwN V)).2.2.2 (rwN V))))) (mtJ E ad r i V (w, l, lg, ll, (ggF V (-1, -1, w, -1, false, l) S P L a (W, B, f, G) (rwN V)).1, (ggF V (-1, -1, w, -1, false, l) S P L a (W, B, f, G) (rwN V)).2.1, (ggF V (-1, -1, w, -1, false, l) S P L a (W, B, f, G) (rwN V)).2.2.1, bp, (ggF V (-1, -1, w, -1, false, l) S P L a (W, B, f, G) (rwN V)).2.2.2) (rwF S P L a)) := by
  have hr := rwN_le hV
  show Md E _ ad _ (mtC E ad r i V (-1, -1, w, -1, false, l) lg ll W B f (rwF S P L a) bp G) _ (mtC E ad r i V (-1, -1, w, -1, false, l) lg ll (ggF V (-1, -1, w, -1, false, l) S P L a (W, B, f, G) (rwN V)).1 (ggF V (-1, -1, w, -1, false, l) S P L a (W, B, f, G) (rwN V)).2.1 (ggF V (-1, -1, w, -1, false, l) S P L a (W, B, f, G) (rwN V)).2.2.1 (rwF S P L a) bp (ggF V (-1, -1, w, -1, false, l) S P L a (W, B, f, G) (rwN V)).2.2.2)
  have hF := m_findGains E ad r i V (-1, -1, w, -1, false, l) lg ll W B f f bp G S P L a hV hS ht
  generalize (ggF V (-1, -1, w, -1, false, l) S P L a (W, B, f, G) (rwN V)) = q at *
  obtain ⟨W1, B1, f1, G1⟩ := q
  have hF : Md E _ ad _ _ _ (mtC E ad r i V (-1, -1, w, -1, false, l) lg ll W1 B1 f1 (rwF S P L a) bp G1) := hF
  show Md E _ ad _ (mtC E ad r i V (-1, -1, w, -1, false, l) lg ll W B f (rwF S P L a) bp G) (some (.int (nI (rsN V (psS S) G1 (rwN V))))) (mtC E ad r i V (-1, -1, w, -1, false, l) lg ll W1 B1 f1 (rwF S P L a) bp G1)
  refine Md.of 2 (by decide) rfl rfl ?_
  refine Tr.aload_n (i := 0) dX10_rests_0 rfl rfl (Eq.refl 1) ?_
  refine Tr.callVs (hF) dX10_rests_1 (kX10_431 (Nat.le_of_ble_eq_true rfl)) iX10_findGains rfl rfl rfl rfl rfl (mt_le) rfl rfl (Eq.refl 4) ?_
  refine Tr.iconst (v := nI 0) dX10_rests_4 (icN 0) (Eq.refl 5) ?_
  refine Tr.istore_n (i := 1) dX10_rests_5 rfl rfl rfl (Eq.refl 6) ?_
  refine Tr.iconst (v := nI 0) dX10_rests_6 (icN 0) (Eq.refl 7) ?_
  refine Tr.istore_n (i := 2) dX10_rests_7 rfl rfl rfl (Eq.refl 8) ?_
  refine Tr.mask [true, true, true] (lv' := [some (.ref (ad 0)), some (.int (nI (rsN V (psS S) G1 0))), some (.int (nI 0))]) rfl ?_
  refine loopD (P := fun j => Tr _ 0 0 8 [some (.ref (ad 0)), some (.int (nI (rsN V (psS S) G1 j))), some (.int (nI j))] [] (mtC E ad r i V (-1, -1, w, -1, false, l) lg ll W1 B1 f1 (rwF S P L a) bp G1)) (rwN V) ?_ (fun j hj ih => ?_)
  · refine Tr.iload_n (i := 2) dX10_rests_8 rfl rfl (Eq.refl 9) ?_
    refine Tr.aload_n (i := 0) dX10_rests_9 rfl rfl (Eq.refl 10) ?_
    refine Tr.callVr (L := [0]) (m_rows E _ (rP ad r) (iP V (-1, -1, w, -1, false, l) lg ll i) V hV) dX10_rests_10 (kX10_425 (Nat.le_of_ble_eq_true rfl)) iX10_rows rfl rfl rfl rfl rfl rfl rfl rfl rfl (Eq.refl 13) ?_
    refine Tr.icmp_geN (tgt := 38) dX10_rests_13 (by decide) (Eq.refl 16) (by omega) (by omega) (fun h13 => ?_) (fun h13 => ?_)
    · refine Tr.iload_n (i := 1) dX10_rests_38 rfl rfl (Eq.refl 39) ?_
      refine Tr.iret dX10_rests_39 rfl (by first | rfl | exact bI_nar _) ?_ ?_
      · rfl
      · rfl
    · exact absurd h13 (by omega)
  · refine Tr.iload_n (i := 2) dX10_rests_8 rfl rfl (Eq.refl 9) ?_
    refine Tr.aload_n (i := 0) dX10_rests_9 rfl rfl (Eq.refl 10) ?_
    refine Tr.callVr (L := [0]) (m_rows E _ (rP ad r) (iP V (-1, -1, w, -1, false, l) lg ll i) V hV) dX10_rests_10 (kX10_425 (Nat.le_of_ble_eq_true rfl)) iX10_rows rfl rfl rfl rfl rfl rfl rfl rfl rfl (Eq.refl 13) ?_
    refine Tr.icmp_geN (tgt := 38) dX10_rests_13 (by decide) (Eq.refl 16) (by omega) (by omega) (fun h13 => ?_) (fun h13 => ?_)
    · exact absurd h13 (by omega)
    · refine Tr.iload_n (i := 1) dX10_rests_16 rfl rfl (Eq.refl 17) ?_
      refine Tr.aload_n (i := 0) dX10_rests_17 rfl rfl (Eq.refl 18) ?_
      refine Tr.iload_n (i := 2) dX10_rests_18 rfl rfl (Eq.refl 19) ?_
      refine Tr.callVs (m_isRest E ad r i V (-1, -1, w, -1, false, l) lg ll W1 B1 f1 f bp G1 S P L a j hV ht hj) dX10_rests_19 (kX10_434 (Nat.le_of_ble_eq_true rfl)) iX10_isRest rfl rfl rfl rfl rfl (mt_le) rfl rfl (Eq.refl 22) ?_
      refine Tr.if_eqB (tgt := 29) dX10_rests_22 (by decide) (Eq.refl 25) (fun h22 => ?_) (fun h22 => ?_)
      · refine Tr.iconst (v := nI 0) dX10_rests_29 (icN 0) (Eq.refl 30) ?_
        refine Tr.iaddN dX10_rests_30 (Eq.refl 31) ?_
        refine Tr.istore_n (i := 1) dX10_rests_31 rfl rfl rfl (Eq.refl 32) ?_
        refine Tr.iincN dX10_rests_32 rfl rfl rfl (Eq.refl 35) ?_
        refine Tr.goto (pc' := 8) dX10_rests_35 (by decide) ?_
        refine Tr.eqs ?_ rfl rfl ih
        simp [rsN, *]
      · refine Tr.iconst (v := nI 1) dX10_rests_25 (icN 1) (Eq.refl 26) ?_
        refine Tr.goto (pc' := 30) dX10_rests_26 (by decide) ?_
        refine Tr.iaddN dX10_rests_30 (Eq.refl 31) ?_
        refine Tr.istore_n (i := 1) dX10_rests_31 rfl rfl rfl (Eq.refl 32) ?_
        refine Tr.iincN dX10_rests_32 rfl rfl rfl (Eq.refl 35) ?_
        refine Tr.goto (pc' := 8) dX10_rests_35 (by decide) ?_
        refine Tr.eqs ?_ rfl rfl ih
        simp [rsN, *]
/-- the row of the k-th rest among the rows: found before, the row -/
def rrF (V : Vil) (t : Nat) (G : Nat → Int32) (k : Int32) : Nat → Nat → Nat → Option Nat
  | 0, _, _ => none
  | n + 1, x, c => if irB V t G x then (if nI c = k then some x else rrF V t G k n (x + 1) (c + 1)) else rrF V t G k n (x + 1) c
def rrA (V : Vil) (p : Nat) : Option Nat → Int32
  | none => -2
  | some x => cl (wsR V x p)
set_option maxHeartbeats 4000000 in
set_option maxRecDepth 100000 in
theorem m_rest_loop (E : EnvT) (ad r : Nat → Nat) (i : Nat → Int32) (V : Vil) (w : Int32) (l : Bool) (lg ll : Int32) (W1 : Nat → Nat) (B1 f1 f : Nat → Int32) (bp : Nat → Nat) (G1 : Nat → Int32) (S : Scn) (P : Nat → Nat) (L : Nat → Int32) (a : Nat) (k : Int32) (p : Nat) (hV : Vok V) (hS : Sle V S) (hP : Pok V P) (ht : psS S < 2 ^ 29) (hp : p < npV V) : ∀ (n j c : Nat), j + n = rwN V → c ≤ j → Tr (E, mX10_rest, ad, some (.int (rrA V p (rrF V (psS S) G1 k n j c))), (mtC E ad r i V (-1, -1, w, -1, false, l) lg ll W1 B1 f1 (rwF S P L a) bp G1)) 0 0 24 [some (.ref (ad 0)), some (.int k), some (.int (nI p)), some (.int (nI c)), some (.int (nI j))] [] (mtC E ad r i V (-1, -1, w, -1, false, l) lg ll W1 B1 f1 (rwF S P L a) bp G1) := by
  have v1 := hV.1
  have hr := rwN_le hV
  intro n
  induction n with
  | zero =>
    intro j c hj hcj
    refine Tr.iload dX10_rest_24 rfl (Eq.refl 26) ?_
    refine Tr.aload_n (i := 0) dX10_rest_26 rfl rfl (Eq.refl 27) ?_
    refine Tr.callVr (L := [0]) (m_rows E _ (rP ad r) (iP V (-1, -1, w, -1, false, l) lg ll i) V hV) dX10_rest_27 (kX10_425 (Nat.le_of_ble_eq_true rfl)) iX10_rows rfl rfl rfl rfl rfl rfl rfl rfl rfl (Eq.refl 30) ?_
    refine Tr.icmp_geN (tgt := 70) dX10_rest_30 (by decide) (Eq.refl 33) (by omega) (by omega) (fun h30 => ?_) (fun h30 => ?_)
    · refine Tr.bipush (v := (-2)) dX10_rest_70 (by decide +kernel) (Eq.refl 72) ?_
      refine Tr.iret dX10_rest_72 rfl (by first | rfl | exact bI_nar _) ?_ ?_
      · rfl
      · rfl
    · exact absurd h30 (by omega)
  | succ n ih =>
    intro j c hjn hcj
    have hj : j < rwN V := by omega
    have hu : rrF V (psS S) G1 k (n + 1) j c = if irB V (psS S) G1 j then (if nI c = k then some j else rrF V (psS S) G1 k n (j + 1) (c + 1)) else rrF V (psS S) G1 k n (j + 1) c := rfl
    rw [hu]
    clear hu
    have hwo := wsR_ok V j p
    refine Tr.iload dX10_rest_24 rfl (Eq.refl 26) ?_
    refine Tr.aload_n (i := 0) dX10_rest_26 rfl rfl (Eq.refl 27) ?_
    refine Tr.callVr (L := [0]) (m_rows E _ (rP ad r) (iP V (-1, -1, w, -1, false, l) lg ll i) V hV) dX10_rest_27 (kX10_425 (Nat.le_of_ble_eq_true rfl)) iX10_rows rfl rfl rfl rfl rfl rfl rfl rfl rfl (Eq.refl 30) ?_
    refine Tr.icmp_geN (tgt := 70) dX10_rest_30 (by decide) (Eq.refl 33) (by omega) (by omega) (fun h30 => ?_) (fun h30 => ?_)
    · exact absurd h30 (by omega)
    · refine Tr.aload_n (i := 0) dX10_rest_33 rfl rfl (Eq.refl 34) ?_
      refine Tr.iload dX10_rest_34 rfl (Eq.refl 36) ?_
      refine Tr.callVs (m_isRest E ad r i V (-1, -1, w, -1, false, l) lg ll W1 B1 f1 f bp G1 S P L a j hV ht hj) dX10_rest_36 (kX10_434 (Nat.le_of_ble_eq_true rfl)) iX10_isRest rfl rfl rfl rfl rfl (mt_le) rfl rfl (Eq.refl 39) ?_
      refine Tr.if_neB (tgt := 45) dX10_rest_39 (by decide) (Eq.refl 42) (fun h39 => ?_) (fun h39 => ?_)
      · rw [if_pos h39]
        refine Tr.iload_n (i := 3) dX10_rest_45 rfl rfl (Eq.refl 46) ?_
        refine Tr.iload_n (i := 1) dX10_rest_46 rfl rfl (Eq.refl 47) ?_
        refine Tr.icmp_ne (tgt := 61) dX10_rest_47 (by decide) (Eq.refl 50) (fun h47 => ?_) (fun h47 => ?_)
        · rw [if_neg h47]
          refine Tr.iincN dX10_rest_61 rfl rfl rfl (Eq.refl 64) ?_
          refine Tr.iincN dX10_rest_64 rfl rfl rfl (Eq.refl 67) ?_
          refine Tr.goto (pc' := 24) dX10_rest_67 (by decide) ?_
          exact Tr.eqs rfl rfl rfl (ih (j + 1) _ (by omega) (by omega))
        · rw [if_pos h47]
          refine Tr.aload_n (i := 0) dX10_rest_50 rfl rfl (Eq.refl 51) ?_
          refine Tr.iload dX10_rest_51 rfl (Eq.refl 53) ?_
          refine Tr.iload_n (i := 2) dX10_rest_53 rfl rfl (Eq.refl 54) ?_
          refine Tr.callVr (L := [0]) (m_wished E _ (rP ad r) (iP V (-1, -1, w, -1, false, l) lg ll i) V j p hV hp (by omega)) dX10_rest_54 (kX10_422 (Nat.le_of_ble_eq_true rfl)) iX10_wished rfl rfl rfl rfl rfl rfl rfl rfl rfl (Eq.refl 57) ?_
          refine Tr.callSr (L := []) (m_told0 E _ (wsR V j p) (by omega)) dX10_rest_57 (kX10_379 (Nat.le_of_ble_eq_true rfl)) sX10_told0 rfl rfl rfl rfl rfl rfl rfl (Eq.refl 60) ?_
          refine Tr.iret dX10_rest_60 rfl (by first | rfl | exact bI_nar _) ?_ ?_
          · rfl
          · rfl
      · rw [if_neg (by rw [h39]; decide)]
        refine Tr.goto (pc' := 64) dX10_rest_42 (by decide) ?_
        refine Tr.iincN dX10_rest_64 rfl rfl rfl (Eq.refl 67) ?_
        refine Tr.goto (pc' := 24) dX10_rest_67 (by decide) ?_
        exact Tr.eqs rfl rfl rfl (ih (j + 1) _ (by omega) (by omega))
set_option maxHeartbeats 4000000 in
set_option maxRecDepth 100000 in
theorem m_rest (E : EnvT) (ad r : Nat → Nat) (i : Nat → Int32) (V : Vil) (w : Int32) (l : Bool) (lg ll : Int32) (W : Nat → Nat) (B f : Nat → Int32) (bp : Nat → Nat) (G : Nat → Int32) (S : Scn) (P : Nat → Nat) (L : Nat → Int32) (a : Nat) (x y : Int32) (hV : Vok V) (hS : Sle V S) (hP : Pok V P) (ht : psS S < 2 ^ 29) : Md E mX10_rest ad [.ref (ad 0), .int x, .int y] (mtJ E ad r i V (w, l, lg, ll, W, B, f, bp, G) (rwF S P L a)) (some (.int (if (!decide (x < 0) && ixB y (npV V)) then rrA V (nN y) (rrF V (psS S) (ggF V (-1, -1, w, -1, false, l) S P L a (W, B, f, G) (rwN V)).2.2.2 x (rwN V) 0 0) else -2))) (mtJ E ad r i V (if (!decide (x < 0) && ixB y (npV V)) then (w, l, lg, ll, (ggF V (-1, -1, w, -1, false, l) S P L a (W, B, f, G) (rwN V)).1, (ggF V (-1, -1, w, -1, false, l) S P L a (W, B, f, G) (rwN V)).2.1, (ggF V (-1, -1, w, -1, false, l) S P L a (W, B, f, G) (rwN V)).2.2.1, bp, (ggF V (-1, -1, w, -1, false, l) S P L a (W, B, f, G) (rwN V)).2.2.2) else (w, l, lg, ll, W, B, f, bp, G)) (rwF S P L a)) := by
  have v2 := hV.2.1
  by_cases hc : (!decide (x < 0) && ixB y (npV V)) = true
  · rw [if_pos hc, if_pos hc]
    have hc1 : ¬ x < 0 := by simpa using (Bool.and_eq_true_iff.mp hc).1
    have hc2 : ixB y (npV V) = true := (Bool.and_eq_true_iff.mp hc).2
    obtain ⟨p, hp, rfl⟩ := ixB_n v2 hc2
    rw [nN_n (show p < 2 ^ 31 by omega)]
    show Md E _ ad _ (mtC E ad r i V (-1, -1, w, -1, false, l) lg ll W B f (rwF S P L a) bp G) _ (mtC E ad r i V (-1, -1, w, -1, false, l) lg ll (ggF V (-1, -1, w, -1, false, l) S P L a (W, B, f, G) (rwN V)).1 (ggF V (-1, -1, w, -1, false, l) S P L a (W, B, f, G) (rwN V)).2.1 (ggF V (-1, -1, w, -1, false, l) S P L a (W, B, f, G) (rwN V)).2.2.1 (rwF S P L a) bp (ggF V (-1, -1, w, -1, false, l) S P L a (W, B, f, G) (rwN V)).2.2.2)
    have hF := m_findGains E ad r i V (-1, -1, w, -1, false, l) lg ll W B f f bp G S P L a hV hS ht
    generalize (ggF V (-1, -1, w, -1, false, l) S P L a (W, B, f, G) (rwN V)) = q at *
    obtain ⟨W1, B1, f1, G1⟩ := q
    have hF : Md E _ ad _ _ _ (mtC E ad r i V (-1, -1, w, -1, false, l) lg ll W1 B1 f1 (rwF S P L a) bp G1) := hF
    show Md E _ ad _ (mtC E ad r i V (-1, -1, w, -1, false, l) lg ll W B f (rwF S P L a) bp G) (some (.int (rrA V p (rrF V (psS S) G1 x (rwN V) 0 0)))) (mtC E ad r i V (-1, -1, w, -1, false, l) lg ll W1 B1 f1 (rwF S P L a) bp G1)
    have hL := m_rest_loop E ad r i V w l lg ll W1 B1 f1 f bp G1 S P L a x p hV hS hP ht hp (rwN V) 0 0 (by omega) (Nat.le_refl 0)
    refine Md.of 2 (by decide) rfl rfl ?_
    refine Tr.iload_n (i := 1) dX10_rest_0 rfl rfl (Eq.refl 1) ?_
    refine Tr.if_lt (tgt := 12) dX10_rest_1 (by decide) (Eq.refl 4) (fun h1 => ?_) (fun h1 => ?_)
    · exact absurd h1 hc1
    · refine Tr.aload_n (i := 0) dX10_rest_4 rfl rfl (Eq.refl 5) ?_
      refine Tr.iload_n (i := 2) dX10_rest_5 rfl rfl (Eq.refl 6) ?_
      refine Tr.callVr (L := [0]) (m_isPerson E _ (rP ad r) (iP V (-1, -1, w, -1, false, l) lg ll i) (nhV V) (npV V) (nI p) v2) dX10_rest_6 (kX10_309 (Nat.le_of_ble_eq_true rfl)) iX10_isPerson rfl rfl rfl rfl rfl rfl rfl rfl rfl (Eq.refl 9) ?_
      refine Tr.if_neB (tgt := 15) dX10_rest_9 (by decide) (Eq.refl 12) (fun h9 => ?_) (fun h9 => ?_)
      · refine Tr.aload_n (i := 0) dX10_rest_15 rfl rfl (Eq.refl 16) ?_
        refine Tr.callVs (hF) dX10_rest_16 (kX10_431 (Nat.le_of_ble_eq_true rfl)) iX10_findGains rfl rfl rfl rfl rfl (mt_le) rfl rfl (Eq.refl 19) ?_
        refine Tr.iconst (v := nI 0) dX10_rest_19 (icN 0) (Eq.refl 20) ?_
        refine Tr.istore_n (i := 3) dX10_rest_20 rfl rfl rfl (Eq.refl 21) ?_
        refine Tr.iconst (v := nI 0) dX10_rest_21 (icN 0) (Eq.refl 22) ?_
        refine Tr.istore dX10_rest_22 rfl rfl (Eq.refl 24) ?_
        exact Tr.eqs rfl rfl rfl hL
      · exact absurd (hc2.symm.trans h9) (by decide)
  · rw [if_neg hc, if_neg hc]
    show Md E _ ad _ (mtC E ad r i V (-1, -1, w, -1, false, l) lg ll W B f (rwF S P L a) bp G) _ (mtC E ad r i V (-1, -1, w, -1, false, l) lg ll W B f (rwF S P L a) bp G)
    refine Md.of 2 (by decide) rfl rfl ?_
    refine Tr.iload_n (i := 1) dX10_rest_0 rfl rfl (Eq.refl 1) ?_
    refine Tr.if_lt (tgt := 12) dX10_rest_1 (by decide) (Eq.refl 4) (fun h1 => ?_) (fun h1 => ?_)
    · refine Tr.bipush (v := (-2)) dX10_rest_12 (by decide +kernel) (Eq.refl 14) ?_
      refine Tr.iret dX10_rest_14 rfl (by first | rfl | exact bI_nar _) ?_ ?_
      · rfl
      · rfl
    · refine Tr.aload_n (i := 0) dX10_rest_4 rfl rfl (Eq.refl 5) ?_
      refine Tr.iload_n (i := 2) dX10_rest_5 rfl rfl (Eq.refl 6) ?_
      refine Tr.callVr (L := [0]) (m_isPerson E _ (rP ad r) (iP V (-1, -1, w, -1, false, l) lg ll i) (nhV V) (npV V) y v2) dX10_rest_6 (kX10_309 (Nat.le_of_ble_eq_true rfl)) iX10_isPerson rfl rfl rfl rfl rfl rfl rfl rfl rfl (Eq.refl 9) ?_
      refine Tr.if_neB (tgt := 15) dX10_rest_9 (by decide) (Eq.refl 12) (fun h9 => ?_) (fun h9 => ?_)
      · exact absurd (by rw [h9]; simp [h1]) hc
      · refine Tr.bipush (v := (-2)) dX10_rest_12 (by decide +kernel) (Eq.refl 14) ?_
        refine Tr.iret dX10_rest_14 rfl (by first | rfl | exact bI_nar _) ?_ ?_
        · rfl
        · rfl
/-- a ring's digits, the first so many -/
def rdD (V : Vil) (x : Nat) : Nat → Int32
  | 0 => nI 0
  | p + 1 => nI 10 * rdD V x p + (if hoV V p < 5 then nI (wsR V x p) else nI 9)
def rgSt (V : Vil) (P : Nat → Nat) (t : Nat) (G : Nat → Int32) (q : Nat × Int32) (x : Nat) : Nat × Int32 := if igB V P t x && hrB V G x then (q.1 + 1, if q.2 = -1 ∨ rdD V x (npV V) < q.2 then rdD V x (npV V) else q.2) else q
def rgFo (V : Vil) (P : Nat → Nat) (t : Nat) (G : Nat → Int32) : Nat → Nat × Int32
  | 0 => (0, -1)
  | x + 1 => rgSt V P t G (rgFo V P t G x) x
theorem rgFo_le (V : Vil) (P : Nat → Nat) (t : Nat) (G : Nat → Int32) : ∀ n, (rgFo V P t G n).1 ≤ n := by
  intro n
  induction n with
  | zero => exact Nat.le_refl 0
  | succ n ih =>
    show (rgSt V P t G (rgFo V P t G n) n).1 ≤ n + 1
    unfold rgSt
    split
    · exact Nat.succ_le_succ ih
    · exact Nat.le_succ_of_le ih
set_option maxHeartbeats 4000000 in
set_option maxRecDepth 100000 in
theorem m_rings (E : EnvT) (ad r : Nat → Nat) (i : Nat → Int32) (V : Vil) (w : Int32) (l : Bool) (lg ll : Int32) (W : Nat → Nat) (B f : Nat → Int32) (bp : Nat → Nat) (G : Nat → Int32) (S : Scn) (P : Nat → Nat) (L : Nat → Int32) (a : Nat) (x : Int32) (hV : Vok V) (hS : Sle V S) (hP : Pok V P) (ht : psS S < 2 ^ 29) : Md E mX10_rings ad [.ref (ad 0), .int x] (mtJ E ad r i V (w, l, lg, ll, W, B, f, bp, G) (rwF S P L a)) (some (.int (if rgB x (nI 0) (nI 1) then (if x = nI 0 then nI (rgFo V P (psS S) (ggF V (-1, -1, w, -1, false, l) S P L a (W, B, f, G) (rwN V)).2.2.2 (rwN V)).1 else (rgFo V P (psS S) (ggF V (-1, -1, w, -1, false, l) S P L a (W, B, f, G) (rwN V)).2.2.2 (rwN V)).2) else -2))) (mtJ E ad r i V (if rgB x (nI 0) (nI 1) then (w, l, lg, ll, (ggF V (-1, -1, w, -1, false, l) S P L a (W, B, f, G) (rwN V)).1, (ggF V (-1, -1, w, -1, false, l) S P L a (W, B, f, G) (rwN V)).2.1, (ggF V (-1, -1, w, -1, false, l) S P L a (W, B, f, G) (rwN V)).2.2.1, bp, (ggF V (-1, -1, w, -1, false, l) S P L a (W, B, f, G) (rwN V)).2.2.2) else (w, l, lg, ll, W, B, f, bp, G)) (rwF S P L a)) := by
  have v1 := hV.1
  have v2 := hV.2.1
  have hr := rwN_le hV
  by_cases hc : rgB x (nI 0) (nI 1) = true
  · rw [if_pos hc, if_pos hc]
    obtain ⟨k, -, hk, rfl⟩ := rgB_n (by decide) (by decide) hc
    show Md E _ ad _ (mtC E ad r i V (-1, -1, w, -1, false, l) lg ll W B f (rwF S P L a) bp G) _ (mtC E ad r i V (-1, -1, w, -1, false, l) lg ll (ggF V (-1, -1, w, -1, false, l) S P L a (W, B, f, G) (rwN V)).1 (ggF V (-1, -1, w, -1, false, l) S P L a (W, B, f, G) (rwN V)).2.1 (ggF V (-1, -1, w, -1, false, l) S P L a (W, B, f, G) (rwN V)).2.2.1 (rwF S P L a) bp (ggF V (-1, -1, w, -1, false, l) S P L a (W, B, f, G) (rwN V)).2.2.2)
    have hF := m_findGains E ad r i V (-1, -1, w, -1, false, l) lg ll W B f f bp G S P L a hV hS ht
    generalize (ggF V (-1, -1, w, -1, false, l) S P L a (W, B, f, G) (rwN V)) = q at *
    obtain ⟨W1, B1, f1, G1⟩ := q
    have hF : Md E _ ad _ _ _ (mtC E ad r i V (-1, -1, w, -1, false, l) lg ll W1 B1 f1 (rwF S P L a) bp G1) := hF
    show Md E _ ad _ (mtC E ad r i V (-1, -1, w, -1, false, l) lg ll W B f (rwF S P L a) bp G) (some (.int (if nI k = nI 0 then nI (rgFo V P (psS S) G1 (rwN V)).1 else (rgFo V P (psS S) G1 (rwN V)).2))) (mtC E ad r i V (-1, -1, w, -1, false, l) lg ll W1 B1 f1 (rwF S P L a) bp G1)
    generalize hA : (if nI k = nI 0 then nI (rgFo V P (psS S) G1 (rwN V)).1 else (rgFo V P (psS S) G1 (rwN V)).2) = A9
    refine Md.of 5 (by decide) rfl rfl ?_
    refine Tr.iload_n (i := 1) dX10_rings_0 rfl rfl (Eq.refl 1) ?_
    refine Tr.i2l dX10_rings_1 rfl (Eq.refl 2) ?_
    refine Tr.lconst (v := 0) dX10_rings_2 (by decide +kernel) (Eq.refl 3) ?_
    refine Tr.lconst (v := 1) dX10_rings_3 (by decide +kernel) (Eq.refl 4) ?_
    refine Tr.callSr (L := []) (m_in E _ (nI k).toInt64 0 1) dX10_rings_4 (kX10_52 (Nat.le_of_ble_eq_true rfl)) sX10_in rfl rfl rfl rfl rfl rfl rfl (Eq.refl 7) ?_
    rw [in32' (nI k) (a := nI 0) (b := nI 1) (by decide) (by decide)]
    refine Tr.if_neB (tgt := 13) dX10_rings_7 (by decide) (Eq.refl 10) (fun h7 => ?_) (fun h7 => ?_)
    · refine Tr.aload_n (i := 0) dX10_rings_13 rfl rfl (Eq.refl 14) ?_
      refine Tr.callVs (hF) dX10_rings_14 (kX10_431 (Nat.le_of_ble_eq_true rfl)) iX10_findGains rfl rfl rfl rfl rfl (mt_le) rfl rfl (Eq.refl 17) ?_
      refine Tr.iconst (v := nI 0) dX10_rings_17 (icN 0) (Eq.refl 18) ?_
      refine Tr.istore_n (i := 2) dX10_rings_18 rfl rfl rfl (Eq.refl 19) ?_
      refine Tr.iconst (v := (-1)) dX10_rings_19 (by decide +kernel) (Eq.refl 20) ?_
      refine Tr.istore_n (i := 3) dX10_rings_20 rfl rfl rfl (Eq.refl 21) ?_
      refine Tr.iconst (v := nI 0) dX10_rings_21 (icN 0) (Eq.refl 22) ?_
      refine Tr.istore dX10_rings_22 rfl rfl (Eq.refl 24) ?_
      skip
      refine Tr.mask [true, true, true, true, true, true, true] (lv' := [some (.ref (ad 0)), some (.int (nI k)), some (.int (nI (rgFo V P (psS S) G1 0).1)), some (.int (rgFo V P (psS S) G1 0).2), some (.int (nI 0)), none, none]) rfl ?_
      refine loopD (P := fun j => Tr _ 0 0 24 [some (.ref (ad 0)), some (.int (nI k)), some (.int (nI (rgFo V P (psS S) G1 j).1)), some (.int (rgFo V P (psS S) G1 j).2), some (.int (nI j)), none, none] [] (mtC E ad r i V (-1, -1, w, -1, false, l) lg ll W1 B1 f1 (rwF S P L a) bp G1)) (rwN V) ?_ (fun j hj ih => ?_)
      · refine Tr.iload dX10_rings_24 rfl (Eq.refl 26) ?_
        refine Tr.aload_n (i := 0) dX10_rings_26 rfl rfl (Eq.refl 27) ?_
        refine Tr.callVr (L := [0]) (m_rows E _ (rP ad r) (iP V (-1, -1, w, -1, false, l) lg ll i) V hV) dX10_rings_27 (kX10_425 (Nat.le_of_ble_eq_true rfl)) iX10_rows rfl rfl rfl rfl rfl rfl rfl rfl rfl (Eq.refl 30) ?_
        refine Tr.icmp_geN (tgt := 130) dX10_rings_30 (by decide) (Eq.refl 33) (by omega) (by omega) (fun h30 => ?_) (fun h30 => ?_)
        · refine Tr.iload_n (i := 1) dX10_rings_130 rfl rfl (Eq.refl 131) ?_
          refine Tr.if_ne (tgt := 138) dX10_rings_131 (by decide) (Eq.refl 134) (fun h131 => ?_) (fun h131 => ?_)
          · rw [if_neg (show ¬ nI k = nI 0 from h131)] at hA
            rw [← hA]
            refine Tr.iload_n (i := 3) dX10_rings_138 rfl rfl (Eq.refl 139) ?_
            refine Tr.iret dX10_rings_139 rfl (by first | rfl | exact bI_nar _) ?_ ?_
            · rfl
            · rfl
          · rw [if_pos (show nI k = nI 0 from h131)] at hA
            rw [← hA]
            refine Tr.iload_n (i := 2) dX10_rings_134 rfl rfl (Eq.refl 135) ?_
            refine Tr.goto (pc' := 139) dX10_rings_135 (by decide) ?_
            refine Tr.iret dX10_rings_139 rfl (by first | rfl | exact bI_nar _) ?_ ?_
            · rfl
            · rfl
        · exact absurd h30 (by omega)
      · have hle := rgFo_le V P (psS S) G1 j
        have hu : (rgFo V P (psS S) G1 (j + 1)) = rgSt V P (psS S) G1 (rgFo V P (psS S) G1 j) j := rfl
        rw [hu] at ih
        clear hu
        generalize (rgFo V P (psS S) G1 j) = q at *
        obtain ⟨n0, le⟩ := q
        have hle : n0 ≤ j := hle
        have hu : rgSt V P (psS S) G1 (n0, le) j = if igB V P (psS S) j && hrB V G1 j then (n0 + 1, if le = -1 ∨ rdD V j (npV V) < le then rdD V j (npV V) else le) else (n0, le) := rfl
        rw [hu] at ih
        clear hu
        refine Tr.iload dX10_rings_24 rfl (Eq.refl 26) ?_
        refine Tr.aload_n (i := 0) dX10_rings_26 rfl rfl (Eq.refl 27) ?_
        refine Tr.callVr (L := [0]) (m_rows E _ (rP ad r) (iP V (-1, -1, w, -1, false, l) lg ll i) V hV) dX10_rings_27 (kX10_425 (Nat.le_of_ble_eq_true rfl)) iX10_rows rfl rfl rfl rfl rfl rfl rfl rfl rfl (Eq.refl 30) ?_
        refine Tr.icmp_geN (tgt := 130) dX10_rings_30 (by decide) (Eq.refl 33) (by omega) (by omega) (fun h30 => ?_) (fun h30 => ?_)
        · exact absurd h30 (by omega)
        · refine Tr.aload_n (i := 0) dX10_rings_33 rfl rfl (Eq.refl 34) ?_
          refine Tr.iload dX10_rings_34 rfl (Eq.refl 36) ?_
          refine Tr.callVs (m_isRing E ad r i V (-1, -1, w, -1, false, l) lg ll W1 B1 f1 f bp G1 S P L a j hV hP ht hj) dX10_rings_36 (kX10_439 (Nat.le_of_ble_eq_true rfl)) iX10_isRing rfl rfl rfl rfl rfl (mt_le) rfl rfl (Eq.refl 39) ?_
          refine Tr.if_eqB (tgt := 124) dX10_rings_39 (by decide) (Eq.refl 42) (fun h39 => ?_) (fun h39 => ?_)
          · rw [if_neg (by rw [h39]; simp)] at ih
            refine Tr.iincN dX10_rings_124 rfl rfl rfl (Eq.refl 127) ?_
            refine Tr.goto (pc' := 24) dX10_rings_127 (by decide) ?_
            exact Tr.mask [true, true, true, true, true, false, false] rfl ih
          · refine Tr.aload_n (i := 0) dX10_rings_42 rfl rfl (Eq.refl 43) ?_
            refine Tr.iload dX10_rings_43 rfl (Eq.refl 45) ?_
            refine Tr.callVs (m_holds E ad r i V (-1, -1, w, -1, false, l) lg ll W1 B1 f1 f bp G1 S P L a j hV hj) dX10_rings_45 (kX10_442 (Nat.le_of_ble_eq_true rfl)) iX10_holds rfl rfl rfl rfl rfl (mt_le) rfl rfl (Eq.refl 48) ?_
            refine Tr.if_neB (tgt := 54) dX10_rings_48 (by decide) (Eq.refl 51) (fun h48 => ?_) (fun h48 => ?_)
            · rw [if_pos (by rw [h39, h48]; decide)] at ih
              refine Tr.iincN dX10_rings_54 rfl rfl rfl (Eq.refl 57) ?_
              refine Tr.iconst (v := nI 0) dX10_rings_57 (icN 0) (Eq.refl 58) ?_
              refine Tr.istore dX10_rings_58 rfl rfl (Eq.refl 60) ?_
              refine Tr.iconst (v := nI 0) dX10_rings_60 (icN 0) (Eq.refl 61) ?_
              refine Tr.istore dX10_rings_61 rfl rfl (Eq.refl 63) ?_
              skip
              refine Tr.mask [true, true, true, true, true, true, true] (lv' := [some (.ref (ad 0)), some (.int (nI k)), some (.int (nI (n0 + 1))), some (.int le), some (.int (nI j)), some (.int (rdD V j 0)), some (.int (nI 0))]) rfl ?_
              refine loopD (P := fun p => Tr _ 0 0 63 [some (.ref (ad 0)), some (.int (nI k)), some (.int (nI (n0 + 1))), some (.int le), some (.int (nI j)), some (.int (rdD V j p)), some (.int (nI p))] [] (mtC E ad r i V (-1, -1, w, -1, false, l) lg ll W1 B1 f1 (rwF S P L a) bp G1)) (npV V) ?_ (fun p hp ih2 => ?_)
              · generalize rdD V j (npV V) = dd at *
                refine Tr.iload dX10_rings_63 rfl (Eq.refl 65) ?_
                refine Tr.aload_n (i := 0) dX10_rings_65 rfl rfl (Eq.refl 66) ?_
                refine Tr.getf dX10_rings_66 fX10_285 rfl rfl (Eq.refl 69) ?_
                refine Tr.icmp_geN (tgt := 110) dX10_rings_69 (by decide) (Eq.refl 72) (by omega) (by omega) (fun h69 => ?_) (fun h69 => ?_)
                · refine Tr.iload_n (i := 3) dX10_rings_110 rfl rfl (Eq.refl 111) ?_
                  refine Tr.iconst (v := (-1)) dX10_rings_111 (by decide +kernel) (Eq.refl 112) ?_
                  refine Tr.icmp_eq (tgt := 121) dX10_rings_112 (by decide) (Eq.refl 115) (fun h112 => ?_) (fun h112 => ?_)
                  · rw [if_pos (Or.inl h112)] at ih
                    refine Tr.iload dX10_rings_121 rfl (Eq.refl 123) ?_
                    refine Tr.istore_n (i := 3) dX10_rings_123 rfl rfl rfl (Eq.refl 124) ?_
                    refine Tr.iincN dX10_rings_124 rfl rfl rfl (Eq.refl 127) ?_
                    refine Tr.goto (pc' := 24) dX10_rings_127 (by decide) ?_
                    exact Tr.mask [true, true, true, true, true, false, false] rfl ih
                  · refine Tr.iload dX10_rings_115 rfl (Eq.refl 117) ?_
                    refine Tr.iload_n (i := 3) dX10_rings_117 rfl rfl (Eq.refl 118) ?_
                    refine Tr.icmp_geL (tgt := 124) dX10_rings_118 (by decide) (Eq.refl 121) (fun h118 => ?_) (fun h118 => ?_)
                    · rw [if_neg (fun z9 => z9.elim h112 h118)] at ih
                      refine Tr.iincN dX10_rings_124 rfl rfl rfl (Eq.refl 127) ?_
                      refine Tr.goto (pc' := 24) dX10_rings_127 (by decide) ?_
                      exact Tr.mask [true, true, true, true, true, false, false] rfl ih
                    · rw [if_pos (Or.inr h118)] at ih
                      refine Tr.iload dX10_rings_121 rfl (Eq.refl 123) ?_
                      refine Tr.istore_n (i := 3) dX10_rings_123 rfl rfl rfl (Eq.refl 124) ?_
                      refine Tr.iincN dX10_rings_124 rfl rfl rfl (Eq.refl 127) ?_
                      refine Tr.goto (pc' := 24) dX10_rings_127 (by decide) ?_
                      exact Tr.mask [true, true, true, true, true, false, false] rfl ih
                · exact absurd h69 (by omega)
              · have hu : rdD V j (p + 1) = nI 10 * rdD V j p + (if hoV V p < 5 then nI (wsR V j p) else nI 9) := rfl
                rw [hu] at ih2
                clear hu
                refine Tr.iload dX10_rings_63 rfl (Eq.refl 65) ?_
                refine Tr.aload_n (i := 0) dX10_rings_65 rfl rfl (Eq.refl 66) ?_
                refine Tr.getf dX10_rings_66 fX10_285 rfl rfl (Eq.refl 69) ?_
                refine Tr.icmp_geN (tgt := 110) dX10_rings_69 (by decide) (Eq.refl 72) (by omega) (by omega) (fun h69 => ?_) (fun h69 => ?_)
                · exact absurd h69 (by omega)
                · refine Tr.bipush (v := nI 10) dX10_rings_72 (by decide +kernel) (Eq.refl 74) ?_
                  refine Tr.iload dX10_rings_74 rfl (Eq.refl 76) ?_
                  refine Tr.imul dX10_rings_76 (Eq.refl 77) ?_
                  refine Tr.aload_n (i := 0) dX10_rings_77 rfl rfl (Eq.refl 78) ?_
                  refine Tr.getf dX10_rings_78 fX10_212 rfl rfl (Eq.refl 81) ?_
                  refine Tr.iload dX10_rings_81 rfl (Eq.refl 83) ?_
                  refine Tr.ialdN dX10_rings_83 rfl (by omega) (by decide) (Eq.refl 84) ?_
                  refine Tr.iconst (v := (-1)) dX10_rings_84 (by decide +kernel) (Eq.refl 85) ?_
                  refine Tr.icmp_ne (tgt := 93) dX10_rings_85 (by decide) (Eq.refl 88) (fun h85 => ?_) (fun h85 => ?_)
                  · rw [cl_none] at h85
                    rw [if_pos (by omega)] at ih2
                    refine Tr.aload_n (i := 0) dX10_rings_93 rfl rfl (Eq.refl 94) ?_
                    refine Tr.iload dX10_rings_94 rfl (Eq.refl 96) ?_
                    refine Tr.iload dX10_rings_96 rfl (Eq.refl 98) ?_
                    refine Tr.callVr (L := [0]) (m_wished E _ (rP ad r) (iP V (-1, -1, w, -1, false, l) lg ll i) V j p hV hp (by omega)) dX10_rings_98 (kX10_422 (Nat.le_of_ble_eq_true rfl)) iX10_wished rfl rfl rfl rfl rfl rfl rfl rfl rfl (Eq.refl 101) ?_
                    refine Tr.iadd dX10_rings_101 (Eq.refl 102) ?_
                    refine Tr.istore dX10_rings_102 rfl rfl (Eq.refl 104) ?_
                    refine Tr.iincN dX10_rings_104 rfl rfl rfl (Eq.refl 107) ?_
                    refine Tr.goto (pc' := 63) dX10_rings_107 (by decide) ?_
                    exact Tr.eqs rfl rfl rfl ih2
                  · rw [cl_none] at h85
                    rw [if_neg h85] at ih2
                    refine Tr.bipush (v := nI 9) dX10_rings_88 (by decide +kernel) (Eq.refl 90) ?_
                    refine Tr.goto (pc' := 101) dX10_rings_90 (by decide) ?_
                    refine Tr.iadd dX10_rings_101 (Eq.refl 102) ?_
                    refine Tr.istore dX10_rings_102 rfl rfl (Eq.refl 104) ?_
                    refine Tr.iincN dX10_rings_104 rfl rfl rfl (Eq.refl 107) ?_
                    refine Tr.goto (pc' := 63) dX10_rings_107 (by decide) ?_
                    exact Tr.eqs rfl rfl rfl ih2
            · rw [if_neg (by rw [h39, h48]; decide)] at ih
              refine Tr.goto (pc' := 124) dX10_rings_51 (by decide) ?_
              refine Tr.iincN dX10_rings_124 rfl rfl rfl (Eq.refl 127) ?_
              refine Tr.goto (pc' := 24) dX10_rings_127 (by decide) ?_
              exact Tr.mask [true, true, true, true, true, false, false] rfl ih
    · exact absurd (hc.symm.trans h7) (by decide)
  · rw [if_neg hc, if_neg hc]
    show Md E _ ad _ (mtC E ad r i V (-1, -1, w, -1, false, l) lg ll W B f (rwF S P L a) bp G) _ (mtC E ad r i V (-1, -1, w, -1, false, l) lg ll W B f (rwF S P L a) bp G)
    refine Md.of 5 (by decide) rfl rfl ?_
    refine Tr.iload_n (i := 1) dX10_rings_0 rfl rfl (Eq.refl 1) ?_
    refine Tr.i2l dX10_rings_1 rfl (Eq.refl 2) ?_
    refine Tr.lconst (v := 0) dX10_rings_2 (by decide +kernel) (Eq.refl 3) ?_
    refine Tr.lconst (v := 1) dX10_rings_3 (by decide +kernel) (Eq.refl 4) ?_
    refine Tr.callSr (L := []) (m_in E _ x.toInt64 0 1) dX10_rings_4 (kX10_52 (Nat.le_of_ble_eq_true rfl)) sX10_in rfl rfl rfl rfl rfl rfl rfl (Eq.refl 7) ?_
    rw [in32' x (a := nI 0) (b := nI 1) (by decide) (by decide)]
    refine Tr.if_neB (tgt := 13) dX10_rings_7 (by decide) (Eq.refl 10) (fun h7 => ?_) (fun h7 => ?_)
    · exact absurd h7 hc
    · refine Tr.bipush (v := (-2)) dX10_rings_10 (by decide +kernel) (Eq.refl 12) ?_
      refine Tr.iret dX10_rings_12 rfl (by first | rfl | exact bI_nar _) ?_ ?_
      · rfl
      · rfl
