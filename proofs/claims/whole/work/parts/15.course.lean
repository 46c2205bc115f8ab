/-! Ways.begin, Course -/
/-- plans after the first so many people began -/
def wbP (V : Vil) (P : Nat → Nat) : Nat → (Nat → Nat)
  | 0 => P
  | p + 1 => plE (wbP V P p) p (hoV V p) 4
theorem plE_at (P : Nat → Nat) (p c : Nat) : ∀ n k, plE P p c n k = if p * 4 ≤ k ∧ k < p * 4 + n then c else P k := by
  intro n
  induction n with
  | zero => intro k; rw [if_neg (by omega)]; rfl
  | succ n ih =>
    intro k
    show upN (plE P p c n) (p * 4 + n) c k = _
    by_cases h : k = p * 4 + n
    · rw [h, upN_self, if_pos (by omega)]
    · rw [upN_ne _ _ h, ih k]
      by_cases h2 : p * 4 ≤ k ∧ k < p * 4 + n
      · rw [if_pos h2, if_pos (by omega)]
      · rw [if_neg h2, if_neg (by omega)]
theorem wbP_at (V : Vil) (P : Nat → Nat) : ∀ n k, k < n * 4 → wbP V P n k = hoV V (k / 4) := by
  intro n
  induction n with
  | zero => intro k h; omega
  | succ n ih =>
    intro k h
    show plE (wbP V P n) n (hoV V n) 4 k = _
    rw [plE_at]
    by_cases h2 : n * 4 ≤ k ∧ k < n * 4 + 4
    · rw [if_pos h2, show k / 4 = n by omega]
    · rw [if_neg h2, ih k (by omega)]
def pBeg (V : Vil) : Nat → Nat := fun k => hoV V (k / 4)
set_option maxHeartbeats 4000000 in
set_option maxRecDepth 100000 in
theorem c_wyBegin (E : EnvT) (ad : Nat → Nat) (P : Nat → Nat) (L : Nat → Int32) (V : Vil) (X : Vix) : Md E mX8_begin ad [.ref (ad 0), .ref (ad 3)] (wyC E ad 0 P L ++ viC E ad 3 V X) none (wyC E ad 0 (pBeg V) (fun _ => nI 31) ++ viC E ad 3 V X) := by
  refine Md.of 1 (by decide) rfl rfl ?_
  refine Tr.iconst (v := nI 0) dX8_begin_0 (icN 0) (Eq.refl 1) ?_
  refine Tr.istore_n (i := 2) dX8_begin_1 rfl rfl rfl (Eq.refl 2) ?_
  refine Tr.mask [true, true, true] (lv' := [some (.ref (ad 0)), some (.ref (ad 3)), some (.int (nI 0))]) rfl ?_
  refine Tr.pic (w' := wyC E ad 0 (wbP V P 0) (pre (fun _ => nI 31) L 0) ++ viC E ad 3 V X) (by rw [pre_0]; rfl) ?_
  refine loopD (P := fun i => Tr _ 0 0 2 [some (.ref (ad 0)), some (.ref (ad 3)), some (.int (nI i))] [] (wyC E ad 0 (wbP V P i) (pre (fun _ => nI 31) L i) ++ viC E ad 3 V X)) 5 ?_ (fun i hi ih => ?_)
  · refine Tr.fn (q := 1) (fun k => cl (pBeg V k)) rfl (fun k hk => by show cl (wbP V P 5 k) = cl (hoV V (k / 4)); rw [wbP_at V P 5 k hk]) ?_
    refine Tr.fn (q := 2) (fun _ => nI 31) rfl (fun k hk => pre_n (g := fun _ => nI 31) hk) ?_
    refine Tr.iload_n (i := 2) dX8_begin_2 rfl rfl (Eq.refl 3) ?_
    refine Tr.iconst (v := nI 5) dX8_begin_3 (icN 5) (Eq.refl 4) ?_
    refine Tr.icmp_geN (tgt := 32) dX8_begin_4 (by decide) (Eq.refl 7) (by omega) (by omega) (fun h4 => ?_) (fun h4 => ?_)
    · refine Tr.ret dX8_begin_32 rfl rfl ?_
      · rfl
    · exact absurd h4 (by omega)
  · refine Tr.iload_n (i := 2) dX8_begin_2 rfl rfl (Eq.refl 3) ?_
    refine Tr.iconst (v := nI 5) dX8_begin_3 (icN 5) (Eq.refl 4) ?_
    refine Tr.icmp_geN (tgt := 32) dX8_begin_4 (by decide) (Eq.refl 7) (by omega) (by omega) (fun h4 => ?_) (fun h4 => ?_)
    · exact absurd h4 (by omega)
    · refine Tr.aload_n (i := 0) dX8_begin_7 rfl rfl (Eq.refl 8) ?_
      refine Tr.iload_n (i := 2) dX8_begin_8 rfl rfl (Eq.refl 9) ?_
      refine Tr.aload_n (i := 1) dX8_begin_9 rfl rfl (Eq.refl 10) ?_
      refine Tr.getf dX8_begin_10 fX8_18 rfl rfl (Eq.refl 13) ?_
      refine Tr.iload_n (i := 2) dX8_begin_13 rfl rfl (Eq.refl 14) ?_
      refine Tr.ialdN dX8_begin_14 rfl (by omega) (by decide) (Eq.refl 15) ?_
      refine Tr.callV (L := [0, 1, 2]) (c_planEach E _ (wbP V P i) (pre (fun _ => nI 31) L i) i (hoV V i) (by omega)) dX8_begin_15 (kX8_23 (Nat.le_of_ble_eq_true rfl)) iX8_planEach rfl rfl rfl rfl rfl rfl rfl rfl rfl rfl (Eq.refl 18) ?_
      refine Tr.pic (w' := wyC E ad 0 (wbP V P (i + 1)) (pre (fun _ => nI 31) L i) ++ viC E ad 3 V X) (putB_eq (Lc := [3, 4, 5, 6, 7, 8, 9, 10, 11, 12, 13]) 14 rfl rfl rfl rfl ⟨⟨_, rfl, rfl⟩, ⟨_, rfl, rfl⟩, ⟨_, rfl, rfl⟩, ⟨_, rfl, rfl⟩, ⟨_, rfl, rfl⟩, ⟨_, rfl, rfl⟩, ⟨_, rfl, rfl⟩, ⟨_, rfl, rfl⟩, ⟨_, rfl, rfl⟩, ⟨_, rfl, rfl⟩, ⟨_, rfl, rfl⟩, trivial⟩ (by decide) rfl) ?_
      refine Tr.aload_n (i := 0) dX8_begin_18 rfl rfl (Eq.refl 19) ?_
      refine Tr.getf dX8_begin_19 fX8_15 rfl rfl (Eq.refl 22) ?_
      refine Tr.iload_n (i := 2) dX8_begin_22 rfl rfl (Eq.refl 23) ?_
      refine Tr.bipush (v := nI 31) dX8_begin_23 (by decide +kernel) (Eq.refl 25) ?_
      refine Tr.iastN dX8_begin_25 rfl (by omega) (by decide) (Eq.refl 26) ?_
      refine Tr.iincN dX8_begin_26 rfl rfl rfl (Eq.refl 29) ?_
      refine Tr.goto (pc' := 2) dX8_begin_29 (by decide) ?_
      refine Tr.eqs rfl rfl ?_ ih
      rw [← pre_s (fun _ => nI 31)]
      rfl
/-- a course: scene, plans, lets, seed, kept or not, wishes -/
def coC (E : EnvT) (ad : Nat → Nat) (b : Nat) (S : Scn) (P : Nat → Nat) (L : Nat → Int32) (a : Nat) (kp : Bool) (W : Nat → Nat) : List va_E := (.inr (1, [.ref (ad (b + 1)), .ref (ad (b + 8)), .int (nI a), .int (bI kp), .ref (ad (b + 11))]) : va_E) :: (scC E ad (b + 1) S ++ (wyC E ad (b + 8) P L ++ [aI E 5 (fun k => cl (W k))]))
set_option maxHeartbeats 4000000 in
set_option maxRecDepth 100000 in
theorem c_coBegin (E : EnvT) (ad : Nat → Nat) (S : Scn) (P : Nat → Nat) (L : Nat → Int32) (a : Nat) (kp : Bool) (W : Nat → Nat) (V : Vil) (X : Vix) : Md E mX1_begin ad [.ref (ad 0), .ref (ad 12)] (coC E ad 0 S P L a kp W ++ viC E ad 12 V X) none (coC E ad 0 (sBeg V X) (pBeg V) (fun _ => nI 31) a kp W ++ viC E ad 12 V X) := by
  refine Md.of 0 (by decide) rfl rfl ?_
  refine Tr.aload_n (i := 0) dX1_begin_0 rfl rfl (Eq.refl 1) ?_
  refine Tr.getf dX1_begin_1 fX1_12 rfl rfl (Eq.refl 4) ?_
  refine Tr.aload_n (i := 1) dX1_begin_4 rfl rfl (Eq.refl 5) ?_
  refine Tr.callV (L := [1, 2, 3, 4, 5, 6, 7, 12, 13, 14, 15, 16, 17, 18, 19, 20, 21, 22]) (c_scBegin E _ S V X) dX1_begin_5 (kX1_33 (Nat.le_of_ble_eq_true rfl)) iX3_begin rfl rfl rfl rfl rfl rfl rfl rfl rfl rfl (Eq.refl 8) ?_
  refine Tr.pic (w' := coC E ad 0 (sBeg V X) P L a kp W ++ viC E ad 12 V X) (putB_eq (Lc := [0, 8, 9, 10, 11]) 23 rfl rfl rfl rfl ⟨⟨_, rfl, rfl⟩, ⟨_, rfl, rfl⟩, ⟨_, rfl, rfl⟩, ⟨_, rfl, rfl⟩, ⟨_, rfl, rfl⟩, trivial⟩ (by decide) rfl) ?_
  refine Tr.aload_n (i := 0) dX1_begin_8 rfl rfl (Eq.refl 9) ?_
  refine Tr.getf dX1_begin_9 fX1_21 rfl rfl (Eq.refl 12) ?_
  refine Tr.aload_n (i := 1) dX1_begin_12 rfl rfl (Eq.refl 13) ?_
  refine Tr.callV (L := [8, 9, 10, 12, 13, 14, 15, 16, 17, 18, 19, 20, 21, 22]) (c_wyBegin E _ P L V X) dX1_begin_13 (kX1_37 (Nat.le_of_ble_eq_true rfl)) iX8_begin rfl rfl rfl rfl rfl rfl rfl rfl rfl rfl (Eq.refl 16) ?_
  refine Tr.pic (w' := coC E ad 0 (sBeg V X) (pBeg V) (fun _ => nI 31) a kp W ++ viC E ad 12 V X) (putB_eq (Lc := [0, 1, 2, 3, 4, 5, 6, 7, 11]) 23 rfl rfl rfl rfl ⟨⟨_, rfl, rfl⟩, ⟨_, rfl, rfl⟩, ⟨_, rfl, rfl⟩, ⟨_, rfl, rfl⟩, ⟨_, rfl, rfl⟩, ⟨_, rfl, rfl⟩, ⟨_, rfl, rfl⟩, ⟨_, rfl, rfl⟩, ⟨_, rfl, rfl⟩, trivial⟩ (by decide) rfl) ?_
  refine Tr.ret dX1_begin_16 rfl rfl ?_
  · rfl
set_option maxHeartbeats 4000000 in
set_option maxRecDepth 100000 in
theorem c_coCopy (E : EnvT) (ad : Nat → Nat) (S S' : Scn) (P P' : Nat → Nat) (L L' : Nat → Int32) (a a' : Nat) (kp kp' : Bool) (W W' : Nat → Nat) : Md E mX1_copyFrom ad [.ref (ad 0), .ref (ad 12)] (coC E ad 0 S P L a kp W ++ coC E ad 12 S' P' L' a' kp' W') none (coC E ad 0 S' P' L' a' kp W ++ coC E ad 12 S' P' L' a' kp' W') := by
  refine Md.of 0 (by decide) rfl rfl ?_
  refine Tr.aload_n (i := 0) dX1_copyFrom_0 rfl rfl (Eq.refl 1) ?_
  refine Tr.getf dX1_copyFrom_1 fX1_12 rfl rfl (Eq.refl 4) ?_
  refine Tr.aload_n (i := 1) dX1_copyFrom_4 rfl rfl (Eq.refl 5) ?_
  refine Tr.getf dX1_copyFrom_5 fX1_12 rfl rfl (Eq.refl 8) ?_
  refine Tr.callV (L := [1, 2, 3, 4, 5, 6, 7, 13, 14, 15, 16, 17, 18, 19]) (c_scCopy E _ S S') dX1_copyFrom_8 (kX1_38 (Nat.le_of_ble_eq_true rfl)) iX3_copyFrom rfl rfl rfl rfl rfl rfl rfl rfl rfl rfl (Eq.refl 11) ?_
  refine Tr.pic (w' := coC E ad 0 S' P L a kp W ++ coC E ad 12 S' P' L' a' kp' W') (putB_eq (Lc := [0, 8, 9, 10, 11, 12, 20, 21, 22, 23]) 24 rfl rfl rfl rfl ⟨⟨_, rfl, rfl⟩, ⟨_, rfl, rfl⟩, ⟨_, rfl, rfl⟩, ⟨_, rfl, rfl⟩, ⟨_, rfl, rfl⟩, ⟨_, rfl, rfl⟩, ⟨_, rfl, rfl⟩, ⟨_, rfl, rfl⟩, ⟨_, rfl, rfl⟩, ⟨_, rfl, rfl⟩, trivial⟩ (by decide) rfl) ?_
  refine Tr.aload_n (i := 0) dX1_copyFrom_11 rfl rfl (Eq.refl 12) ?_
  refine Tr.getf dX1_copyFrom_12 fX1_21 rfl rfl (Eq.refl 15) ?_
  refine Tr.aload_n (i := 1) dX1_copyFrom_15 rfl rfl (Eq.refl 16) ?_
  refine Tr.getf dX1_copyFrom_16 fX1_21 rfl rfl (Eq.refl 19) ?_
  refine Tr.callV (L := [8, 9, 10, 20, 21, 22]) (c_wyCopy E _ P P' L L') dX1_copyFrom_19 (kX1_42 (Nat.le_of_ble_eq_true rfl)) iX8_copyFrom rfl rfl rfl rfl rfl rfl rfl rfl rfl rfl (Eq.refl 22) ?_
  refine Tr.pic (w' := coC E ad 0 S' P' L' a kp W ++ coC E ad 12 S' P' L' a' kp' W') (putB_eq (Lc := [0, 1, 2, 3, 4, 5, 6, 7, 11, 12, 13, 14, 15, 16, 17, 18, 19, 23]) 24 rfl rfl rfl rfl ⟨⟨_, rfl, rfl⟩, ⟨_, rfl, rfl⟩, ⟨_, rfl, rfl⟩, ⟨_, rfl, rfl⟩, ⟨_, rfl, rfl⟩, ⟨_, rfl, rfl⟩, ⟨_, rfl, rfl⟩, ⟨_, rfl, rfl⟩, ⟨_, rfl, rfl⟩, ⟨_, rfl, rfl⟩, ⟨_, rfl, rfl⟩, ⟨_, rfl, rfl⟩, ⟨_, rfl, rfl⟩, ⟨_, rfl, rfl⟩, ⟨_, rfl, rfl⟩, ⟨_, rfl, rfl⟩, ⟨_, rfl, rfl⟩, ⟨_, rfl, rfl⟩, trivial⟩ (by decide) rfl) ?_
  refine Tr.aload_n (i := 0) dX1_copyFrom_22 rfl rfl (Eq.refl 23) ?_
  refine Tr.aload_n (i := 1) dX1_copyFrom_23 rfl rfl (Eq.refl 24) ?_
  refine Tr.getf dX1_copyFrom_24 fX1_25 rfl rfl (Eq.refl 27) ?_
  refine Tr.putf dX1_copyFrom_27 pX1_25 rfl (rfl) (rfl) rfl (Eq.refl 30) ?_
  refine Tr.ret dX1_copyFrom_30 rfl rfl ?_
  · rfl
/-- the chance goes on -/
def nxS (a : Nat) : Nat := (1103515245 * a + 12345) % 2147483648
theorem nxS_lt (a : Nat) : nxS a < 2 ^ 31 := Nat.mod_lt _ (by decide)
theorem nx_e {a : Nat} (h : a < 2 ^ 31) : ((1103515245 * (nI a).toInt64 + 12345) &&& 2147483647 : Int64).toInt32 = nI (nxS a) := by
  rw [nI_l h, show (1103515245 : Int64) = lN 1103515245 from rfl, show (12345 : Int64) = lN 12345 from rfl, lN_mul, lN_add, lN_and31 _ (by omega), lN_i]
  rfl
set_option maxHeartbeats 4000000 in
set_option maxRecDepth 100000 in
theorem c_draw (E : EnvT) (ad : Nat → Nat) (S : Scn) (P : Nat → Nat) (L : Nat → Int32) (a : Nat) (kp : Bool) (W : Nat → Nat) (n : Nat) (ha : a < 2 ^ 31) (h0 : 0 < n) (hn : n < 2 ^ 31) : Md E mX1_draw ad [.ref (ad 0), .int (nI n)] (coC E ad 0 S P L a kp W) (some (.int (nI (nxS a / 65536 % n)))) (coC E ad 0 S P L (nxS a) kp W) := by
  have hx := nxS_lt a
  refine Md.of 0 (by decide) rfl rfl ?_
  refine Tr.aload_n (i := 0) dX1_draw_0 rfl rfl (Eq.refl 1) ?_
  refine Tr.ldc2 dX1_draw_1 qX1_81 (Eq.refl 4) ?_
  refine Tr.aload_n (i := 0) dX1_draw_4 rfl rfl (Eq.refl 5) ?_
  refine Tr.getf dX1_draw_5 fX1_25 rfl rfl (Eq.refl 8) ?_
  refine Tr.i2l dX1_draw_8 rfl (Eq.refl 9) ?_
  refine Tr.lmul dX1_draw_9 (Eq.refl 10) ?_
  refine Tr.ldc2 dX1_draw_10 qX1_83 (Eq.refl 13) ?_
  refine Tr.ladd dX1_draw_13 (Eq.refl 14) ?_
  refine Tr.ldc2 dX1_draw_14 qX1_85 (Eq.refl 17) ?_
  refine Tr.land dX1_draw_17 (Eq.refl 18) ?_
  refine Tr.l2i dX1_draw_18 rfl (Eq.refl 19) ?_
  rw [nx_e ha]
  refine Tr.putf dX1_draw_19 pX1_25 rfl (rfl) (rfl) rfl (Eq.refl 22) ?_
  refine Tr.pic (w' := coC E ad 0 S P L (nxS a) kp W) rfl ?_
  refine Tr.iload_n (i := 1) dX1_draw_22 rfl rfl (Eq.refl 23) ?_
  refine Tr.if_leL (tgt := 38) dX1_draw_23 (by decide) (Eq.refl 26) (fun h23 => ?_) (fun h23 => ?_)
  · exact absurd (nI_lt h0 hn) (by rw [nI_0]; exact h23)
  · refine Tr.aload_n (i := 0) dX1_draw_26 rfl rfl (Eq.refl 27) ?_
    refine Tr.getf dX1_draw_27 fX1_25 rfl rfl (Eq.refl 30) ?_
    refine Tr.bipush (v := nI 16) dX1_draw_30 (by decide +kernel) (Eq.refl 32) ?_
    refine Tr.ishr dX1_draw_32 (Eq.refl 33) ?_
    rw [pk_shrN hx _ 16 (by decide)]
    refine Tr.iload_n (i := 1) dX1_draw_33 rfl rfl (Eq.refl 34) ?_
    refine Tr.irem dX1_draw_34 (nI_ne0 h0 hn) (Eq.refl 35) ?_
    rw [pk_rem (by omega) h0 hn]
    refine Tr.goto (pc' := 39) dX1_draw_35 (by decide) ?_
    refine Tr.iret dX1_draw_39 rfl (by first | rfl | exact bI_nar _) ?_ ?_
    · rfl
    · rfl
/-- strolling: seed and wishes for the first so many -/
def skStep (V : Vil) (t : Nat) (q : Nat × (Nat → Nat)) (p : Nat) : Nat × (Nat → Nat) :=
  if nI (nxS q.1 / 65536 % 100) < ruV V 5 ∧ wkB V p t = false then (nxS (nxS q.1), upN q.2 p (if nxS (nxS q.1) / 65536 % (nhV V + 1) < nhV V then nxS (nxS q.1) / 65536 % (nhV V + 1) else 5)) else (nxS q.1, q.2)
def skF (V : Vil) (t : Nat) (a : Nat) (W : Nat → Nat) : Nat → Nat × (Nat → Nat)
  | 0 => (a, W)
  | p + 1 => skStep V t (skF V t a W p) p
theorem skF_lt {V : Vil} {t a : Nat} {W : Nat → Nat} (h : a < 2 ^ 31) : ∀ n, (skF V t a W n).1 < 2 ^ 31 := by
  intro n
  induction n with
  | zero => exact h
  | succ n ih =>
    show (skStep V t (skF V t a W n) n).1 < _
    unfold skStep
    split <;> exact nxS_lt _
theorem skF_le {V : Vil} {t a : Nat} {W : Nat → Nat} (hV : Vok V) (h : Wle V W) : ∀ n, Wle V (skF V t a W n).2 := by
  intro n
  have v1 := hV.1
  induction n with
  | zero => exact h
  | succ n ih =>
    intro p hp
    show (skStep V t (skF V t a W n) n).2 p ≤ 5
    unfold skStep
    split
    · show upN _ _ _ _ ≤ 5
      by_cases h2 : p = n
      · rw [h2, upN_self]; split <;> omega
      · rw [upN_ne _ _ h2]; exact ih p hp
    · exact ih p hp
set_option maxHeartbeats 4000000 in
set_option maxRecDepth 100000 in
theorem c_stroll (E : EnvT) (ad : Nat → Nat) (S : Scn) (P : Nat → Nat) (L : Nat → Int32) (a : Nat) (kp : Bool) (W : Nat → Nat) (V : Vil) (X : Vix) (hV : Vok V) (ha : a < 2 ^ 31) (ht : psS S < 2 ^ 31) : Md E mX1_stroll ad [.ref (ad 0), .ref (ad 12)] (coC E ad 0 S P L a kp W ++ viC E ad 12 V X) none (coC E ad 0 S P L (skF V (psS S) a W (npV V)).1 kp (skF V (psS S) a W (npV V)).2 ++ viC E ad 12 V X) := by
  have v1 := hV.1
  have v2 := hV.2.1
  refine Md.of 3 (by decide) rfl rfl ?_
  refine Tr.iconst (v := nI 0) dX1_stroll_0 (icN 0) (Eq.refl 1) ?_
  refine Tr.istore_n (i := 2) dX1_stroll_1 rfl rfl rfl (Eq.refl 2) ?_
  refine Tr.mask [true, true, true, true, true] (lv' := [some (.ref (ad 0)), some (.ref (ad 12)), some (.int (nI 0)), none, none]) rfl ?_
  refine loopD (P := fun i => Tr _ 0 0 2 [some (.ref (ad 0)), some (.ref (ad 12)), some (.int (nI i)), none, none] [] (coC E ad 0 S P L (skF V (psS S) a W i).1 kp (skF V (psS S) a W i).2 ++ viC E ad 12 V X)) (npV V) ?_ (fun i hi ih => ?_)
  · refine Tr.iload_n (i := 2) dX1_stroll_2 rfl rfl (Eq.refl 3) ?_
    refine Tr.aload_n (i := 1) dX1_stroll_3 rfl rfl (Eq.refl 4) ?_
    refine Tr.getf dX1_stroll_4 fX1_67 rfl rfl (Eq.refl 7) ?_
    refine Tr.icmp_geN (tgt := 89) dX1_stroll_7 (by decide) (Eq.refl 10) (by omega) (by omega) (fun h7 => ?_) (fun h7 => ?_)
    · refine Tr.ret dX1_stroll_89 rfl rfl ?_
      · rfl
    · exact absurd h7 (by omega)
  · have hs := skF_lt (V := V) (t := psS S) (W := W) ha i
    have hs2 := nxS_lt (skF V (psS S) a W i).1
    have hm : nxS (nxS (skF V (psS S) a W i).1) / 65536 % (nhV V + 1) < nhV V + 1 := Nat.mod_lt _ (by omega)
    refine Tr.iload_n (i := 2) dX1_stroll_2 rfl rfl (Eq.refl 3) ?_
    refine Tr.aload_n (i := 1) dX1_stroll_3 rfl rfl (Eq.refl 4) ?_
    refine Tr.getf dX1_stroll_4 fX1_67 rfl rfl (Eq.refl 7) ?_
    refine Tr.icmp_geN (tgt := 89) dX1_stroll_7 (by decide) (Eq.refl 10) (by omega) (by omega) (fun h7 => ?_) (fun h7 => ?_)
    · exact absurd h7 (by omega)
    · refine Tr.aload_n (i := 0) dX1_stroll_10 rfl rfl (Eq.refl 11) ?_
      refine Tr.bipush (v := nI 100) dX1_stroll_11 (by decide +kernel) (Eq.refl 13) ?_
      refine Tr.callV (L := [0, 1, 2, 3, 4, 5, 6, 7, 8, 9, 10, 11]) (c_draw E _ S P L (skF V (psS S) a W i).1 kp (skF V (psS S) a W i).2 100 hs (by decide) (by decide)) dX1_stroll_13 (kX1_70 (Nat.le_of_ble_eq_true rfl)) iX1_draw rfl rfl rfl rfl rfl rfl rfl rfl rfl rfl (Eq.refl 16) ?_
      refine Tr.pic (w' := coC E ad 0 S P L (nxS (skF V (psS S) a W i).1) kp (skF V (psS S) a W i).2 ++ viC E ad 12 V X) (putB_eq (Lc := [12, 13, 14, 15, 16, 17, 18, 19, 20, 21, 22]) 23 rfl rfl rfl rfl ⟨⟨_, rfl, rfl⟩, ⟨_, rfl, rfl⟩, ⟨_, rfl, rfl⟩, ⟨_, rfl, rfl⟩, ⟨_, rfl, rfl⟩, ⟨_, rfl, rfl⟩, ⟨_, rfl, rfl⟩, ⟨_, rfl, rfl⟩, ⟨_, rfl, rfl⟩, ⟨_, rfl, rfl⟩, ⟨_, rfl, rfl⟩, trivial⟩ (by decide) rfl) ?_
      refine Tr.aload_n (i := 1) dX1_stroll_16 rfl rfl (Eq.refl 17) ?_
      refine Tr.getf dX1_stroll_17 fX1_52 rfl rfl (Eq.refl 20) ?_
      refine Tr.iconst (v := nI 5) dX1_stroll_20 (icN 5) (Eq.refl 21) ?_
      refine Tr.ialdN dX1_stroll_21 rfl (by omega) (by decide) (Eq.refl 22) ?_
      refine Tr.icmp_geL (tgt := 29) dX1_stroll_22 (by decide) (Eq.refl 25) (fun h22 => ?_) (fun h22 => ?_)
      · have hc : skStep V (psS S) (skF V (psS S) a W i) i = (nxS (skF V (psS S) a W i).1, (skF V (psS S) a W i).2) := by unfold skStep; rw [if_neg (fun z => h22 z.1)]
        refine Tr.iconst (v := nI 0) dX1_stroll_29 (icN 0) (Eq.refl 30) ?_
        refine Tr.istore_n (i := 3) dX1_stroll_30 rfl rfl rfl (Eq.refl 31) ?_
        refine Tr.iload_n (i := 3) dX1_stroll_31 rfl rfl (Eq.refl 32) ?_
        refine Tr.if_eq (tgt := 83) dX1_stroll_32 (by decide) (Eq.refl 35) (fun _ => ?_) (fun h => absurd h (by decide))
        refine Tr.iincN dX1_stroll_83 rfl rfl rfl (Eq.refl 86) ?_
        refine Tr.goto (pc' := 2) dX1_stroll_86 (by decide) ?_
        refine Tr.mask [true, true, true, false, false] rfl ?_
        refine Tr.eqs rfl rfl ?_ ih
        show _ = coC E ad 0 S P L (skStep V (psS S) (skF V (psS S) a W i) i).1 kp (skStep V (psS S) (skF V (psS S) a W i) i).2 ++ viC E ad 12 V X
        rw [hc]
        try rfl
        try (show _ = coC E ad 0 S P L _ kp (upN _ _ _) ++ _; unfold coC; rw [cl_upN]; first | rfl | (rw [cl_lt (by omega)]; rfl))
      · refine Tr.iconst (v := nI 1) dX1_stroll_25 (icN 1) (Eq.refl 26) ?_
        refine Tr.goto (pc' := 30) dX1_stroll_26 (by decide) ?_
        refine Tr.istore_n (i := 3) dX1_stroll_30 rfl rfl rfl (Eq.refl 31) ?_
        refine Tr.iload_n (i := 3) dX1_stroll_31 rfl rfl (Eq.refl 32) ?_
        refine Tr.if_eq (tgt := 83) dX1_stroll_32 (by decide) (Eq.refl 35) (fun h => absurd h (by decide)) (fun _ => ?_)
        refine Tr.aload_n (i := 1) dX1_stroll_35 rfl rfl (Eq.refl 36) ?_
        refine Tr.iload_n (i := 2) dX1_stroll_36 rfl rfl (Eq.refl 37) ?_
        refine Tr.aload_n (i := 0) dX1_stroll_37 rfl rfl (Eq.refl 38) ?_
        refine Tr.getf dX1_stroll_38 fX1_12 rfl rfl (Eq.refl 41) ?_
        refine Tr.getf dX1_stroll_41 fX1_45 rfl rfl (Eq.refl 44) ?_
        refine Tr.callVr (L := [12, 13, 14, 15, 16, 17, 18, 19, 20, 21, 22]) (c_mustWork E _ V X i (psS S) hV hi ht) dX1_stroll_44 (kX1_74 (Nat.le_of_ble_eq_true rfl)) iX7_mustWork rfl rfl rfl rfl rfl rfl rfl rfl rfl (Eq.refl 47) ?_
        refine Tr.if_neB (tgt := 83) dX1_stroll_47 (by decide) (Eq.refl 50) (fun h47 => ?_) (fun h47 => ?_)
        · have hc : skStep V (psS S) (skF V (psS S) a W i) i = (nxS (skF V (psS S) a W i).1, (skF V (psS S) a W i).2) := by unfold skStep; rw [if_neg (fun z => by rw [h47] at z; cases z.2)]
          refine Tr.iincN dX1_stroll_83 rfl rfl rfl (Eq.refl 86) ?_
          refine Tr.goto (pc' := 2) dX1_stroll_86 (by decide) ?_
          refine Tr.mask [true, true, true, false, false] rfl ?_
          refine Tr.eqs rfl rfl ?_ ih
          show _ = coC E ad 0 S P L (skStep V (psS S) (skF V (psS S) a W i) i).1 kp (skStep V (psS S) (skF V (psS S) a W i) i).2 ++ viC E ad 12 V X
          rw [hc]
          try rfl
          try (show _ = coC E ad 0 S P L _ kp (upN _ _ _) ++ _; unfold coC; rw [cl_upN]; first | rfl | (rw [cl_lt (by omega)]; rfl))
        · have hc : skStep V (psS S) (skF V (psS S) a W i) i = (nxS (nxS (skF V (psS S) a W i).1), upN (skF V (psS S) a W i).2 i (if nxS (nxS (skF V (psS S) a W i).1) / 65536 % (nhV V + 1) < nhV V then nxS (nxS (skF V (psS S) a W i).1) / 65536 % (nhV V + 1) else 5)) := by unfold skStep; rw [if_pos ⟨h22, h47⟩]
          refine Tr.aload_n (i := 0) dX1_stroll_50 rfl rfl (Eq.refl 51) ?_
          refine Tr.aload_n (i := 1) dX1_stroll_51 rfl rfl (Eq.refl 52) ?_
          refine Tr.getf dX1_stroll_52 fX1_78 rfl rfl (Eq.refl 55) ?_
          refine Tr.iconst (v := nI 1) dX1_stroll_55 (icN 1) (Eq.refl 56) ?_
          refine Tr.iaddN dX1_stroll_56 (Eq.refl 57) ?_
          refine Tr.callV (L := [0, 1, 2, 3, 4, 5, 6, 7, 8, 9, 10, 11]) (c_draw E _ S P L (nxS (skF V (psS S) a W i).1) kp (skF V (psS S) a W i).2 (nhV V + 1) hs2 (by omega) (by omega)) dX1_stroll_57 (kX1_70 (Nat.le_of_ble_eq_true rfl)) iX1_draw rfl rfl rfl rfl rfl rfl rfl rfl rfl rfl (Eq.refl 60) ?_
          refine Tr.pic (w' := coC E ad 0 S P L (nxS (nxS (skF V (psS S) a W i).1)) kp (skF V (psS S) a W i).2 ++ viC E ad 12 V X) (putB_eq (Lc := [12, 13, 14, 15, 16, 17, 18, 19, 20, 21, 22]) 23 rfl rfl rfl rfl ⟨⟨_, rfl, rfl⟩, ⟨_, rfl, rfl⟩, ⟨_, rfl, rfl⟩, ⟨_, rfl, rfl⟩, ⟨_, rfl, rfl⟩, ⟨_, rfl, rfl⟩, ⟨_, rfl, rfl⟩, ⟨_, rfl, rfl⟩, ⟨_, rfl, rfl⟩, ⟨_, rfl, rfl⟩, ⟨_, rfl, rfl⟩, trivial⟩ (by decide) rfl) ?_
          refine Tr.istore dX1_stroll_60 rfl rfl (Eq.refl 62) ?_
          refine Tr.aload_n (i := 0) dX1_stroll_62 rfl rfl (Eq.refl 63) ?_
          refine Tr.getf dX1_stroll_63 fX1_29 rfl rfl (Eq.refl 66) ?_
          refine Tr.iload_n (i := 2) dX1_stroll_66 rfl rfl (Eq.refl 67) ?_
          refine Tr.iload dX1_stroll_67 rfl (Eq.refl 69) ?_
          refine Tr.aload_n (i := 1) dX1_stroll_69 rfl rfl (Eq.refl 70) ?_
          refine Tr.getf dX1_stroll_70 fX1_78 rfl rfl (Eq.refl 73) ?_
          refine Tr.icmp_geN (tgt := 81) dX1_stroll_73 (by decide) (Eq.refl 76) (by omega) (by omega) (fun h73 => ?_) (fun h73 => ?_)
          · rw [if_neg (by omega)] at hc
            refine Tr.iconst (v := (-1)) dX1_stroll_81 (by decide +kernel) (Eq.refl 82) ?_
            refine Tr.iastN dX1_stroll_82 rfl (by omega) (by decide) (Eq.refl 83) ?_
            refine Tr.iincN dX1_stroll_83 rfl rfl rfl (Eq.refl 86) ?_
            refine Tr.goto (pc' := 2) dX1_stroll_86 (by decide) ?_
            refine Tr.mask [true, true, true, false, false] rfl ?_
            refine Tr.eqs rfl rfl ?_ ih
            show _ = coC E ad 0 S P L (skStep V (psS S) (skF V (psS S) a W i) i).1 kp (skStep V (psS S) (skF V (psS S) a W i) i).2 ++ viC E ad 12 V X
            rw [hc]
            try rfl
            try (show _ = coC E ad 0 S P L _ kp (upN _ _ _) ++ _; unfold coC; rw [cl_upN]; first | rfl | (rw [cl_lt (by omega)]; rfl))
          · rw [if_pos (by omega)] at hc
            refine Tr.iload dX1_stroll_76 rfl (Eq.refl 78) ?_
            refine Tr.goto (pc' := 82) dX1_stroll_78 (by decide) ?_
            refine Tr.iastN dX1_stroll_82 rfl (by omega) (by decide) (Eq.refl 83) ?_
            refine Tr.iincN dX1_stroll_83 rfl rfl rfl (Eq.refl 86) ?_
            refine Tr.goto (pc' := 2) dX1_stroll_86 (by decide) ?_
            refine Tr.mask [true, true, true, false, false] rfl ?_
            refine Tr.eqs rfl rfl ?_ ih
            show _ = coC E ad 0 S P L (skStep V (psS S) (skF V (psS S) a W i) i).1 kp (skStep V (psS S) (skF V (psS S) a W i) i).2 ++ viC E ad 12 V X
            rw [hc]
            try rfl
            try (show _ = coC E ad 0 S P L _ kp (upN _ _ _) ++ _; unfold coC; rw [cl_upN]; first | rfl | (rw [cl_lt (by omega)]; rfl))
