/-! Course.passQuarter; Choices -/
theorem fwF_at (V : Vil) (P : Nat → Nat) (t : Nat) (W : Nat → Nat) : ∀ n p, p < n → fwF V P t W n p = if wkB V p t then 5 else P (p * 4 + t % 4) := by
  intro n
  induction n with
  | zero => intro p h; omega
  | succ n ih =>
    intro p h
    show upN (fwF V P t W n) n _ p = _
    by_cases h2 : p = n
    · subst h2; rw [upN_self]
    · rw [upN_ne _ _ h2, ih p (by omega)]
def Ple (P : Nat → Nat) : Prop := ∀ k, k < 20 → P k ≤ 5
theorem fwF_le {V : Vil} {P : Nat → Nat} {t : Nat} {W : Nat → Nat} (hV : Vok V) (hP : Ple P) : Wle V (fwF V P t W (npV V)) := by
  intro p hp
  have v2 := hV.2.1
  rw [fwF_at V P t W _ p hp]
  split
  · exact Nat.le_refl 5
  · exact hP _ (by omega)
/-- seed and wishes of a quarter -/
def pqF (V : Vil) (P : Nat → Nat) (t a : Nat) (W : Nat → Nat) : Nat × (Nat → Nat) := if nI 0 < ruV V 5 then skF V t a (fwF V P t W (npV V)) (npV V) else (a, fwF V P t W (npV V))
theorem pqF_le {V : Vil} {P : Nat → Nat} {t a : Nat} {W : Nat → Nat} (hV : Vok V) (hP : Ple P) : Wle V (pqF V P t a W).2 := by
  unfold pqF
  split
  · exact skF_le hV (fwF_le hV hP) _
  · exact fwF_le hV hP
theorem pqF_lt {V : Vil} {P : Nat → Nat} {t a : Nat} {W : Nat → Nat} (h : a < 2 ^ 31) : (pqF V P t a W).1 < 2 ^ 31 := by
  unfold pqF
  split
  · exact skF_lt h _
  · exact h
set_option maxHeartbeats 4000000 in
set_option maxRecDepth 100000 in
theorem c_passQuarter (E : EnvT) (ad : Nat → Nat) (S : Scn) (P : Nat → Nat) (L : Nat → Int32) (a : Nat) (kp : Bool) (W : Nat → Nat) (V : Vil) (X : Vix) (hV : Vok V) (hS : Sle V S) (hP : Ple P) (ha : a < 2 ^ 31) (ht : psS S < 2 ^ 31) : Md E mX1_passQuarter ad [.ref (ad 0), .ref (ad 12)] (coC E ad 0 S P L a kp W ++ viC E ad 12 V X) none (coC E ad 0 (gon V L (pqF V P (psS S) a W).2 S) P L (pqF V P (psS S) a W).1 kp (pqF V P (psS S) a W).2 ++ viC E ad 12 V X) := by
  have hw := pqF_le (t := psS S) (a := a) (W := W) hV hP
  refine Md.of 0 (by decide) rfl rfl ?_
  refine Tr.aload_n (i := 0) dX1_passQuarter_0 rfl rfl (Eq.refl 1) ?_
  refine Tr.getf dX1_passQuarter_1 fX1_21 rfl rfl (Eq.refl 4) ?_
  refine Tr.aload_n (i := 1) dX1_passQuarter_4 rfl rfl (Eq.refl 5) ?_
  refine Tr.aload_n (i := 0) dX1_passQuarter_5 rfl rfl (Eq.refl 6) ?_
  refine Tr.getf dX1_passQuarter_6 fX1_12 rfl rfl (Eq.refl 9) ?_
  refine Tr.getf dX1_passQuarter_9 fX1_45 rfl rfl (Eq.refl 12) ?_
  refine Tr.aload_n (i := 0) dX1_passQuarter_12 rfl rfl (Eq.refl 13) ?_
  refine Tr.getf dX1_passQuarter_13 fX1_29 rfl rfl (Eq.refl 16) ?_
  refine Tr.callV (L := [8, 9, 10, 12, 13, 14, 15, 16, 17, 18, 19, 20, 21, 22, 11]) (c_fillWishes E _ P L V X (psS S) W hV ht) dX1_passQuarter_16 (kX1_48 (Nat.le_of_ble_eq_true rfl)) iX8_fillWishes rfl rfl rfl rfl rfl rfl rfl rfl rfl rfl (Eq.refl 19) ?_
  refine Tr.pic (w' := coC E ad 0 S P L a kp (fwF V P (psS S) W (npV V)) ++ viC E ad 12 V X) (putB_eq (Lc := [0, 1, 2, 3, 4, 5, 6, 7]) 23 rfl rfl rfl rfl ⟨⟨_, rfl, rfl⟩, ⟨_, rfl, rfl⟩, ⟨_, rfl, rfl⟩, ⟨_, rfl, rfl⟩, ⟨_, rfl, rfl⟩, ⟨_, rfl, rfl⟩, ⟨_, rfl, rfl⟩, ⟨_, rfl, rfl⟩, trivial⟩ (by decide) rfl) ?_
  refine Tr.aload_n (i := 1) dX1_passQuarter_19 rfl rfl (Eq.refl 20) ?_
  refine Tr.getf dX1_passQuarter_20 fX1_52 rfl rfl (Eq.refl 23) ?_
  refine Tr.iconst (v := nI 5) dX1_passQuarter_23 (icN 5) (Eq.refl 24) ?_
  refine Tr.ialdN dX1_passQuarter_24 rfl (by omega) (by decide) (Eq.refl 25) ?_
  refine Tr.if_leL (tgt := 33) dX1_passQuarter_25 (by decide) (Eq.refl 28) (fun h25 => ?_) (fun h25 => ?_)
  · have hq : pqF V P (psS S) a W = (a, fwF V P (psS S) W (npV V)) := by unfold pqF; rw [if_neg (by rw [nI_0]; exact h25)]
    refine Tr.pic (w' := coC E ad 0 S P L (pqF V P (psS S) a W).1 kp (pqF V P (psS S) a W).2 ++ viC E ad 12 V X) (by rw [hq]) ?_
    refine Tr.aload_n (i := 0) dX1_passQuarter_33 rfl rfl (Eq.refl 34) ?_
    refine Tr.getf dX1_passQuarter_34 fX1_12 rfl rfl (Eq.refl 37) ?_
    refine Tr.aload_n (i := 1) dX1_passQuarter_37 rfl rfl (Eq.refl 38) ?_
    refine Tr.aload_n (i := 0) dX1_passQuarter_38 rfl rfl (Eq.refl 39) ?_
    refine Tr.getf dX1_passQuarter_39 fX1_21 rfl rfl (Eq.refl 42) ?_
    refine Tr.getf dX1_passQuarter_42 fX1_60 rfl rfl (Eq.refl 45) ?_
    refine Tr.aload_n (i := 0) dX1_passQuarter_45 rfl rfl (Eq.refl 46) ?_
    refine Tr.getf dX1_passQuarter_46 fX1_29 rfl rfl (Eq.refl 49) ?_
    refine Tr.callV (L := [1, 2, 3, 4, 5, 6, 7, 12, 13, 14, 15, 16, 17, 18, 19, 20, 21, 22, 10, 11]) (c_goOn E _ V X S L (pqF V P (psS S) a W).2 hV hS hw) dX1_passQuarter_49 (kX1_63 (Nat.le_of_ble_eq_true rfl)) iX3_goOn rfl rfl rfl rfl rfl rfl rfl rfl rfl rfl (Eq.refl 52) ?_
    refine Tr.pic (w' := coC E ad 0 (gon V L (pqF V P (psS S) a W).2 S) P L (pqF V P (psS S) a W).1 kp (pqF V P (psS S) a W).2 ++ viC E ad 12 V X) (putB_eq (Lc := [0, 8, 9]) 23 rfl rfl rfl rfl ⟨⟨_, rfl, rfl⟩, ⟨_, rfl, rfl⟩, ⟨_, rfl, rfl⟩, trivial⟩ (by decide) rfl) ?_
    refine Tr.ret dX1_passQuarter_52 rfl rfl ?_
    · rfl
  · have hq : pqF V P (psS S) a W = skF V (psS S) a (fwF V P (psS S) W (npV V)) (npV V) := by unfold pqF; rw [if_pos (by rw [nI_0]; exact h25)]
    refine Tr.aload_n (i := 0) dX1_passQuarter_28 rfl rfl (Eq.refl 29) ?_
    refine Tr.aload_n (i := 1) dX1_passQuarter_29 rfl rfl (Eq.refl 30) ?_
    refine Tr.callVs (c_stroll E ad S P L a kp (fwF V P (psS S) W (npV V)) V X hV ha ht) dX1_passQuarter_30 (kX1_57 (Nat.le_of_ble_eq_true rfl)) iX1_stroll rfl rfl rfl rfl rfl (Nat.le_refl _) rfl rfl (Eq.refl 33) ?_
    refine Tr.pic (w' := coC E ad 0 S P L (pqF V P (psS S) a W).1 kp (pqF V P (psS S) a W).2 ++ viC E ad 12 V X) (by rw [hq]) ?_
    refine Tr.aload_n (i := 0) dX1_passQuarter_33 rfl rfl (Eq.refl 34) ?_
    refine Tr.getf dX1_passQuarter_34 fX1_12 rfl rfl (Eq.refl 37) ?_
    refine Tr.aload_n (i := 1) dX1_passQuarter_37 rfl rfl (Eq.refl 38) ?_
    refine Tr.aload_n (i := 0) dX1_passQuarter_38 rfl rfl (Eq.refl 39) ?_
    refine Tr.getf dX1_passQuarter_39 fX1_21 rfl rfl (Eq.refl 42) ?_
    refine Tr.getf dX1_passQuarter_42 fX1_60 rfl rfl (Eq.refl 45) ?_
    refine Tr.aload_n (i := 0) dX1_passQuarter_45 rfl rfl (Eq.refl 46) ?_
    refine Tr.getf dX1_passQuarter_46 fX1_29 rfl rfl (Eq.refl 49) ?_
    refine Tr.callV (L := [1, 2, 3, 4, 5, 6, 7, 12, 13, 14, 15, 16, 17, 18, 19, 20, 21, 22, 10, 11]) (c_goOn E _ V X S L (pqF V P (psS S) a W).2 hV hS hw) dX1_passQuarter_49 (kX1_63 (Nat.le_of_ble_eq_true rfl)) iX3_goOn rfl rfl rfl rfl rfl rfl rfl rfl rfl rfl (Eq.refl 52) ?_
    refine Tr.pic (w' := coC E ad 0 (gon V L (pqF V P (psS S) a W).2 S) P L (pqF V P (psS S) a W).1 kp (pqF V P (psS S) a W).2 ++ viC E ad 12 V X) (putB_eq (Lc := [0, 8, 9]) 23 rfl rfl rfl rfl ⟨⟨_, rfl, rfl⟩, ⟨_, rfl, rfl⟩, ⟨_, rfl, rfl⟩, trivial⟩ (by decide) rfl) ?_
    refine Tr.ret dX1_passQuarter_52 rfl rfl ?_
    · rfl
/-- a row of choices -/
def chC (E : EnvT) (ad : Nat → Nat) (b : Nat) (ch mo : Nat → Nat) (sz : Nat) : List va_E := [.inr (0, [.ref (ad (b + 1)), .ref (ad (b + 2)), .int (nI sz)]), aI E 5 (fun k => nI (ch k)), aI E 5 (fun k => nI (mo k))]
theorem nI_upN (f : Nat → Nat) (k x : Nat) : (fun j => nI (upN f k x j)) = upd (fun j => nI (f j)) k (nI x) := by
  funext j
  by_cases h : j = k <;> simp [upN, upd, h]
theorem pre_sN (g f : Nat → Nat) (i : Nat) : pre g f (i + 1) = upN (pre g f i) i (g i) := by
  funext k
  by_cases h : k = i
  · subst h; simp [upN, pre]
  · simp only [upN, pre, if_neg h]
    by_cases h2 : k < i
    · rw [if_pos h2, if_pos (show k < i + 1 by omega)]
    · rw [if_neg h2, if_neg (show ¬ k < i + 1 by omega)]
set_option maxHeartbeats 4000000 in
set_option maxRecDepth 100000 in
theorem c_chBegin (E : EnvT) (ad : Nat → Nat) (ch mo : Nat → Nat) (sz n c : Nat) (hn : n ≤ 5) : Md E mX0_begin ad [.ref (ad 0), .int (nI n), .int (nI c)] (chC E ad 0 ch mo sz) none (chC E ad 0 (pre (fun _ => 0) ch n) (pre (fun _ => c) mo n) n) := by
  have hm : mnI (nI n) (nI 5) = nI n := if_neg (nI_nlt (by omega) (by omega))
  refine Md.of 1 (by decide) rfl rfl ?_
  refine Tr.aload_n (i := 0) dX0_begin_0 rfl rfl (Eq.refl 1) ?_
  refine Tr.iload_n (i := 1) dX0_begin_1 rfl rfl (Eq.refl 2) ?_
  refine Tr.iconst (v := nI 5) dX0_begin_2 (icN 5) (Eq.refl 3) ?_
  refine Tr.mmin dX0_begin_3 (kX0_18 (Nat.le_refl _)).1 rfl rfl (Eq.refl 6) ?_
  rw [hm]
  refine Tr.putf dX0_begin_6 pX0_24 rfl (rfl) (rfl) rfl (Eq.refl 9) ?_
  refine Tr.iconst (v := nI 0) dX0_begin_9 (icN 0) (Eq.refl 10) ?_
  refine Tr.istore_n (i := 3) dX0_begin_10 rfl rfl rfl (Eq.refl 11) ?_
  refine Tr.mask [true, true, true, true] (lv' := [some (.ref (ad 0)), some (.int (nI n)), some (.int (nI c)), some (.int (nI 0))]) rfl ?_
  refine Tr.pic (w' := chC E ad 0 (pre (fun _ => 0) ch 0) (pre (fun _ => c) mo 0) n) (by rw [pre_0, pre_0]; rfl) ?_
  refine loopD (P := fun i => Tr _ 0 0 11 [some (.ref (ad 0)), some (.int (nI n)), some (.int (nI c)), some (.int (nI i))] [] (chC E ad 0 (pre (fun _ => 0) ch i) (pre (fun _ => c) mo i) n)) n ?_ (fun i hi ih => ?_)
  · refine Tr.iload_n (i := 3) dX0_begin_11 rfl rfl (Eq.refl 12) ?_
    refine Tr.aload_n (i := 0) dX0_begin_12 rfl rfl (Eq.refl 13) ?_
    refine Tr.getf dX0_begin_13 fX0_24 rfl rfl (Eq.refl 16) ?_
    refine Tr.icmp_geN (tgt := 39) dX0_begin_16 (by decide) (Eq.refl 19) (by omega) (by omega) (fun h16 => ?_) (fun h16 => ?_)
    · refine Tr.ret dX0_begin_39 rfl rfl ?_
      · rfl
    · exact absurd h16 (by omega)
  · refine Tr.iload_n (i := 3) dX0_begin_11 rfl rfl (Eq.refl 12) ?_
    refine Tr.aload_n (i := 0) dX0_begin_12 rfl rfl (Eq.refl 13) ?_
    refine Tr.getf dX0_begin_13 fX0_24 rfl rfl (Eq.refl 16) ?_
    refine Tr.icmp_geN (tgt := 39) dX0_begin_16 (by decide) (Eq.refl 19) (by omega) (by omega) (fun h16 => ?_) (fun h16 => ?_)
    · exact absurd h16 (by omega)
    · refine Tr.aload_n (i := 0) dX0_begin_19 rfl rfl (Eq.refl 20) ?_
      refine Tr.getf dX0_begin_20 fX0_9 rfl rfl (Eq.refl 23) ?_
      refine Tr.iload_n (i := 3) dX0_begin_23 rfl rfl (Eq.refl 24) ?_
      refine Tr.iconst (v := nI 0) dX0_begin_24 (icN 0) (Eq.refl 25) ?_
      refine Tr.iastN dX0_begin_25 rfl (by omega) (by decide) (Eq.refl 26) ?_
      refine Tr.aload_n (i := 0) dX0_begin_26 rfl rfl (Eq.refl 27) ?_
      refine Tr.getf dX0_begin_27 fX0_15 rfl rfl (Eq.refl 30) ?_
      refine Tr.iload_n (i := 3) dX0_begin_30 rfl rfl (Eq.refl 31) ?_
      refine Tr.iload_n (i := 2) dX0_begin_31 rfl rfl (Eq.refl 32) ?_
      refine Tr.iastN dX0_begin_32 rfl (by omega) (by decide) (Eq.refl 33) ?_
      refine Tr.iincN dX0_begin_33 rfl rfl rfl (Eq.refl 36) ?_
      refine Tr.goto (pc' := 11) dX0_begin_36 (by decide) ?_
      refine Tr.eqs rfl rfl ?_ ih
      rw [pre_sN (fun _ => 0), pre_sN (fun _ => c)]
      unfold chC
      rw [nI_upN, nI_upN]
      rfl
/-- the next row: chosen, and the first place at which it differs (5: none) -/
def gcF (mo : Nat → Nat) : Nat → (Nat → Nat) → (Nat → Nat) × Nat
  | 0, ch => (ch, 5)
  | n + 1, ch => if ch n + 1 < mo n then (upN ch n (ch n + 1), n) else gcF mo n (upN ch n 0)
def dnI (n : Nat) : Int32 := match n with
  | 0 => -1
  | m + 1 => nI m
theorem dnI_sub (n : Nat) : nI n - nI 1 = dnI n := by
  cases n with
  | zero => decide
  | succ m => exact nI_pred m
theorem dnI_add (n : Nat) : nI n + Int32.ofInt (-1) = dnI n := by
  cases n with
  | zero => decide
  | succ m => exact pk_m1 m
set_option maxHeartbeats 4000000 in
set_option maxRecDepth 100000 in
theorem c_chGoOn_loop (E : EnvT) (ad : Nat → Nat) (mo : Nat → Nat) (sz : Nat) : ∀ (n : Nat) (ch : Nat → Nat), n ≤ 5 → (∀ k, k < n → ch k < 100 ∧ mo k < 100) → Tr (E, mX0_goOn, ad, some (.int (cl (gcF mo n ch).2)), chC E ad 0 (gcF mo n ch).1 mo sz) 0 0 7 [some (.ref (ad 0)), some (.int (dnI n))] [] (chC E ad 0 ch mo sz) := by
  intro n
  induction n with
  | zero =>
    intro ch hn hc
    refine Tr.iload_n (i := 1) dX0_goOn_7 rfl rfl (Eq.refl 8) ?_
    refine Tr.if_lt (tgt := 53) dX0_goOn_8 (by decide) (Eq.refl 11) (fun h8 => ?_) (fun h8 => ?_)
    · refine Tr.iconst (v := (-1)) dX0_goOn_53 (by decide +kernel) (Eq.refl 54) ?_
      refine Tr.iret dX0_goOn_54 rfl (by first | rfl | exact bI_nar _) ?_ ?_
      · rfl
      · rfl
    · exact absurd h8 (by decide)
  | succ n ih =>
    intro ch hn hc
    have h1 := hc n (by omega)
    show Tr _ 0 0 7 [some (.ref (ad 0)), some (.int (nI n))] [] _
    refine Tr.iload_n (i := 1) dX0_goOn_7 rfl rfl (Eq.refl 8) ?_
    refine Tr.if_lt (tgt := 53) dX0_goOn_8 (by decide) (Eq.refl 11) (fun h8 => ?_) (fun h8 => ?_)
    · exact absurd h8 (nI_pos (by omega))
    · refine Tr.aload_n (i := 0) dX0_goOn_11 rfl rfl (Eq.refl 12) ?_
      refine Tr.getf dX0_goOn_12 fX0_9 rfl rfl (Eq.refl 15) ?_
      refine Tr.iload_n (i := 1) dX0_goOn_15 rfl rfl (Eq.refl 16) ?_
      refine Tr.ialdN dX0_goOn_16 rfl (by omega) (by decide) (Eq.refl 17) ?_
      refine Tr.iconst (v := nI 1) dX0_goOn_17 (icN 1) (Eq.refl 18) ?_
      refine Tr.iaddN dX0_goOn_18 (Eq.refl 19) ?_
      refine Tr.aload_n (i := 0) dX0_goOn_19 rfl rfl (Eq.refl 20) ?_
      refine Tr.getf dX0_goOn_20 fX0_15 rfl rfl (Eq.refl 23) ?_
      refine Tr.iload_n (i := 1) dX0_goOn_23 rfl rfl (Eq.refl 24) ?_
      refine Tr.ialdN dX0_goOn_24 rfl (by omega) (by decide) (Eq.refl 25) ?_
      refine Tr.icmp_geN (tgt := 40) dX0_goOn_25 (by decide) (Eq.refl 28) (by omega) (by omega) (fun h25 => ?_) (fun h25 => ?_)
      · have hg : gcF mo (n + 1) ch = gcF mo n (upN ch n 0) := by rw [gcF, if_neg (by omega)]
        refine Tr.aload_n (i := 0) dX0_goOn_40 rfl rfl (Eq.refl 41) ?_
        refine Tr.getf dX0_goOn_41 fX0_9 rfl rfl (Eq.refl 44) ?_
        refine Tr.iload_n (i := 1) dX0_goOn_44 rfl rfl (Eq.refl 45) ?_
        refine Tr.iconst (v := nI 0) dX0_goOn_45 (icN 0) (Eq.refl 46) ?_
        refine Tr.iastN dX0_goOn_46 rfl (by omega) (by decide) (Eq.refl 47) ?_
        rw [hg]
        refine Tr.iinc (v := dnI n) dX0_goOn_47 rfl (dnI_add n) rfl rfl (Eq.refl 50) ?_
        refine Tr.goto (pc' := 7) dX0_goOn_50 (by decide) ?_
        refine Tr.eqs rfl rfl ?_ (ih (upN ch n 0) (by omega) (fun k hk => ?_))
        · unfold chC; rw [nI_upN]; rfl
        · rw [upN_ne _ _ (by omega)]; exact hc k (by omega)
      · have hg : gcF mo (n + 1) ch = (upN ch n (ch n + 1), n) := by rw [gcF, if_pos h25]
        refine Tr.aload_n (i := 0) dX0_goOn_28 rfl rfl (Eq.refl 29) ?_
        refine Tr.getf dX0_goOn_29 fX0_9 rfl rfl (Eq.refl 32) ?_
        refine Tr.iload_n (i := 1) dX0_goOn_32 rfl rfl (Eq.refl 33) ?_
        refine Tr.dup2 dX0_goOn_33 rfl rfl (Eq.refl 34) ?_
        refine Tr.ialdN dX0_goOn_34 rfl (by omega) (by decide) (Eq.refl 35) ?_
        refine Tr.iconst (v := nI 1) dX0_goOn_35 (icN 1) (Eq.refl 36) ?_
        refine Tr.iaddN dX0_goOn_36 (Eq.refl 37) ?_
        refine Tr.iastN dX0_goOn_37 rfl (by omega) (by decide) (Eq.refl 38) ?_
        refine Tr.iload_n (i := 1) dX0_goOn_38 rfl rfl (Eq.refl 39) ?_
        refine Tr.iret dX0_goOn_39 rfl (by first | rfl | exact bI_nar _) ?_ ?_
        · rw [hg]; show some (Value.int (cl n)) = _; rw [cl_lt (by omega)]
        · rw [hg]; show _ = chC E ad 0 (upN ch n (ch n + 1)) mo sz; unfold chC; rw [nI_upN]; rfl
set_option maxHeartbeats 4000000 in
set_option maxRecDepth 100000 in
theorem c_chGoOn (E : EnvT) (ad : Nat → Nat) (ch mo : Nat → Nat) (sz : Nat) (hs : sz ≤ 5) (hc : ∀ k, k < sz → ch k < 100 ∧ mo k < 100) : Md E mX0_goOn ad [.ref (ad 0)] (chC E ad 0 ch mo sz) (some (.int (cl (gcF mo sz ch).2))) (chC E ad 0 (gcF mo sz ch).1 mo sz) := by
  refine Md.of 1 (by decide) rfl rfl ?_
  refine Tr.aload_n (i := 0) dX0_goOn_0 rfl rfl (Eq.refl 1) ?_
  refine Tr.getf dX0_goOn_1 fX0_24 rfl rfl (Eq.refl 4) ?_
  refine Tr.iconst (v := nI 1) dX0_goOn_4 (icN 1) (Eq.refl 5) ?_
  refine Tr.isub dX0_goOn_5 (Eq.refl 6) ?_
  rw [dnI_sub]
  refine Tr.istore_n (i := 1) dX0_goOn_6 rfl rfl rfl (Eq.refl 7) ?_
  exact c_chGoOn_loop E ad mo sz sz ch hs hc
