/-! THE REFERENCE: trials -/
def inL (v lo hi : Int64) : Bool := !decide (v < lo) && !decide (hi < v)
/-- in a range of ints -/
def rgB (x a b : Int32) : Bool := !decide (x < a) && !decide (b < x)
/-- below n -/
def ixB (x : Int32) (n : Nat) : Bool := !decide (x < 0) && decide (x < nI n)
theorem l32 (x y : Int32) : x.toInt64 < y.toInt64 ↔ x < y := by rw [Int64.lt_iff_toInt_lt, Int32.toInt_toInt64, Int32.toInt_toInt64, ← Int32.lt_iff_toInt_lt]
theorem in32 (x a b : Int32) : inL x.toInt64 a.toInt64 b.toInt64 = rgB x a b := by
  unfold inL rgB
  rw [decide_eq_decide.mpr (l32 x a), decide_eq_decide.mpr (l32 b x)]
theorem in_ix (x : Int32) {n : Nat} (hn : n ≤ 5) : inL x.toInt64 0 ((nI n).toInt64 - 1) = ixB x n := by
  unfold inL ixB
  have h0 : x.toInt64 < 0 ↔ x < 0 := l32 x 0
  have h1 : ((nI n).toInt64 - 1).toInt = (n : Int) - 1 := by
    rcases (show n = 0 ∨ n = 1 ∨ n = 2 ∨ n = 3 ∨ n = 4 ∨ n = 5 by omega) with rfl | rfl | rfl | rfl | rfl | rfl <;> decide
  have h2 : (nI n).toInt64 - 1 < x.toInt64 ↔ ¬ x < nI n := by
    rw [Int64.lt_iff_toInt_lt, Int32.lt_iff_toInt_lt, h1, Int32.toInt_toInt64, nI_toInt (by omega)]
    omega
  rw [decide_eq_decide.mpr h0, decide_eq_decide.mpr h2, decide_not, Bool.not_not]
theorem ixB_n {x : Int32} {n : Nat} (hn : n ≤ 5) (h : ixB x n = true) : ∃ k, k < n ∧ x = nI k := by
  unfold ixB at h
  have h1 : ¬ x < 0 ∧ x < nI n := by simpa using h
  rcases pk_ix x (n := n) (by omega) with h2 | h2 | h2
  · exact absurd h2 h1.1
  · have h3 := h1.2; rw [Int32.le_iff_toInt_le] at h2; rw [Int32.lt_iff_toInt_lt] at h3; omega
  · exact h2
set_option maxHeartbeats 4000000 in
set_option maxRecDepth 100000 in
theorem m_in (E : EnvT) (ad : Nat → Nat) (v lo hi : Int64) : Md E mX10_in ad [.long v, .long lo, .long hi] [] (some (.int (bI (inL v lo hi)))) [] := by
  unfold inL
  refine Md.of 0 (by decide) rfl rfl ?_
  refine Tr.lload_n (i := 0) dX10_in_0 rfl rfl (Eq.refl 1) ?_
  refine Tr.lload_n (i := 2) dX10_in_1 rfl rfl (Eq.refl 2) ?_
  refine Tr.lcmp dX10_in_2 (Eq.refl 3) ?_
  refine Tr.if_lt (tgt := 17) dX10_in_3 (by decide) (Eq.refl 6) (fun h3 => ?_) (fun h3 => ?_)
  · rw [lg_cmp_lt] at h3
    rw [show (!decide (v < lo) && !decide (hi < v)) = false from by simp [h3]]
    refine Tr.iconst (v := nI 0) dX10_in_17 (icN 0) (Eq.refl 18) ?_
    refine Tr.iret dX10_in_18 rfl (by first | rfl | exact bI_nar _) ?_ ?_
    · rfl
    · rfl
  · rw [lg_cmp_lt] at h3
    refine Tr.lload_n (i := 0) dX10_in_6 rfl rfl (Eq.refl 7) ?_
    refine Tr.lload dX10_in_7 rfl (Eq.refl 9) ?_
    refine Tr.lcmp dX10_in_9 (Eq.refl 10) ?_
    refine Tr.if_gt (tgt := 17) dX10_in_10 (by decide) (Eq.refl 13) (fun h10 => ?_) (fun h10 => ?_)
    · rw [lg_cmp_gt] at h10
      rw [show (!decide (v < lo) && !decide (hi < v)) = false from by simp [h10]]
      refine Tr.iconst (v := nI 0) dX10_in_17 (icN 0) (Eq.refl 18) ?_
      refine Tr.iret dX10_in_18 rfl (by first | rfl | exact bI_nar _) ?_ ?_
      · rfl
      · rfl
    · rw [lg_cmp_gt] at h10
      rw [show (!decide (v < lo) && !decide (hi < v)) = true from by simp [h3, h10]]
      refine Tr.iconst (v := nI 1) dX10_in_13 (icN 1) (Eq.refl 14) ?_
      refine Tr.goto (pc' := 18) dX10_in_14 (by decide) ?_
      refine Tr.iret dX10_in_18 rfl (by first | rfl | exact bI_nar _) ?_ ?_
      · rfl
      · rfl
def moP (r : Nat → Nat) (i : Nat → Int32) (nh np : Nat) : va_E := .inr (10, [.ref (r 0), .int (i 1), .int (i 2), .int (i 3), .int (i 4), .int (i 5), .int (i 6), .int (i 7), .int (i 8), .int (i 9), .int (nI nh), .int (nI np), .int (i 12), .int (i 13), .int (i 14), .int (i 15), .int (i 16), .int (i 17), .int (i 18), .ref (r 19), .ref (r 20), .ref (r 21), .ref (r 22), .ref (r 23), .ref (r 24), .ref (r 25), .ref (r 26), .ref (r 27), .ref (r 28), .ref (r 29), .ref (r 30), .ref (r 31), .ref (r 32), .ref (r 33), .ref (r 34), .ref (r 35), .ref (r 36), .int (i 37), .ref (r 38), .ref (r 39), .int (i 40), .int (i 41), .int (i 42), .int (i 43), .int (i 44), .int (i 45), .ref (r 46), .ref (r 47), .ref (r 48), .ref (r 49), .ref (r 50), .ref (r 51), .int (i 52), .int (i 53), .ref (r 54), .int (i 55), .int (i 56), .ref (r 57), .ref (r 58), .ref (r 59), .int (i 60)])
set_option maxHeartbeats 4000000 in
set_option maxRecDepth 100000 in
theorem m_isPerson (E : EnvT) (ad r : Nat → Nat) (i : Nat → Int32) (nh np : Nat) (x : Int32) (h : np ≤ 5) : Md E mX10_isPerson ad [.ref (ad 0), .int x] [moP r i nh np] (some (.int (bI (ixB x np)))) [moP r i nh np] := by
  refine Md.of 0 (by decide) rfl rfl ?_
  refine Tr.iload_n (i := 1) dX10_isPerson_0 rfl rfl (Eq.refl 1) ?_
  refine Tr.i2l dX10_isPerson_1 rfl (Eq.refl 2) ?_
  refine Tr.lconst (v := 0) dX10_isPerson_2 (by decide +kernel) (Eq.refl 3) ?_
  refine Tr.aload_n (i := 0) dX10_isPerson_3 rfl rfl (Eq.refl 4) ?_
  refine Tr.getf dX10_isPerson_4 fX10_285 rfl rfl (Eq.refl 7) ?_
  refine Tr.i2l dX10_isPerson_7 rfl (Eq.refl 8) ?_
  refine Tr.lconst (v := 1) dX10_isPerson_8 (by decide +kernel) (Eq.refl 9) ?_
  refine Tr.lsub dX10_isPerson_9 (Eq.refl 10) ?_
  refine Tr.callSr (L := []) (m_in E _ x.toInt64 0 ((nI np).toInt64 - 1)) dX10_isPerson_10 (kX10_52 (Nat.le_of_ble_eq_true rfl)) sX10_in rfl rfl rfl rfl rfl rfl rfl (Eq.refl 13) ?_
  rw [in_ix x h]
  refine Tr.iret dX10_isPerson_13 rfl (by first | rfl | exact bI_nar _) ?_ ?_
  · rfl
  · rfl
set_option maxHeartbeats 4000000 in
set_option maxRecDepth 100000 in
theorem m_isHouse (E : EnvT) (ad r : Nat → Nat) (i : Nat → Int32) (nh np : Nat) (x : Int32) (h : nh ≤ 5) : Md E mX10_isHouse ad [.ref (ad 0), .int x] [moP r i nh np] (some (.int (bI (ixB x nh)))) [moP r i nh np] := by
  refine Md.of 0 (by decide) rfl rfl ?_
  refine Tr.iload_n (i := 1) dX10_isHouse_0 rfl rfl (Eq.refl 1) ?_
  refine Tr.i2l dX10_isHouse_1 rfl (Eq.refl 2) ?_
  refine Tr.lconst (v := 0) dX10_isHouse_2 (by decide +kernel) (Eq.refl 3) ?_
  refine Tr.aload_n (i := 0) dX10_isHouse_3 rfl rfl (Eq.refl 4) ?_
  refine Tr.getf dX10_isHouse_4 fX10_282 rfl rfl (Eq.refl 7) ?_
  refine Tr.i2l dX10_isHouse_7 rfl (Eq.refl 8) ?_
  refine Tr.lconst (v := 1) dX10_isHouse_8 (by decide +kernel) (Eq.refl 9) ?_
  refine Tr.lsub dX10_isHouse_9 (Eq.refl 10) ?_
  refine Tr.callSr (L := []) (m_in E _ x.toInt64 0 ((nI nh).toInt64 - 1)) dX10_isHouse_10 (kX10_52 (Nat.le_of_ble_eq_true rfl)) sX10_in rfl rfl rfl rfl rfl rfl rfl (Eq.refl 13) ?_
  rw [in_ix x h]
  refine Tr.iret dX10_isHouse_13 rfl (by first | rfl | exact bI_nar _) ?_ ?_
  · rfl
  · rfl
/-- a choice's place, as the reference says it -/
def plR (nh c : Nat) : Nat := if c = nh then 5 else c
set_option maxHeartbeats 4000000 in
set_option maxRecDepth 100000 in
theorem m_place (E : EnvT) (ad r : Nat → Nat) (i : Nat → Int32) (nh np c : Nat) (h : nh ≤ 5) (hc : c ≤ nh) : Md E mX10_place ad [.ref (ad 0), .int (nI c)] [moP r i nh np] (some (.int (nI (plR nh c)))) [moP r i nh np] := by
  refine Md.of 0 (by decide) rfl rfl ?_
  refine Tr.iload_n (i := 1) dX10_place_0 rfl rfl (Eq.refl 1) ?_
  refine Tr.aload_n (i := 0) dX10_place_1 rfl rfl (Eq.refl 2) ?_
  refine Tr.getf dX10_place_2 fX10_282 rfl rfl (Eq.refl 5) ?_
  refine Tr.icmp_neN (tgt := 12) dX10_place_5 (by decide) (Eq.refl 8) (by omega) (by omega) (fun h5 => ?_) (fun h5 => ?_)
  · rw [show plR nh c = c from if_neg h5]
    refine Tr.iload_n (i := 1) dX10_place_12 rfl rfl (Eq.refl 13) ?_
    refine Tr.iret dX10_place_13 rfl (by first | rfl | exact bI_nar _) ?_ ?_
    · rfl
    · rfl
  · rw [show plR nh c = 5 from if_pos h5]
    refine Tr.iconst (v := nI 5) dX10_place_8 (icN 5) (Eq.refl 9) ?_
    refine Tr.goto (pc' := 13) dX10_place_9 (by decide) ?_
    refine Tr.iret dX10_place_13 rfl (by first | rfl | exact bI_nar _) ?_ ?_
    · rfl
    · rfl
set_option maxHeartbeats 4000000 in
set_option maxRecDepth 100000 in
theorem m_told0 (E : EnvT) (ad : Nat → Nat) (c : Nat) (hc : c ≤ 5) : Md E mX10_told0 ad [.int (nI c)] [] (some (.int (cl c))) [] := by
  refine Md.of 0 (by decide) rfl rfl ?_
  refine Tr.iload_n (i := 0) dX10_told0_0 rfl rfl (Eq.refl 1) ?_
  refine Tr.iconst (v := nI 5) dX10_told0_1 (icN 5) (Eq.refl 2) ?_
  refine Tr.icmp_neN (tgt := 9) dX10_told0_2 (by decide) (Eq.refl 5) (by omega) (by omega) (fun h2 => ?_) (fun h2 => ?_)
  · rw [cl_lt (by omega)]
    refine Tr.iload_n (i := 0) dX10_told0_9 rfl rfl (Eq.refl 10) ?_
    refine Tr.iret dX10_told0_10 rfl (by first | rfl | exact bI_nar _) ?_ ?_
    · rfl
    · rfl
  · rw [cl_ge (by omega)]
    refine Tr.iconst (v := (-1)) dX10_told0_5 (by decide +kernel) (Eq.refl 6) ?_
    refine Tr.goto (pc' := 10) dX10_told0_6 (by decide) ?_
    refine Tr.iret dX10_told0_10 rfl (by first | rfl | exact bI_nar _) ?_ ?_
    · rfl
    · rfl
/-- the refs and ints of a trial's object as a quarter sees them -/
def rT (ad r : Nat → Nat) (k : Nat) : Nat := if k = 38 then ad 10 else if k = 39 then ad 9 else if k = 50 then ad 11 else if k = 51 then ad 12 else r k
def iT (lg ll : Int32) (i : Nat → Int32) (k : Nat) : Int32 := if k = 52 then lg else if k = 53 then ll else i k
/-- .. and as a lone object does -/
def rP (ad r : Nat → Nat) (k : Nat) : Nat := if k = 19 then ad 1 else if k = 22 then ad 2 else if k = 24 then ad 3 else if k = 25 then ad 4 else if k = 26 then ad 5 else if k = 27 then ad 6 else if k = 46 then ad 7 else if k = 47 then ad 8 else rT ad r k
def iP (V : Vil) (o : Ovr) (lg ll : Int32) (i : Nat → Int32) (k : Nat) : Int32 := if k = 17 then bI (laV V) else if k = 40 then o.1 else if k = 41 then o.2.1 else if k = 42 then o.2.2.1 else if k = 43 then o.2.2.2.1 else if k = 44 then bI o.2.2.2.2.1 else if k = 45 then bI o.2.2.2.2.2 else iT lg ll i k
def mtO (ad r : Nat → Nat) (i : Nat → Int32) (V : Vil) (o : Ovr) (lg ll : Int32) : va_E := .inr (10, [.ref (r 0), .int (i 1), .int (i 2), .int (i 3), .int (i 4), .int (i 5), .int (i 6), .int (i 7), .int (i 8), .int (i 9), .int (nI (nhV V)), .int (nI (npV V)), .int (i 12), .int (i 13), .int (i 14), .int (i 15), .int (i 16), .int (bI (laV V)), .int (i 18), .ref (ad 1), .ref (r 20), .ref (r 21), .ref (ad 2), .ref (r 23), .ref (ad 3), .ref (ad 4), .ref (ad 5), .ref (ad 6), .ref (r 28), .ref (r 29), .ref (r 30), .ref (r 31), .ref (r 32), .ref (r 33), .ref (r 34), .ref (r 35), .ref (r 36), .int (i 37), .ref (ad 10), .ref (ad 9), .int (o.1), .int (o.2.1), .int (o.2.2.1), .int (o.2.2.2.1), .int (bI o.2.2.2.2.1), .int (bI o.2.2.2.2.2), .ref (ad 7), .ref (ad 8), .ref (r 48), .ref (r 49), .ref (ad 11), .ref (ad 12), .int (lg), .int (ll), .ref (r 54), .int (i 55), .int (i 56), .ref (r 57), .ref (r 58), .ref (r 59), .int (i 60)])
/-- the cells of a trial: object, law, worth, owner, home, work, ties, wishes, leaves, trial, now, best plan, gains -/
def mtC (E : EnvT) (ad r : Nat → Nat) (i : Nat → Int32) (V : Vil) (o : Ovr) (lg ll : Int32) (W : Nat → Nat) (B f g : Nat → Int32) (bp : Nat → Nat) (G : Nat → Int32) : List va_E := [mtO ad r i V o lg ll, aI E 6 (ruV V), aI E 5 (woV V), aI E 5 (fun k => cl (owV V k)), aI E 5 (fun k => cl (hoV V k)), aI E 5 (wkV V), aI E 25 (tiV V), aI E 5 (fun k => nI (W k)), aZ E 5 B, aI E 57 f, aI E 57 g, aI E 4 (fun k => nI (bp k)), aI E 38880 G]
theorem mt_le {E E2 : EnvT} {ad r ad2 r2 : Nat → Nat} {i i2 : Nat → Int32} {V V2 : Vil} {o o2 : Ovr} {lg ll lg2 ll2 : Int32} {W W2 : Nat → Nat} {B f g B2 f2 g2 : Nat → Int32} {bp bp2 : Nat → Nat} {G G2 : Nat → Int32} : (mtC E ad r i V o lg ll W B f g bp G).length ≤ (mtC E2 ad2 r2 i2 V2 o2 lg2 ll2 W2 B2 f2 g2 bp2 G2).length := Nat.le_refl 13
set_option maxHeartbeats 4000000 in
set_option maxRecDepth 100000 in
theorem m_copyNow (E : EnvT) (ad r : Nat → Nat) (i : Nat → Int32) (V : Vil) (o : Ovr) (lg ll : Int32) (W : Nat → Nat) (B f g : Nat → Int32) (bp : Nat → Nat) (G : Nat → Int32) : Md E mX10_copyNow ad [.ref (ad 0)] (mtC E ad r i V o lg ll W B f g bp G) none (mtC E ad r i V o lg ll W B g g bp G) := by
  refine Md.of 1 (by decide) rfl rfl ?_
  refine Tr.iconst (v := nI 0) dX10_copyNow_0 (icN 0) (Eq.refl 1) ?_
  refine Tr.istore_n (i := 1) dX10_copyNow_1 rfl rfl rfl (Eq.refl 2) ?_
  refine Tr.mask [true, true] (lv' := [some (.ref (ad 0)), some (.int (nI 0))]) rfl ?_
  refine Tr.pic (w' := (mtC E ad r i V o lg ll W B (pre g f 0) g bp G)) (by exact congrArg (fun x => (mtC E ad r i V o lg ll W B x g bp G)) (show f = pre g f 0 from funext fun k => (if_neg (Nat.not_lt_zero k)).symm)) ?_
  refine loopD (P := fun j => Tr _ 0 0 2 [some (.ref (ad 0)), some (.int (nI j))] [] (mtC E ad r i V o lg ll W B (pre g f j) g bp G)) 57 ?_ (fun j hj ih => ?_)
  · refine Tr.iload_n (i := 1) dX10_copyNow_2 rfl rfl (Eq.refl 3) ?_
    refine Tr.bipush (v := nI 57) dX10_copyNow_3 (by decide +kernel) (Eq.refl 5) ?_
    refine Tr.icmp_geN (tgt := 26) dX10_copyNow_5 (by decide) (Eq.refl 8) (by omega) (by omega) (fun h5 => ?_) (fun h5 => ?_)
    · refine Tr.fn (q := 9) g rfl (fun k hk => pre_n hk) ?_
      refine Tr.ret dX10_copyNow_26 rfl rfl ?_
      · rfl
    · exact absurd h5 (by omega)
  · refine Tr.iload_n (i := 1) dX10_copyNow_2 rfl rfl (Eq.refl 3) ?_
    refine Tr.bipush (v := nI 57) dX10_copyNow_3 (by decide +kernel) (Eq.refl 5) ?_
    refine Tr.icmp_geN (tgt := 26) dX10_copyNow_5 (by decide) (Eq.refl 8) (by omega) (by omega) (fun h5 => ?_) (fun h5 => ?_)
    · exact absurd h5 (by omega)
    · refine Tr.aload_n (i := 0) dX10_copyNow_8 rfl rfl (Eq.refl 9) ?_
      refine Tr.getf dX10_copyNow_9 fX10_222 rfl rfl (Eq.refl 12) ?_
      refine Tr.iload_n (i := 1) dX10_copyNow_12 rfl rfl (Eq.refl 13) ?_
      refine Tr.aload_n (i := 0) dX10_copyNow_13 rfl rfl (Eq.refl 14) ?_
      refine Tr.getf dX10_copyNow_14 fX10_219 rfl rfl (Eq.refl 17) ?_
      refine Tr.iload_n (i := 1) dX10_copyNow_17 rfl rfl (Eq.refl 18) ?_
      refine Tr.ialdN dX10_copyNow_18 rfl (by omega) (by decide) (Eq.refl 19) ?_
      refine Tr.iastN dX10_copyNow_19 rfl (by omega) (by decide) (Eq.refl 20) ?_
      refine Tr.iincN dX10_copyNow_20 rfl rfl rfl (Eq.refl 23) ?_
      refine Tr.goto (pc' := 2) dX10_copyNow_23 (by decide) ?_
      exact Tr.eqs rfl rfl (by exact congrArg (fun x => (mtC E ad r i V o lg ll W B x g bp G)) (pre_s g f j)) ih
/-- plans that can be -/
def Pok (V : Vil) (P : Nat → Nat) : Prop := ∀ p, p < npV V → ∀ q, q < 4 → P (p * 4 + q) < nhV V ∨ P (p * 4 + q) = 5
theorem fwF_ok {V : Vil} {P : Nat → Nat} (h : Pok V P) (t : Nat) (W : Nat → Nat) : Wok V (fwF V P t W (npV V)) := by
  intro p hp
  rw [fwF_at V P t W _ p hp]
  split
  · exact Or.inr rfl
  · exact h p hp _ (Nat.mod_lt _ (by decide))
/-- quarters of a trial: scene, wishes, leaves behind so many -/
def mgF (V : Vil) (o : Ovr) (P : Nat → Nat) (L : Nat → Int32) (q : Scn × (Nat → Nat) × (Nat → Int32)) : Nat → Scn × (Nat → Nat) × (Nat → Int32)
  | 0 => q
  | n + 1 => (gon (ovr V o) L (fwF V P (psS (mgF V o P L q n).1) (mgF V o P L q n).2.1 (npV V)) (mgF V o P L q n).1, fwF V P (psS (mgF V o P L q n).1) (mgF V o P L q n).2.1 (npV V), lbF (fwF V P (psS (mgF V o P L q n).1) (mgF V o P L q n).2.1 (npV V)) (mgF V o P L q n).1 (mgF V o P L q n).2.2 (npV V))
theorem mgF_ps (V : Vil) (o : Ovr) (P : Nat → Nat) (L : Nat → Int32) (q : Scn × (Nat → Nat) × (Nat → Int32)) : ∀ n, psS (mgF V o P L q n).1 = psS q.1 + n := by
  intro n
  induction n with
  | zero => rfl
  | succ n ih => show psS (gon _ _ _ _) = _; rw [gon_ps, ih]; omega
theorem mgF_le {V : Vil} {o : Ovr} {P : Nat → Nat} {L : Nat → Int32} {q : Scn × (Nat → Nat) × (Nat → Int32)} (hV : Vok V) (hP : Pok V P) (h : Sle V q.1) : ∀ n, Sle V (mgF V o P L q n).1 := by
  intro n
  induction n with
  | zero => exact h
  | succ n ih => exact gon_le (V := ovr V o) ih ((fwF_ok hP _ _).le hV)
set_option maxHeartbeats 4000000 in
set_option maxRecDepth 100000 in
theorem m_goTrial (E : EnvT) (ad r : Nat → Nat) (i : Nat → Int32) (V : Vil) (o : Ovr) (lg ll : Int32) (W : Nat → Nat) (B g : Nat → Int32) (bp : Nat → Nat) (G : Nat → Int32) (S : Scn) (P : Nat → Nat) (L : Nat → Int32) (a : Nat) (n : Nat) (hV : Vok V) (hS : Sle V S) (hP : Pok V P) (hn : n < 2 ^ 20) (ht : psS S < 2 ^ 29) : Md E mX10_goTrial ad [.ref (ad 0), .int (nI n)] (mtC E ad r i V o lg ll W B (rwF S P L a) g bp G) none (mtC E ad r i V o lg ll (mgF V o P L (S, W, B) n).2.1 (mgF V o P L (S, W, B) n).2.2 (rwF (mgF V o P L (S, W, B) n).1 P L a) g bp G) := by
  refine Md.of 1 (by decide) rfl rfl ?_
  refine Tr.iconst (v := nI 0) dX10_goTrial_0 (icN 0) (Eq.refl 1) ?_
  refine Tr.istore_n (i := 2) dX10_goTrial_1 rfl rfl rfl (Eq.refl 2) ?_
  refine Tr.mask [true, true, true] (lv' := [some (.ref (ad 0)), some (.int (nI n)), some (.int (nI 0))]) rfl ?_
  refine loopD (P := fun j => Tr _ 0 0 2 [some (.ref (ad 0)), some (.int (nI n)), some (.int (nI j))] [] (mtC E ad r i V o lg ll (mgF V o P L (S, W, B) j).2.1 (mgF V o P L (S, W, B) j).2.2 (rwF (mgF V o P L (S, W, B) j).1 P L a) g bp G)) n ?_ (fun j hj ih => ?_)
  · refine Tr.iload_n (i := 2) dX10_goTrial_2 rfl rfl (Eq.refl 3) ?_
    refine Tr.iload_n (i := 1) dX10_goTrial_3 rfl rfl (Eq.refl 4) ?_
    refine Tr.icmp_geN (tgt := 29) dX10_goTrial_4 (by decide) (Eq.refl 7) (by omega) (by omega) (fun h4 => ?_) (fun h4 => ?_)
    · refine Tr.ret dX10_goTrial_29 rfl rfl ?_
      · rfl
    · exact absurd h4 (by omega)
  · have hps := mgF_ps V o P L (S, W, B) j
    have hps : psS (mgF V o P L (S, W, B) j).1 = psS S + j := hps
    have hle := mgF_le (o := o) (L := L) (q := (S, W, B)) hV hP hS j
    have hu : (mgF V o P L (S, W, B) (j + 1)) = (gon (ovr V o) L (fwF V P (psS (mgF V o P L (S, W, B) j).1) (mgF V o P L (S, W, B) j).2.1 (npV V)) (mgF V o P L (S, W, B) j).1, fwF V P (psS (mgF V o P L (S, W, B) j).1) (mgF V o P L (S, W, B) j).2.1 (npV V), lbF (fwF V P (psS (mgF V o P L (S, W, B) j).1) (mgF V o P L (S, W, B) j).2.1 (npV V)) (mgF V o P L (S, W, B) j).1 (mgF V o P L (S, W, B) j).2.2 (npV V)) := rfl
    rw [hu] at ih
    clear hu
    generalize (mgF V o P L (S, W, B) j) = q at *
    obtain ⟨S1, W1, B1⟩ := q
    have hps : psS S1 = psS S + j := hps
    have hle : Sle V S1 := hle
    have hW := fwF_ok hP (psS S1) W1
    show Tr _ 0 0 2 _ _ (mtC E ad r i V o lg ll W1 B1 (rwF S1 P L a) g bp G)
    refine Tr.iload_n (i := 2) dX10_goTrial_2 rfl rfl (Eq.refl 3) ?_
    refine Tr.iload_n (i := 1) dX10_goTrial_3 rfl rfl (Eq.refl 4) ?_
    refine Tr.icmp_geN (tgt := 29) dX10_goTrial_4 (by decide) (Eq.refl 7) (by omega) (by omega) (fun h4 => ?_) (fun h4 => ?_)
    · exact absurd h4 (by omega)
    · refine Tr.aload_n (i := 0) dX10_goTrial_7 rfl rfl (Eq.refl 8) ?_
      refine Tr.aload_n (i := 0) dX10_goTrial_8 rfl rfl (Eq.refl 9) ?_
      refine Tr.getf dX10_goTrial_9 fX10_222 rfl rfl (Eq.refl 12) ?_
      refine Tr.callV (L := [0, 1, 2, 3, 4, 5, 6, 7, 8, 9]) (m_planWishes E _ (rT ad r) (iT lg ll i) V o W1 B1 S1 P L a hV (by omega)) dX10_goTrial_12 (kX10_386 (Nat.le_of_ble_eq_true rfl)) iX10_planWishes rfl rfl rfl rfl rfl rfl rfl rfl rfl rfl (Eq.refl 15) ?_
      refine Tr.pic (w' := mtC E ad r i V o lg ll (fwF V P (psS S1) W1 (npV V)) B1 (rwF S1 P L a) g bp G) (putB_eq (Lc := [10, 11, 12]) 13 rfl rfl rfl rfl ⟨⟨_, rfl, rfl⟩, ⟨_, rfl, rfl⟩, ⟨_, rfl, rfl⟩, trivial⟩ (by decide) rfl) ?_
      refine Tr.aload_n (i := 0) dX10_goTrial_15 rfl rfl (Eq.refl 16) ?_
      refine Tr.aload_n (i := 0) dX10_goTrial_16 rfl rfl (Eq.refl 17) ?_
      refine Tr.getf dX10_goTrial_17 fX10_222 rfl rfl (Eq.refl 20) ?_
      refine Tr.callV (L := [0, 1, 2, 3, 4, 5, 6, 7, 8, 9]) (m_goQuarter E _ (rT ad r) (iT lg ll i) V o (fwF V P (psS S1) W1 (npV V)) B1 S1 P L a hV hle hW (by omega)) dX10_goTrial_20 (kX10_392 (Nat.le_of_ble_eq_true rfl)) iX10_goQuarter rfl rfl rfl rfl rfl rfl rfl rfl rfl rfl (Eq.refl 23) ?_
      refine Tr.pic (w' := mtC E ad r i V o lg ll (fwF V P (psS S1) W1 (npV V)) (lbF (fwF V P (psS S1) W1 (npV V)) S1 B1 (npV V)) (rwF (gon (ovr V o) L (fwF V P (psS S1) W1 (npV V)) S1) P L a) g bp G) (putB_eq (Lc := [10, 11, 12]) 13 rfl rfl rfl rfl ⟨⟨_, rfl, rfl⟩, ⟨_, rfl, rfl⟩, ⟨_, rfl, rfl⟩, trivial⟩ (by decide) rfl) ?_
      refine Tr.iincN dX10_goTrial_23 rfl rfl rfl (Eq.refl 26) ?_
      refine Tr.goto (pc' := 2) dX10_goTrial_26 (by decide) ?_
      exact Tr.eqs rfl rfl rfl ih
/-- a day's sum -/
def smR (V : Vil) (o : Ovr) (P : Nat → Nat) (L : Nat → Int32) (q : Scn × (Nat → Nat) × (Nat → Int32)) (p : Nat) : Int32 := alS (mgF V o P L q 4).1 p - alS q.1 p
set_option maxHeartbeats 4000000 in
set_option maxRecDepth 100000 in
theorem m_sumOf (E : EnvT) (ad r : Nat → Nat) (i : Nat → Int32) (V : Vil) (o : Ovr) (lg ll : Int32) (W : Nat → Nat) (B g : Nat → Int32) (bp : Nat → Nat) (G : Nat → Int32) (S : Scn) (P : Nat → Nat) (L : Nat → Int32) (a : Nat) (p : Nat) (hV : Vok V) (hS : Sle V S) (hP : Pok V P) (ht : psS S < 2 ^ 29) (hp : p < npV V) : Md E mX10_sumOf ad [.ref (ad 0), .int (nI p)] (mtC E ad r i V o lg ll W B (rwF S P L a) g bp G) (some (.int (smR V o P L (S, W, B) p))) (mtC E ad r i V o lg ll (mgF V o P L (S, W, B) 4).2.1 (mgF V o P L (S, W, B) 4).2.2 (rwF (mgF V o P L (S, W, B) 4).1 P L a) g bp G) := by
  have v2 := hV.2.1
  refine Md.of 1 (by decide) rfl rfl ?_
  refine Tr.aload_n (i := 0) dX10_sumOf_0 rfl rfl (Eq.refl 1) ?_
  refine Tr.getf dX10_sumOf_1 fX10_222 rfl rfl (Eq.refl 4) ?_
  refine Tr.bipush (v := nI 15) dX10_sumOf_4 (by decide +kernel) (Eq.refl 6) ?_
  refine Tr.iload_n (i := 1) dX10_sumOf_6 rfl rfl (Eq.refl 7) ?_
  refine Tr.iaddN dX10_sumOf_7 (Eq.refl 8) ?_
  refine Tr.ialdN dX10_sumOf_8 rfl (by omega) (by decide) (Eq.refl 9) ?_
  refine Tr.top (rd_al (by omega)) ?_
  refine Tr.istore_n (i := 2) dX10_sumOf_9 rfl rfl rfl (Eq.refl 10) ?_
  refine Tr.aload_n (i := 0) dX10_sumOf_10 rfl rfl (Eq.refl 11) ?_
  refine Tr.iconst (v := nI 4) dX10_sumOf_11 (icN 4) (Eq.refl 12) ?_
  refine Tr.callVs (m_goTrial E ad r i V o lg ll W B g bp G S P L a 4 hV hS hP (by decide) ht) dX10_sumOf_12 (kX10_399 (Nat.le_of_ble_eq_true rfl)) iX10_goTrial rfl rfl rfl rfl rfl (mt_le) rfl rfl (Eq.refl 15) ?_
  refine Tr.aload_n (i := 0) dX10_sumOf_15 rfl rfl (Eq.refl 16) ?_
  refine Tr.getf dX10_sumOf_16 fX10_222 rfl rfl (Eq.refl 19) ?_
  refine Tr.bipush (v := nI 15) dX10_sumOf_19 (by decide +kernel) (Eq.refl 21) ?_
  refine Tr.iload_n (i := 1) dX10_sumOf_21 rfl rfl (Eq.refl 22) ?_
  refine Tr.iaddN dX10_sumOf_22 (Eq.refl 23) ?_
  refine Tr.ialdN dX10_sumOf_23 rfl (by omega) (by decide) (Eq.refl 24) ?_
  refine Tr.top (rd_al (by omega)) ?_
  refine Tr.iload_n (i := 2) dX10_sumOf_24 rfl rfl (Eq.refl 25) ?_
  refine Tr.isub dX10_sumOf_25 (Eq.refl 26) ?_
  refine Tr.iret dX10_sumOf_26 rfl (by first | rfl | exact bI_nar _) ?_ ?_
  · rfl
  · rfl
set_option maxHeartbeats 4000000 in
set_option maxRecDepth 100000 in
theorem m_sumNow (E : EnvT) (ad r : Nat → Nat) (i : Nat → Int32) (V : Vil) (o : Ovr) (lg ll : Int32) (W : Nat → Nat) (B f g : Nat → Int32) (bp : Nat → Nat) (G : Nat → Int32) (S : Scn) (P : Nat → Nat) (L : Nat → Int32) (a : Nat) (p : Nat) (hV : Vok V) (hS : Sle V S) (hP : Pok V P) (ht : psS S < 2 ^ 29) (hp : p < npV V) : Md E mX10_sumNow ad [.ref (ad 0), .int (nI p)] (mtC E ad r i V o lg ll W B f (rwF S P L a) bp G) (some (.int (smR V o P L (S, W, B) p))) (mtC E ad r i V o lg ll (mgF V o P L (S, W, B) 4).2.1 (mgF V o P L (S, W, B) 4).2.2 (rwF (mgF V o P L (S, W, B) 4).1 P L a) (rwF S P L a) bp G) := by
  refine Md.of 0 (by decide) rfl rfl ?_
  refine Tr.aload_n (i := 0) dX10_sumNow_0 rfl rfl (Eq.refl 1) ?_
  refine Tr.callVs (m_copyNow E ad r i V o lg ll W B f (rwF S P L a) bp G) dX10_sumNow_1 (kX10_402 (Nat.le_of_ble_eq_true rfl)) iX10_copyNow rfl rfl rfl rfl rfl (mt_le) rfl rfl (Eq.refl 4) ?_
  refine Tr.aload_n (i := 0) dX10_sumNow_4 rfl rfl (Eq.refl 5) ?_
  refine Tr.iload_n (i := 1) dX10_sumNow_5 rfl rfl (Eq.refl 6) ?_
  refine Tr.callVs (m_sumOf E ad r i V o lg ll W B (rwF S P L a) bp G S P L a p hV hS hP ht hp) dX10_sumNow_6 (kX10_405 (Nat.le_of_ble_eq_true rfl)) iX10_sumOf rfl rfl rfl rfl rfl (mt_le) rfl rfl (Eq.refl 9) ?_
  refine Tr.iret dX10_sumNow_9 rfl (by first | rfl | exact bI_nar _) ?_ ?_
  · rfl
  · rfl
