/-! THE REFERENCE: quarters pass, what is asked of them -/
theorem sw_e {x : Int32} {k : Nat} (hk : k < 2 ^ 31) (h : x.toInt = (k : Int)) : x = nI k := Int32.toInt_inj.mp (by rw [nI_toInt hk]; exact h)
theorem sw_ne {x : Int32} {k : Nat} (hk : k < 2 ^ 31) (h : ¬ x = nI k) : ¬ (k : Int) = x.toInt := fun z9 => h (sw_e hk z9.symm)
theorem skF_ok {V : Vil} {t a : Nat} {W : Nat → Nat} (h : Wok V W) : ∀ n, Wok V (skF V t a W n).2 := by
  intro n
  induction n with
  | zero => exact h
  | succ n ih =>
    show Wok V (skStep V t (skF V t a W n) n).2
    unfold skStep
    split
    · intro p hp
      show upN _ n _ p < _ ∨ upN _ n _ p = 5
      by_cases e : p = n
      · rw [e, upN_self]
        split
        · rename_i h9; exact Or.inl h9
        · exact Or.inr rfl
      · rw [upN_ne _ _ e]; exact ih p hp
    · exact ih
theorem pqF_ok {V : Vil} {P : Nat → Nat} (h : Pok V P) (t a : Nat) (W : Nat → Nat) : Wok V (pqF V P t a W).2 := by
  unfold pqF
  split
  · exact skF_ok (fwF_ok h _ _) _
  · exact fwF_ok h _ _
/-- quarters that pass: scene, chance, wishes, leaves -/
def paF (V : Vil) (o : Ovr) (P : Nat → Nat) (L : Nat → Int32) (q : Scn × Nat × (Nat → Nat) × (Nat → Int32)) : Nat → Scn × Nat × (Nat → Nat) × (Nat → Int32)
  | 0 => q
  | n + 1 => (gon (ovr V o) L (pqF V P (psS (paF V o P L q n).1) (paF V o P L q n).2.1 (paF V o P L q n).2.2.1).2 (paF V o P L q n).1, (pqF V P (psS (paF V o P L q n).1) (paF V o P L q n).2.1 (paF V o P L q n).2.2.1).1, (pqF V P (psS (paF V o P L q n).1) (paF V o P L q n).2.1 (paF V o P L q n).2.2.1).2, lbF (pqF V P (psS (paF V o P L q n).1) (paF V o P L q n).2.1 (paF V o P L q n).2.2.1).2 (paF V o P L q n).1 (paF V o P L q n).2.2.2 (npV V))
theorem paF_ok {V : Vil} {o : Ovr} {P : Nat → Nat} {L : Nat → Int32} {q : Scn × Nat × (Nat → Nat) × (Nat → Int32)} (hV : Vok V) (hP : Pok V P) (h : Sle V q.1) (ha : q.2.1 < 2 ^ 31) : ∀ n, Sle V (paF V o P L q n).1 ∧ (paF V o P L q n).2.1 < 2 ^ 31 ∧ psS (paF V o P L q n).1 = psS q.1 + n := by
  intro n
  induction n with
  | zero => exact ⟨h, ha, rfl⟩
  | succ n ih =>
    obtain ⟨i1, i2, i3⟩ := ih
    refine ⟨gon_le (V := ovr V o) i1 ((pqF_ok hP _ _ _).le hV), pqF_lt i2, ?_⟩
    show psS (gon _ _ _ _) = _
    rw [gon_ps, i3]
    omega
set_option maxHeartbeats 4000000 in
set_option maxRecDepth 100000 in
theorem m_pass (E : EnvT) (ad r : Nat → Nat) (i : Nat → Int32) (V : Vil) (w : Int32) (l : Bool) (lg ll : Int32) (W : Nat → Nat) (B f : Nat → Int32) (bp : Nat → Nat) (G : Nat → Int32) (S : Scn) (P : Nat → Nat) (L : Nat → Int32) (a : Nat) (x : Int32) (hV : Vok V) (hS : Sle V S) (hP : Pok V P) (ht : psS S < 2 ^ 29) (ha : a < 2 ^ 31) : Md E mX10_pass ad [.ref (ad 0), .int x] (mtJ E ad r i V (w, l, lg, ll, W, B, f, bp, G) (rwF S P L a)) (some (.int (if rgB x (nI 0) (nI 400) then nI (psS (paF V (-1, -1, w, -1, false, l) P L (S, a, W, B) (nN x)).1) else -2))) (if rgB x (nI 0) (nI 400) then (mtJ E ad r i V (w, l, lg, ll, (paF V (-1, -1, w, -1, false, l) P L (S, a, W, B) (nN x)).2.2.1, (paF V (-1, -1, w, -1, false, l) P L (S, a, W, B) (nN x)).2.2.2, f, bp, G) (rwF (paF V (-1, -1, w, -1, false, l) P L (S, a, W, B) (nN x)).1 P L (paF V (-1, -1, w, -1, false, l) P L (S, a, W, B) (nN x)).2.1)) else (mtJ E ad r i V (w, l, lg, ll, W, B, f, bp, G) (rwF S P L a))) := by
  by_cases hc : rgB x (nI 0) (nI 400) = true
  · rw [if_pos hc, if_pos hc]
    obtain ⟨n, -, hn, rfl⟩ := rgB_n (by decide) (by decide) hc
    rw [nN_n (by omega)]
    show Md E _ ad _ (mtC E ad r i V (-1, -1, w, -1, false, l) lg ll W B f (rwF S P L a) bp G) _ (mtC E ad r i V (-1, -1, w, -1, false, l) lg ll (paF V (-1, -1, w, -1, false, l) P L (S, a, W, B) n).2.2.1 (paF V (-1, -1, w, -1, false, l) P L (S, a, W, B) n).2.2.2 f (rwF (paF V (-1, -1, w, -1, false, l) P L (S, a, W, B) n).1 P L (paF V (-1, -1, w, -1, false, l) P L (S, a, W, B) n).2.1) bp G)
    refine Md.of 1 (by decide) rfl rfl ?_
    refine Tr.iload_n (i := 1) dX10_pass_0 rfl rfl (Eq.refl 1) ?_
    refine Tr.i2l dX10_pass_1 rfl (Eq.refl 2) ?_
    refine Tr.lconst (v := 0) dX10_pass_2 (by decide +kernel) (Eq.refl 3) ?_
    refine Tr.ldc2 dX10_pass_3 qX10_384 (Eq.refl 6) ?_
    refine Tr.callSr (L := []) (m_in E _ (nI n).toInt64 0 400) dX10_pass_6 (kX10_52 (Nat.le_of_ble_eq_true rfl)) sX10_in rfl rfl rfl rfl rfl rfl rfl (Eq.refl 9) ?_
    rw [in32' (nI n) (a := nI 0) (b := nI 400) (by decide) (by decide)]
    refine Tr.if_neB (tgt := 15) dX10_pass_9 (by decide) (Eq.refl 12) (fun h9 => ?_) (fun h9 => ?_)
    · refine Tr.iconst (v := nI 0) dX10_pass_15 (icN 0) (Eq.refl 16) ?_
      refine Tr.istore_n (i := 2) dX10_pass_16 rfl rfl rfl (Eq.refl 17) ?_
      skip
      refine Tr.mask [true, true, true] (lv' := [some (.ref (ad 0)), some (.int (nI n)), some (.int (nI 0))]) rfl ?_
      refine Tr.pic (w' := (mtC E ad r i V (-1, -1, w, -1, false, l) lg ll (paF V (-1, -1, w, -1, false, l) P L (S, a, W, B) 0).2.2.1 (paF V (-1, -1, w, -1, false, l) P L (S, a, W, B) 0).2.2.2 f (rwF (paF V (-1, -1, w, -1, false, l) P L (S, a, W, B) 0).1 P L (paF V (-1, -1, w, -1, false, l) P L (S, a, W, B) 0).2.1) bp G)) rfl ?_
      refine loopD (P := fun j => Tr _ 0 0 17 [some (.ref (ad 0)), some (.int (nI n)), some (.int (nI j))] [] (mtC E ad r i V (-1, -1, w, -1, false, l) lg ll (paF V (-1, -1, w, -1, false, l) P L (S, a, W, B) j).2.2.1 (paF V (-1, -1, w, -1, false, l) P L (S, a, W, B) j).2.2.2 f (rwF (paF V (-1, -1, w, -1, false, l) P L (S, a, W, B) j).1 P L (paF V (-1, -1, w, -1, false, l) P L (S, a, W, B) j).2.1) bp G)) n ?_ (fun j hj ih => ?_)
      · refine Tr.iload_n (i := 2) dX10_pass_17 rfl rfl (Eq.refl 18) ?_
        refine Tr.iload_n (i := 1) dX10_pass_18 rfl rfl (Eq.refl 19) ?_
        refine Tr.icmp_geN (tgt := 52) dX10_pass_19 (by decide) (Eq.refl 22) (by omega) (by omega) (fun h19 => ?_) (fun h19 => ?_)
        · refine Tr.aload_n (i := 0) dX10_pass_52 rfl rfl (Eq.refl 53) ?_
          refine Tr.getf dX10_pass_53 fX10_219 rfl rfl (Eq.refl 56) ?_
          refine Tr.bipush (v := nI 55) dX10_pass_56 (by decide +kernel) (Eq.refl 58) ?_
          refine Tr.ialdN dX10_pass_58 rfl (by omega) (by decide) (Eq.refl 59) ?_
          refine Tr.top (rd_ps) ?_
          refine Tr.iret dX10_pass_59 rfl (by first | rfl | exact bI_nar _) ?_ ?_
          · rfl
          · rfl
        · exact absurd h19 (by omega)
      · have hok := paF_ok (o := (-1, -1, w, -1, false, l)) (L := L) (q := (S, a, W, B)) hV hP hS ha j
        have hu : (paF V (-1, -1, w, -1, false, l) P L (S, a, W, B) (j + 1)) = (gon (ovr V (-1, -1, w, -1, false, l)) L (pqF V P (psS (paF V (-1, -1, w, -1, false, l) P L (S, a, W, B) j).1) (paF V (-1, -1, w, -1, false, l) P L (S, a, W, B) j).2.1 (paF V (-1, -1, w, -1, false, l) P L (S, a, W, B) j).2.2.1).2 (paF V (-1, -1, w, -1, false, l) P L (S, a, W, B) j).1, (pqF V P (psS (paF V (-1, -1, w, -1, false, l) P L (S, a, W, B) j).1) (paF V (-1, -1, w, -1, false, l) P L (S, a, W, B) j).2.1 (paF V (-1, -1, w, -1, false, l) P L (S, a, W, B) j).2.2.1).1, (pqF V P (psS (paF V (-1, -1, w, -1, false, l) P L (S, a, W, B) j).1) (paF V (-1, -1, w, -1, false, l) P L (S, a, W, B) j).2.1 (paF V (-1, -1, w, -1, false, l) P L (S, a, W, B) j).2.2.1).2, lbF (pqF V P (psS (paF V (-1, -1, w, -1, false, l) P L (S, a, W, B) j).1) (paF V (-1, -1, w, -1, false, l) P L (S, a, W, B) j).2.1 (paF V (-1, -1, w, -1, false, l) P L (S, a, W, B) j).2.2.1).2 (paF V (-1, -1, w, -1, false, l) P L (S, a, W, B) j).1 (paF V (-1, -1, w, -1, false, l) P L (S, a, W, B) j).2.2.2 (npV V)) := rfl
        rw [hu] at ih
        clear hu
        generalize (paF V (-1, -1, w, -1, false, l) P L (S, a, W, B) j) = q at *
        obtain ⟨S1, a1, W1, B1⟩ := q
        obtain ⟨k1, k2, k3⟩ := hok
        have k1 : Sle V S1 := k1
        have k2 : a1 < 2 ^ 31 := k2
        have k3 : psS S1 = psS S + j := k3
        have k4 := pqF_ok hP (psS S1) a1 W1
        have hq : pqF V P (psS S1) a1 W1 = if nI 0 < ruV V 5 then skF V (psS S1) a1 (fwF V P (psS S1) W1 (npV V)) (npV V) else (a1, fwF V P (psS S1) W1 (npV V)) := rfl
        show Tr _ 0 0 17 _ _ (mtC E ad r i V (-1, -1, w, -1, false, l) lg ll W1 B1 f (rwF S1 P L a1) bp G)
        refine Tr.iload_n (i := 2) dX10_pass_17 rfl rfl (Eq.refl 18) ?_
        refine Tr.iload_n (i := 1) dX10_pass_18 rfl rfl (Eq.refl 19) ?_
        refine Tr.icmp_geN (tgt := 52) dX10_pass_19 (by decide) (Eq.refl 22) (by omega) (by omega) (fun h19 => ?_) (fun h19 => ?_)
        · exact absurd h19 (by omega)
        · refine Tr.aload_n (i := 0) dX10_pass_22 rfl rfl (Eq.refl 23) ?_
          refine Tr.aload_n (i := 0) dX10_pass_23 rfl rfl (Eq.refl 24) ?_
          refine Tr.getf dX10_pass_24 fX10_219 rfl rfl (Eq.refl 27) ?_
          refine Tr.callV (L := [0, 1, 2, 3, 4, 5, 6, 7, 8, 10]) (m_planWishes E _ (rT ad r) (iT lg ll i) V (-1, -1, w, -1, false, l) W1 B1 S1 P L a1 hV (by omega)) dX10_pass_27 (kX10_386 (Nat.le_of_ble_eq_true rfl)) iX10_planWishes rfl rfl rfl rfl rfl rfl rfl rfl rfl rfl (Eq.refl 30) ?_
          refine Tr.pic (w' := mtC E ad r i V (-1, -1, w, -1, false, l) lg ll (fwF V P (psS S1) W1 (npV V)) B1 f (rwF S1 P L a1) bp G) (putB_eq (Lc := [9, 11, 12]) 13 rfl rfl rfl rfl ⟨⟨_, rfl, rfl⟩, ⟨_, rfl, rfl⟩, ⟨_, rfl, rfl⟩, trivial⟩ (by decide) rfl) ?_
          refine Tr.aload_n (i := 0) dX10_pass_30 rfl rfl (Eq.refl 31) ?_
          refine Tr.aload_n (i := 0) dX10_pass_31 rfl rfl (Eq.refl 32) ?_
          refine Tr.getf dX10_pass_32 fX10_219 rfl rfl (Eq.refl 35) ?_
          refine Tr.callV (L := [0, 1, 2, 3, 4, 5, 6, 7, 8, 10]) (m_strolls E _ (rT ad r) (iT lg ll i) V (-1, -1, w, -1, false, l) (fwF V P (psS S1) W1 (npV V)) B1 S1 P L a1 hV (by omega) k2) dX10_pass_35 (kX10_389 (Nat.le_of_ble_eq_true rfl)) iX10_strolls rfl rfl rfl rfl rfl rfl rfl rfl rfl rfl (Eq.refl 38) ?_
          refine Tr.pic (w' := mtC E ad r i V (-1, -1, w, -1, false, l) lg ll (if nI 0 < ruV V 5 then skF V (psS S1) a1 (fwF V P (psS S1) W1 (npV V)) (npV V) else (a1, fwF V P (psS S1) W1 (npV V))).2 B1 f (rwF S1 P L (if nI 0 < ruV V 5 then skF V (psS S1) a1 (fwF V P (psS S1) W1 (npV V)) (npV V) else (a1, fwF V P (psS S1) W1 (npV V))).1) bp G) (putB_eq (Lc := [9, 11, 12]) 13 rfl rfl rfl rfl ⟨⟨_, rfl, rfl⟩, ⟨_, rfl, rfl⟩, ⟨_, rfl, rfl⟩, trivial⟩ (by decide) rfl) ?_
          rw [← hq]
          clear hq
          generalize pqF V P (psS S1) a1 W1 = q2 at *
          refine Tr.aload_n (i := 0) dX10_pass_38 rfl rfl (Eq.refl 39) ?_
          refine Tr.aload_n (i := 0) dX10_pass_39 rfl rfl (Eq.refl 40) ?_
          refine Tr.getf dX10_pass_40 fX10_219 rfl rfl (Eq.refl 43) ?_
          refine Tr.callV (L := [0, 1, 2, 3, 4, 5, 6, 7, 8, 10]) (m_goQuarter E _ (rT ad r) (iT lg ll i) V (-1, -1, w, -1, false, l) q2.2 B1 S1 P L q2.1 hV k1 k4 (by omega)) dX10_pass_43 (kX10_392 (Nat.le_of_ble_eq_true rfl)) iX10_goQuarter rfl rfl rfl rfl rfl rfl rfl rfl rfl rfl (Eq.refl 46) ?_
          refine Tr.pic (w' := mtC E ad r i V (-1, -1, w, -1, false, l) lg ll q2.2 (lbF q2.2 S1 B1 (npV V)) f (rwF (gon (ovr V (-1, -1, w, -1, false, l)) L q2.2 S1) P L q2.1) bp G) (putB_eq (Lc := [9, 11, 12]) 13 rfl rfl rfl rfl ⟨⟨_, rfl, rfl⟩, ⟨_, rfl, rfl⟩, ⟨_, rfl, rfl⟩, trivial⟩ (by decide) rfl) ?_
          refine Tr.iincN dX10_pass_46 rfl rfl rfl (Eq.refl 49) ?_
          refine Tr.goto (pc' := 17) dX10_pass_49 (by decide) ?_
          exact Tr.eqs rfl rfl rfl ih
    · exact absurd (hc.symm.trans h9) (by decide)
  · rw [if_neg hc, if_neg hc]
    show Md E _ ad _ (mtC E ad r i V (-1, -1, w, -1, false, l) lg ll W B f (rwF S P L a) bp G) _ (mtC E ad r i V (-1, -1, w, -1, false, l) lg ll W B f (rwF S P L a) bp G)
    refine Md.of 1 (by decide) rfl rfl ?_
    refine Tr.iload_n (i := 1) dX10_pass_0 rfl rfl (Eq.refl 1) ?_
    refine Tr.i2l dX10_pass_1 rfl (Eq.refl 2) ?_
    refine Tr.lconst (v := 0) dX10_pass_2 (by decide +kernel) (Eq.refl 3) ?_
    refine Tr.ldc2 dX10_pass_3 qX10_384 (Eq.refl 6) ?_
    refine Tr.callSr (L := []) (m_in E _ x.toInt64 0 400) dX10_pass_6 (kX10_52 (Nat.le_of_ble_eq_true rfl)) sX10_in rfl rfl rfl rfl rfl rfl rfl (Eq.refl 9) ?_
    rw [in32' x (a := nI 0) (b := nI 400) (by decide) (by decide)]
    refine Tr.if_neB (tgt := 15) dX10_pass_9 (by decide) (Eq.refl 12) (fun h9 => ?_) (fun h9 => ?_)
    · exact absurd h9 hc
    · refine Tr.bipush (v := (-2)) dX10_pass_12 (by decide +kernel) (Eq.refl 14) ?_
      refine Tr.iret dX10_pass_14 rfl (by first | rfl | exact bI_nar _) ?_ ?_
      · rfl
      · rfl
set_option maxHeartbeats 4000000 in
set_option maxRecDepth 100000 in
theorem m_who (E : EnvT) (ad r : Nat → Nat) (i : Nat → Int32) (V : Vil) (w : Int32) (l : Bool) (lg ll : Int32) (W : Nat → Nat) (B f : Nat → Int32) (bp : Nat → Nat) (G : Nat → Int32) (S : Scn) (P : Nat → Nat) (L : Nat → Int32) (a : Nat) (x y : Int32) (hV : Vok V) (hS : Sle V S) (hP : Pok V P) (ht : psS S < 2 ^ 29) : Md E mX10_who ad [.ref (ad 0), .int x, .int y] (mtJ E ad r i V (w, l, lg, ll, W, B, f, bp, G) (rwF S P L a)) (some (.int (if ixB x (npV V) then (if y = nI 0 then cl (whS S (nN x)) else if y = nI 1 then sdS S (nN x) else if y = nI 2 then ltS S (nN x) else if y = nI 3 then alS S (nN x) else -1000000) else -1000000))) (mtJ E ad r i V (w, l, lg, ll, W, B, f, bp, G) (rwF S P L a)) := by
  have v2 := hV.2.1
  by_cases hc : ixB x (npV V) = true
  · rw [if_pos hc]
    obtain ⟨p, hp, rfl⟩ := ixB_n v2 hc
    rw [nN_n (by omega)]
    show Md E _ ad _ (mtC E ad r i V (-1, -1, w, -1, false, l) lg ll W B f (rwF S P L a) bp G) _ (mtC E ad r i V (-1, -1, w, -1, false, l) lg ll W B f (rwF S P L a) bp G)
    have hw := hS p hp
    refine Md.of 0 (by decide) rfl rfl ?_
    refine Tr.aload_n (i := 0) dX10_who_0 rfl rfl (Eq.refl 1) ?_
    refine Tr.iload_n (i := 1) dX10_who_1 rfl rfl (Eq.refl 2) ?_
    refine Tr.callVr (L := [0]) (m_isPerson E _ (rP ad r) (iP V (-1, -1, w, -1, false, l) lg ll i) (nhV V) (npV V) (nI p) v2) dX10_who_2 (kX10_309 (Nat.le_of_ble_eq_true rfl)) iX10_isPerson rfl rfl rfl rfl rfl rfl rfl rfl rfl (Eq.refl 5) ?_
    refine Tr.if_neB (tgt := 12) dX10_who_5 (by decide) (Eq.refl 8) (fun h5 => ?_) (fun h5 => ?_)
    · refine Tr.iload_n (i := 2) dX10_who_12 rfl rfl (Eq.refl 13) ?_
      by_cases h13_0 : y = nI 0
      · refine Tr.tsIn (off := 31) (tgt := 44) dX10_who_13 (by rw [h13_0]; decide) (by rw [h13_0]; decide) (by rw [h13_0]; rfl) (by decide) ?_
        rw [if_pos h13_0]
        refine Tr.aload_n (i := 0) dX10_who_44 rfl rfl (Eq.refl 45) ?_
        refine Tr.getf dX10_who_45 fX10_219 rfl rfl (Eq.refl 48) ?_
        refine Tr.iconst (v := nI 0) dX10_who_48 (icN 0) (Eq.refl 49) ?_
        refine Tr.iload_n (i := 1) dX10_who_49 rfl rfl (Eq.refl 50) ?_
        refine Tr.iaddN dX10_who_50 (Eq.refl 51) ?_
        refine Tr.ialdN dX10_who_51 rfl (by omega) (by decide) (Eq.refl 52) ?_
        refine Tr.top (rd_wh (by omega)) ?_
        refine Tr.callSr (L := []) (m_told0 E _ (whS S p) hw) dX10_who_52 (kX10_379 (Nat.le_of_ble_eq_true rfl)) sX10_told0 rfl rfl rfl rfl rfl rfl rfl (Eq.refl 55) ?_
        refine Tr.iret dX10_who_55 rfl (by first | rfl | exact bI_nar _) ?_ ?_
        · rfl
        · rfl
      by_cases h13_1 : y = nI 1
      · refine Tr.tsIn (off := 43) (tgt := 56) dX10_who_13 (by rw [h13_1]; decide) (by rw [h13_1]; decide) (by rw [h13_1]; rfl) (by decide) ?_
        rw [if_neg h13_0, if_pos h13_1]
        refine Tr.aload_n (i := 0) dX10_who_56 rfl rfl (Eq.refl 57) ?_
        refine Tr.getf dX10_who_57 fX10_219 rfl rfl (Eq.refl 60) ?_
        refine Tr.iconst (v := nI 5) dX10_who_60 (icN 5) (Eq.refl 61) ?_
        refine Tr.iload_n (i := 1) dX10_who_61 rfl rfl (Eq.refl 62) ?_
        refine Tr.iaddN dX10_who_62 (Eq.refl 63) ?_
        refine Tr.ialdN dX10_who_63 rfl (by omega) (by decide) (Eq.refl 64) ?_
        refine Tr.top (rd_sd (by omega)) ?_
        refine Tr.iret dX10_who_64 rfl (by first | rfl | exact bI_nar _) ?_ ?_
        · rfl
        · rfl
      by_cases h13_2 : y = nI 2
      · refine Tr.tsIn (off := 52) (tgt := 65) dX10_who_13 (by rw [h13_2]; decide) (by rw [h13_2]; decide) (by rw [h13_2]; rfl) (by decide) ?_
        rw [if_neg h13_0, if_neg h13_1, if_pos h13_2]
        refine Tr.aload_n (i := 0) dX10_who_65 rfl rfl (Eq.refl 66) ?_
        refine Tr.getf dX10_who_66 fX10_219 rfl rfl (Eq.refl 69) ?_
        refine Tr.bipush (v := nI 10) dX10_who_69 (by decide +kernel) (Eq.refl 71) ?_
        refine Tr.iload_n (i := 1) dX10_who_71 rfl rfl (Eq.refl 72) ?_
        refine Tr.iaddN dX10_who_72 (Eq.refl 73) ?_
        refine Tr.ialdN dX10_who_73 rfl (by omega) (by decide) (Eq.refl 74) ?_
        refine Tr.top (rd_lt (by omega)) ?_
        refine Tr.iret dX10_who_74 rfl (by first | rfl | exact bI_nar _) ?_ ?_
        · rfl
        · rfl
      by_cases h13_3 : y = nI 3
      · refine Tr.tsIn (off := 62) (tgt := 75) dX10_who_13 (by rw [h13_3]; decide) (by rw [h13_3]; decide) (by rw [h13_3]; rfl) (by decide) ?_
        rw [if_neg h13_0, if_neg h13_1, if_neg h13_2, if_pos h13_3]
        refine Tr.aload_n (i := 0) dX10_who_75 rfl rfl (Eq.refl 76) ?_
        refine Tr.getf dX10_who_76 fX10_219 rfl rfl (Eq.refl 79) ?_
        refine Tr.bipush (v := nI 15) dX10_who_79 (by decide +kernel) (Eq.refl 81) ?_
        refine Tr.iload_n (i := 1) dX10_who_81 rfl rfl (Eq.refl 82) ?_
        refine Tr.iaddN dX10_who_82 (Eq.refl 83) ?_
        refine Tr.ialdN dX10_who_83 rfl (by omega) (by decide) (Eq.refl 84) ?_
        refine Tr.top (rd_al (by omega)) ?_
        refine Tr.iret dX10_who_84 rfl (by first | rfl | exact bI_nar _) ?_ ?_
        · rfl
        · rfl
      refine Tr.tsOut (tgt := 85) dX10_who_13 (by by_cases hA : (y).toInt < 0 ∨ 3 < (y).toInt; exact hA; exfalso; rcases (show (y).toInt = 0 ∨ (y).toInt = 1 ∨ (y).toInt = 2 ∨ (y).toInt = 3 by omega) with hB | hB | hB | hB; exact h13_0 (sw_e (k := 0) (by decide) hB); exact h13_1 (sw_e (k := 1) (by decide) hB); exact h13_2 (sw_e (k := 2) (by decide) hB); exact h13_3 (sw_e (k := 3) (by decide) hB)) (by decide) ?_
      rw [if_neg h13_0, if_neg h13_1, if_neg h13_2, if_neg h13_3]
      refine Tr.ldcw dX10_who_85 qX10_395 (Eq.refl 88) ?_
      refine Tr.iret dX10_who_88 rfl (by first | rfl | exact bI_nar _) ?_ ?_
      · rfl
      · rfl
    · exact absurd (hc.symm.trans h5) (by decide)
  · rw [if_neg hc]
    show Md E _ ad _ (mtC E ad r i V (-1, -1, w, -1, false, l) lg ll W B f (rwF S P L a) bp G) _ (mtC E ad r i V (-1, -1, w, -1, false, l) lg ll W B f (rwF S P L a) bp G)
    refine Md.of 0 (by decide) rfl rfl ?_
    refine Tr.aload_n (i := 0) dX10_who_0 rfl rfl (Eq.refl 1) ?_
    refine Tr.iload_n (i := 1) dX10_who_1 rfl rfl (Eq.refl 2) ?_
    refine Tr.callVr (L := [0]) (m_isPerson E _ (rP ad r) (iP V (-1, -1, w, -1, false, l) lg ll i) (nhV V) (npV V) x v2) dX10_who_2 (kX10_309 (Nat.le_of_ble_eq_true rfl)) iX10_isPerson rfl rfl rfl rfl rfl rfl rfl rfl rfl (Eq.refl 5) ?_
    refine Tr.if_neB (tgt := 12) dX10_who_5 (by decide) (Eq.refl 8) (fun h5 => ?_) (fun h5 => ?_)
    · exact absurd h5 hc
    · refine Tr.ldcw dX10_who_8 qX10_395 (Eq.refl 11) ?_
      refine Tr.iret dX10_who_11 rfl (by first | rfl | exact bI_nar _) ?_ ?_
      · rfl
      · rfl
set_option maxHeartbeats 4000000 in
set_option maxRecDepth 100000 in
theorem m_house (E : EnvT) (ad r : Nat → Nat) (i : Nat → Int32) (V : Vil) (w : Int32) (l : Bool) (lg ll : Int32) (W : Nat → Nat) (B f : Nat → Int32) (bp : Nat → Nat) (G : Nat → Int32) (S : Scn) (P : Nat → Nat) (L : Nat → Int32) (a : Nat) (x y : Int32) (hV : Vok V) (hS : Sle V S) (hP : Pok V P) (ht : psS S < 2 ^ 29) : Md E mX10_house ad [.ref (ad 0), .int x, .int y] (mtJ E ad r i V (w, l, lg, ll, W, B, f, bp, G) (rwF S P L a)) (some (.int (if ixB x (nhV V) then (if y = nI 0 then cl (hav (ovr V (-1, -1, w, -1, false, l)) S (nN x)) else if y = nI 1 then soS S (nN x) else if y = nI 2 then stS S (nN x) else if y = nI 3 then nI (gue V S (nN x)) else -2) else -2))) (mtJ E ad r i V (w, l, lg, ll, W, B, f, bp, G) (rwF S P L a)) := by
  have v1 := hV.1
  by_cases hc : ixB x (nhV V) = true
  · rw [if_pos hc]
    obtain ⟨h, hh, rfl⟩ := ixB_n v1 hc
    rw [nN_n (by omega)]
    show Md E _ ad _ (mtC E ad r i V (-1, -1, w, -1, false, l) lg ll W B f (rwF S P L a) bp G) _ (mtC E ad r i V (-1, -1, w, -1, false, l) lg ll W B f (rwF S P L a) bp G)
    refine Md.of 0 (by decide) rfl rfl ?_
    refine Tr.aload_n (i := 0) dX10_house_0 rfl rfl (Eq.refl 1) ?_
    refine Tr.iload_n (i := 1) dX10_house_1 rfl rfl (Eq.refl 2) ?_
    refine Tr.callVr (L := [0]) (m_isHouse E _ (rP ad r) (iP V (-1, -1, w, -1, false, l) lg ll i) (nhV V) (npV V) (nI h) v1) dX10_house_2 (kX10_371 (Nat.le_of_ble_eq_true rfl)) iX10_isHouse rfl rfl rfl rfl rfl rfl rfl rfl rfl (Eq.refl 5) ?_
    refine Tr.if_neB (tgt := 11) dX10_house_5 (by decide) (Eq.refl 8) (fun h5 => ?_) (fun h5 => ?_)
    · refine Tr.iload_n (i := 2) dX10_house_11 rfl rfl (Eq.refl 12) ?_
      by_cases h12_0 : y = nI 0
      · refine Tr.tsIn (off := 32) (tgt := 44) dX10_house_12 (by rw [h12_0]; decide) (by rw [h12_0]; decide) (by rw [h12_0]; rfl) (by decide) ?_
        rw [if_pos h12_0]
        refine Tr.aload_n (i := 0) dX10_house_44 rfl rfl (Eq.refl 45) ?_
        refine Tr.aload_n (i := 0) dX10_house_45 rfl rfl (Eq.refl 46) ?_
        refine Tr.getf dX10_house_46 fX10_219 rfl rfl (Eq.refl 49) ?_
        refine Tr.iload_n (i := 1) dX10_house_49 rfl rfl (Eq.refl 50) ?_
        refine Tr.callVr (L := [0, 1, 2, 3, 4, 5, 6, 7, 8, 10]) (m_has E _ (rT ad r) (iT lg ll i) V (-1, -1, w, -1, false, l) W B S P L a h hV hh hS) dX10_house_50 (kX10_346 (Nat.le_of_ble_eq_true rfl)) iX10_has rfl rfl rfl rfl rfl rfl rfl rfl rfl (Eq.refl 53) ?_
        refine Tr.iret dX10_house_53 rfl (by first | rfl | exact bI_nar _) ?_ ?_
        · rfl
        · rfl
      by_cases h12_1 : y = nI 1
      · refine Tr.tsIn (off := 42) (tgt := 54) dX10_house_12 (by rw [h12_1]; decide) (by rw [h12_1]; decide) (by rw [h12_1]; rfl) (by decide) ?_
        rw [if_neg h12_0, if_pos h12_1]
        refine Tr.aload_n (i := 0) dX10_house_54 rfl rfl (Eq.refl 55) ?_
        refine Tr.getf dX10_house_55 fX10_219 rfl rfl (Eq.refl 58) ?_
        refine Tr.bipush (v := nI 20) dX10_house_58 (by decide +kernel) (Eq.refl 60) ?_
        refine Tr.iload_n (i := 1) dX10_house_60 rfl rfl (Eq.refl 61) ?_
        refine Tr.iaddN dX10_house_61 (Eq.refl 62) ?_
        refine Tr.ialdN dX10_house_62 rfl (by omega) (by decide) (Eq.refl 63) ?_
        refine Tr.top (rd_so (by omega)) ?_
        refine Tr.iret dX10_house_63 rfl (by first | rfl | exact bI_nar _) ?_ ?_
        · rfl
        · rfl
      by_cases h12_2 : y = nI 2
      · refine Tr.tsIn (off := 52) (tgt := 64) dX10_house_12 (by rw [h12_2]; decide) (by rw [h12_2]; decide) (by rw [h12_2]; rfl) (by decide) ?_
        rw [if_neg h12_0, if_neg h12_1, if_pos h12_2]
        refine Tr.aload_n (i := 0) dX10_house_64 rfl rfl (Eq.refl 65) ?_
        refine Tr.getf dX10_house_65 fX10_219 rfl rfl (Eq.refl 68) ?_
        refine Tr.bipush (v := nI 25) dX10_house_68 (by decide +kernel) (Eq.refl 70) ?_
        refine Tr.iload_n (i := 1) dX10_house_70 rfl rfl (Eq.refl 71) ?_
        refine Tr.iaddN dX10_house_71 (Eq.refl 72) ?_
        refine Tr.ialdN dX10_house_72 rfl (by omega) (by decide) (Eq.refl 73) ?_
        refine Tr.top (rd_st (by omega)) ?_
        refine Tr.iret dX10_house_73 rfl (by first | rfl | exact bI_nar _) ?_ ?_
        · rfl
        · rfl
      by_cases h12_3 : y = nI 3
      · refine Tr.tsIn (off := 62) (tgt := 74) dX10_house_12 (by rw [h12_3]; decide) (by rw [h12_3]; decide) (by rw [h12_3]; rfl) (by decide) ?_
        rw [if_neg h12_0, if_neg h12_1, if_neg h12_2, if_pos h12_3]
        refine Tr.aload_n (i := 0) dX10_house_74 rfl rfl (Eq.refl 75) ?_
        refine Tr.aload_n (i := 0) dX10_house_75 rfl rfl (Eq.refl 76) ?_
        refine Tr.getf dX10_house_76 fX10_219 rfl rfl (Eq.refl 79) ?_
        refine Tr.iload_n (i := 1) dX10_house_79 rfl rfl (Eq.refl 80) ?_
        refine Tr.callVr (L := [0, 1, 2, 3, 4, 5, 6, 7, 8, 10]) (m_guests E _ (rT ad r) (iT lg ll i) V (-1, -1, w, -1, false, l) W B S P L a h hV hh hS) dX10_house_80 (kX10_349 (Nat.le_of_ble_eq_true rfl)) iX10_guests rfl rfl rfl rfl rfl rfl rfl rfl rfl (Eq.refl 83) ?_
        refine Tr.iret dX10_house_83 rfl (by first | rfl | exact bI_nar _) ?_ ?_
        · rfl
        · rfl
      refine Tr.tsOut (tgt := 84) dX10_house_12 (by by_cases hA : (y).toInt < 0 ∨ 3 < (y).toInt; exact hA; exfalso; rcases (show (y).toInt = 0 ∨ (y).toInt = 1 ∨ (y).toInt = 2 ∨ (y).toInt = 3 by omega) with hB | hB | hB | hB; exact h12_0 (sw_e (k := 0) (by decide) hB); exact h12_1 (sw_e (k := 1) (by decide) hB); exact h12_2 (sw_e (k := 2) (by decide) hB); exact h12_3 (sw_e (k := 3) (by decide) hB)) (by decide) ?_
      rw [if_neg h12_0, if_neg h12_1, if_neg h12_2, if_neg h12_3]
      refine Tr.bipush (v := (-2)) dX10_house_84 (by decide +kernel) (Eq.refl 86) ?_
      refine Tr.iret dX10_house_86 rfl (by first | rfl | exact bI_nar _) ?_ ?_
      · rfl
      · rfl
    · exact absurd (hc.symm.trans h5) (by decide)
  · rw [if_neg hc]
    show Md E _ ad _ (mtC E ad r i V (-1, -1, w, -1, false, l) lg ll W B f (rwF S P L a) bp G) _ (mtC E ad r i V (-1, -1, w, -1, false, l) lg ll W B f (rwF S P L a) bp G)
    refine Md.of 0 (by decide) rfl rfl ?_
    refine Tr.aload_n (i := 0) dX10_house_0 rfl rfl (Eq.refl 1) ?_
    refine Tr.iload_n (i := 1) dX10_house_1 rfl rfl (Eq.refl 2) ?_
    refine Tr.callVr (L := [0]) (m_isHouse E _ (rP ad r) (iP V (-1, -1, w, -1, false, l) lg ll i) (nhV V) (npV V) x v1) dX10_house_2 (kX10_371 (Nat.le_of_ble_eq_true rfl)) iX10_isHouse rfl rfl rfl rfl rfl rfl rfl rfl rfl (Eq.refl 5) ?_
    refine Tr.if_neB (tgt := 11) dX10_house_5 (by decide) (Eq.refl 8) (fun h5 => ?_) (fun h5 => ?_)
    · exact absurd h5 hc
    · refine Tr.bipush (v := (-2)) dX10_house_8 (by decide +kernel) (Eq.refl 10) ?_
      refine Tr.iret dX10_house_10 rfl (by first | rfl | exact bI_nar _) ?_ ?_
      · rfl
      · rfl
set_option maxHeartbeats 4000000 in
set_option maxRecDepth 100000 in
theorem m_word (E : EnvT) (ad r : Nat → Nat) (i : Nat → Int32) (V : Vil) (w : Int32) (l : Bool) (lg ll : Int32) (W : Nat → Nat) (B f : Nat → Int32) (bp : Nat → Nat) (G : Nat → Int32) (S : Scn) (P : Nat → Nat) (L : Nat → Int32) (a : Nat) (x : Int32) (hV : Vok V) (hS : Sle V S) (hP : Pok V P) (ht : psS S < 2 ^ 29) : Md E mX10_word ad [.ref (ad 0), .int x] (mtJ E ad r i V (w, l, lg, ll, W, B, f, bp, G) (rwF S P L a)) (some (.int (if ixB x (nhV V) then nI (wrd (ovr V (-1, -1, w, -1, false, l)) S (nN x)) else -2))) (mtJ E ad r i V (w, l, lg, ll, W, B, f, bp, G) (rwF S P L a)) := by
  have v1 := hV.1
  have v2 := hV.2.1
  by_cases hc : ixB x (nhV V) = true
  · rw [if_pos hc]
    obtain ⟨h, hh, rfl⟩ := ixB_n v1 hc
    rw [nN_n (by omega)]
    have v3 := hV.2.2.1 h hh
    have v4 := hav_lt (ovr_ok (-1, -1, w, -1, false, l) hV) S hh
    have hx : wrd (ovr V (-1, -1, w, -1, false, l)) S h = if hav (ovr V (-1, -1, w, -1, false, l)) S h = 5 then 0 else if hav (ovr V (-1, -1, w, -1, false, l)) S h = owV V h then 1 else if cnF (ovr V (-1, -1, w, -1, false, l)) S h (npV V) = 1 then 2 else if akF (ovr V (-1, -1, w, -1, false, l)) S h (hav (ovr V (-1, -1, w, -1, false, l)) S h) (npV V) = 1 then 3 else 4 := rfl
    rw [hx]
    clear hx
    have en : npV (ovr V (-1, -1, w, -1, false, l)) = npV V := rfl
    rw [en] at v4
    show Md E _ ad _ (mtC E ad r i V (-1, -1, w, -1, false, l) lg ll W B f (rwF S P L a) bp G) _ (mtC E ad r i V (-1, -1, w, -1, false, l) lg ll W B f (rwF S P L a) bp G)
    refine Md.of 4 (by decide) rfl rfl ?_
    refine Tr.aload_n (i := 0) dX10_word_0 rfl rfl (Eq.refl 1) ?_
    refine Tr.iload_n (i := 1) dX10_word_1 rfl rfl (Eq.refl 2) ?_
    refine Tr.callVr (L := [0]) (m_isHouse E _ (rP ad r) (iP V (-1, -1, w, -1, false, l) lg ll i) (nhV V) (npV V) (nI h) v1) dX10_word_2 (kX10_371 (Nat.le_of_ble_eq_true rfl)) iX10_isHouse rfl rfl rfl rfl rfl rfl rfl rfl rfl (Eq.refl 5) ?_
    refine Tr.if_neB (tgt := 11) dX10_word_5 (by decide) (Eq.refl 8) (fun h5 => ?_) (fun h5 => ?_)
    · refine Tr.aload_n (i := 0) dX10_word_11 rfl rfl (Eq.refl 12) ?_
      refine Tr.aload_n (i := 0) dX10_word_12 rfl rfl (Eq.refl 13) ?_
      refine Tr.getf dX10_word_13 fX10_219 rfl rfl (Eq.refl 16) ?_
      refine Tr.iload_n (i := 1) dX10_word_16 rfl rfl (Eq.refl 17) ?_
      refine Tr.callVr (L := [0, 1, 2, 3, 4, 5, 6, 7, 8, 10]) (m_has E _ (rT ad r) (iT lg ll i) V (-1, -1, w, -1, false, l) W B S P L a h hV hh hS) dX10_word_17 (kX10_346 (Nat.le_of_ble_eq_true rfl)) iX10_has rfl rfl rfl rfl rfl rfl rfl rfl rfl (Eq.refl 20) ?_
      refine Tr.istore_n (i := 2) dX10_word_20 rfl rfl rfl (Eq.refl 21) ?_
      refine Tr.iload_n (i := 2) dX10_word_21 rfl rfl (Eq.refl 22) ?_
      refine Tr.iconst (v := (-1)) dX10_word_22 (by decide +kernel) (Eq.refl 23) ?_
      refine Tr.icmp_ne (tgt := 28) dX10_word_23 (by decide) (Eq.refl 26) (fun h23 => ?_) (fun h23 => ?_)
      · rw [cl_none] at h23
        rw [if_neg (by omega)]
        refine Tr.iload_n (i := 2) dX10_word_28 rfl rfl (Eq.refl 29) ?_
        refine Tr.aload_n (i := 0) dX10_word_29 rfl rfl (Eq.refl 30) ?_
        refine Tr.getf dX10_word_30 fX10_209 rfl rfl (Eq.refl 33) ?_
        refine Tr.iload_n (i := 1) dX10_word_33 rfl rfl (Eq.refl 34) ?_
        refine Tr.ialdN dX10_word_34 rfl (by omega) (by decide) (Eq.refl 35) ?_
        refine Tr.icmp_ne (tgt := 40) dX10_word_35 (by decide) (Eq.refl 38) (fun h35 => ?_) (fun h35 => ?_)
        · rw [cl_inj (by omega) (by omega)] at h35
          rw [if_neg h35]
          rw [cl_lt (show hav (ovr V (-1, -1, w, -1, false, l)) S h < 5 by omega)]
          refine Tr.iconst (v := nI 0) dX10_word_40 (icN 0) (Eq.refl 41) ?_
          refine Tr.istore_n (i := 3) dX10_word_41 rfl rfl rfl (Eq.refl 42) ?_
          refine Tr.iconst (v := nI 0) dX10_word_42 (icN 0) (Eq.refl 43) ?_
          refine Tr.istore dX10_word_43 rfl rfl (Eq.refl 45) ?_
          refine Tr.iconst (v := nI 0) dX10_word_45 (icN 0) (Eq.refl 46) ?_
          refine Tr.istore dX10_word_46 rfl rfl (Eq.refl 48) ?_
          skip
          refine Tr.mask [true, true, true, true, true, true] (lv' := [some (.ref (ad 0)), some (.int (nI h)), some (.int (nI (hav (ovr V (-1, -1, w, -1, false, l)) S h))), some (.int (nI (cnF (ovr V (-1, -1, w, -1, false, l)) S h 0))), some (.int (nI (akF (ovr V (-1, -1, w, -1, false, l)) S h (hav (ovr V (-1, -1, w, -1, false, l)) S h) 0))), some (.int (nI 0))]) rfl ?_
          refine loopD (P := fun j => Tr _ 0 0 48 [some (.ref (ad 0)), some (.int (nI h)), some (.int (nI (hav (ovr V (-1, -1, w, -1, false, l)) S h))), some (.int (nI (cnF (ovr V (-1, -1, w, -1, false, l)) S h j))), some (.int (nI (akF (ovr V (-1, -1, w, -1, false, l)) S h (hav (ovr V (-1, -1, w, -1, false, l)) S h) j))), some (.int (nI j))] [] (mtC E ad r i V (-1, -1, w, -1, false, l) lg ll W B f (rwF S P L a) bp G)) (npV V) ?_ (fun j hj ih => ?_)
          · have hk1 := cnF_le (ovr V (-1, -1, w, -1, false, l)) S h (npV V)
            have hk2 := akF_le (ovr V (-1, -1, w, -1, false, l)) S h (hav (ovr V (-1, -1, w, -1, false, l)) S h) (npV V)
            refine Tr.iload dX10_word_48 rfl (Eq.refl 50) ?_
            refine Tr.aload_n (i := 0) dX10_word_50 rfl rfl (Eq.refl 51) ?_
            refine Tr.getf dX10_word_51 fX10_285 rfl rfl (Eq.refl 54) ?_
            refine Tr.icmp_geN (tgt := 129) dX10_word_54 (by decide) (Eq.refl 57) (by omega) (by omega) (fun h54 => ?_) (fun h54 => ?_)
            · refine Tr.iload_n (i := 3) dX10_word_129 rfl rfl (Eq.refl 130) ?_
              refine Tr.iconst (v := nI 1) dX10_word_130 (icN 1) (Eq.refl 131) ?_
              refine Tr.icmp_neN (tgt := 138) dX10_word_131 (by decide) (Eq.refl 134) (by omega) (by omega) (fun h131 => ?_) (fun h131 => ?_)
              · rw [if_neg h131]
                refine Tr.iload dX10_word_138 rfl (Eq.refl 140) ?_
                refine Tr.iconst (v := nI 1) dX10_word_140 (icN 1) (Eq.refl 141) ?_
                refine Tr.icmp_neN (tgt := 148) dX10_word_141 (by decide) (Eq.refl 144) (by omega) (by omega) (fun h141 => ?_) (fun h141 => ?_)
                · rw [if_neg h141]
                  refine Tr.iconst (v := nI 4) dX10_word_148 (icN 4) (Eq.refl 149) ?_
                  refine Tr.iret dX10_word_149 rfl (by first | rfl | exact bI_nar _) ?_ ?_
                  · rfl
                  · rfl
                · rw [if_pos h141]
                  refine Tr.iconst (v := nI 3) dX10_word_144 (icN 3) (Eq.refl 145) ?_
                  refine Tr.goto (pc' := 149) dX10_word_145 (by decide) ?_
                  refine Tr.iret dX10_word_149 rfl (by first | rfl | exact bI_nar _) ?_ ?_
                  · rfl
                  · rfl
              · rw [if_pos h131]
                refine Tr.iconst (v := nI 2) dX10_word_134 (icN 2) (Eq.refl 135) ?_
                refine Tr.goto (pc' := 149) dX10_word_135 (by decide) ?_
                refine Tr.iret dX10_word_149 rfl (by first | rfl | exact bI_nar _) ?_ ?_
                · rfl
                · rfl
            · exact absurd h54 (by omega)
          · have hk1 := cnF_le (ovr V (-1, -1, w, -1, false, l)) S h j
            have hk2 := akF_le (ovr V (-1, -1, w, -1, false, l)) S h (hav (ovr V (-1, -1, w, -1, false, l)) S h) j
            have hg0 : ∀ p, gst V S h p = gst (ovr V (-1, -1, w, -1, false, l)) S h p := fun _ => rfl
            refine Tr.iload dX10_word_48 rfl (Eq.refl 50) ?_
            refine Tr.aload_n (i := 0) dX10_word_50 rfl rfl (Eq.refl 51) ?_
            refine Tr.getf dX10_word_51 fX10_285 rfl rfl (Eq.refl 54) ?_
            refine Tr.icmp_geN (tgt := 129) dX10_word_54 (by decide) (Eq.refl 57) (by omega) (by omega) (fun h54 => ?_) (fun h54 => ?_)
            · exact absurd h54 (by omega)
            · refine Tr.aload_n (i := 0) dX10_word_57 rfl rfl (Eq.refl 58) ?_
              refine Tr.aload_n (i := 0) dX10_word_58 rfl rfl (Eq.refl 59) ?_
              refine Tr.getf dX10_word_59 fX10_219 rfl rfl (Eq.refl 62) ?_
              refine Tr.iload dX10_word_62 rfl (Eq.refl 64) ?_
              refine Tr.iload_n (i := 1) dX10_word_64 rfl rfl (Eq.refl 65) ?_
              refine Tr.callVr (L := [0, 1, 2, 3, 4, 5, 6, 7, 8, 10]) (m_isGuest E _ (rT ad r) (iT lg ll i) V (-1, -1, w, -1, false, l) W B S P L a j h hV hj hh hS) dX10_word_65 (kX10_321 (Nat.le_of_ble_eq_true rfl)) iX10_isGuest rfl rfl rfl rfl rfl rfl rfl rfl rfl (Eq.refl 68) ?_
              refine Tr.if_eqB (tgt := 123) dX10_word_68 (by decide) (Eq.refl 71) (fun h68 => ?_) (fun h68 => ?_)
              · rw [hg0] at h68
                refine Tr.iincN dX10_word_123 rfl rfl rfl (Eq.refl 126) ?_
                refine Tr.goto (pc' := 48) dX10_word_126 (by decide) ?_
                refine Tr.eqs ?_ rfl rfl ih
                simp [cnF, akF, cnt, *]
              · rw [hg0] at h68
                refine Tr.aload_n (i := 0) dX10_word_71 rfl rfl (Eq.refl 72) ?_
                refine Tr.getf dX10_word_72 fX10_219 rfl rfl (Eq.refl 75) ?_
                refine Tr.iconst (v := nI 5) dX10_word_75 (icN 5) (Eq.refl 76) ?_
                refine Tr.iload dX10_word_76 rfl (Eq.refl 78) ?_
                refine Tr.iaddN dX10_word_78 (Eq.refl 79) ?_
                refine Tr.ialdN dX10_word_79 rfl (by omega) (by decide) (Eq.refl 80) ?_
                refine Tr.top (rd_sd (by omega)) ?_
                refine Tr.aload_n (i := 0) dX10_word_80 rfl rfl (Eq.refl 81) ?_
                refine Tr.callVr (L := [0, 1, 2, 3, 4, 5, 6, 7, 8, 10]) (m_after E _ (rT ad r) (iT lg ll i) V (-1, -1, w, -1, false, l) W B (rwF S P L a)) dX10_word_81 (kX10_325 (Nat.le_of_ble_eq_true rfl)) iX10_after rfl rfl rfl rfl rfl rfl rfl rfl rfl (Eq.refl 84) ?_
                refine Tr.icmp_lt (tgt := 90) dX10_word_84 (by decide) (Eq.refl 87) (fun h84 => ?_) (fun h84 => ?_)
                · refine Tr.iincN dX10_word_90 rfl rfl rfl (Eq.refl 93) ?_
                  refine Tr.iload dX10_word_93 rfl (Eq.refl 95) ?_
                  refine Tr.aload_n (i := 0) dX10_word_95 rfl rfl (Eq.refl 96) ?_
                  refine Tr.getf dX10_word_96 fX10_219 rfl rfl (Eq.refl 99) ?_
                  refine Tr.iconst (v := nI 5) dX10_word_99 (icN 5) (Eq.refl 100) ?_
                  refine Tr.iload dX10_word_100 rfl (Eq.refl 102) ?_
                  refine Tr.iaddN dX10_word_102 (Eq.refl 103) ?_
                  refine Tr.ialdN dX10_word_103 rfl (by omega) (by decide) (Eq.refl 104) ?_
                  refine Tr.top (rd_sd (by omega)) ?_
                  refine Tr.aload_n (i := 0) dX10_word_104 rfl rfl (Eq.refl 105) ?_
                  refine Tr.getf dX10_word_105 fX10_219 rfl rfl (Eq.refl 108) ?_
                  refine Tr.iconst (v := nI 5) dX10_word_108 (icN 5) (Eq.refl 109) ?_
                  refine Tr.iload_n (i := 2) dX10_word_109 rfl rfl (Eq.refl 110) ?_
                  refine Tr.iaddN dX10_word_110 (Eq.refl 111) ?_
                  refine Tr.ialdN dX10_word_111 rfl (by omega) (by decide) (Eq.refl 112) ?_
                  refine Tr.top (rd_sd (by omega)) ?_
                  refine Tr.icmp_ne (tgt := 119) dX10_word_112 (by decide) (Eq.refl 115) (fun h112 => ?_) (fun h112 => ?_)
                  · refine Tr.iconst (v := nI 0) dX10_word_119 (icN 0) (Eq.refl 120) ?_
                    refine Tr.iaddN dX10_word_120 (Eq.refl 121) ?_
                    refine Tr.istore dX10_word_121 rfl rfl (Eq.refl 123) ?_
                    refine Tr.iincN dX10_word_123 rfl rfl rfl (Eq.refl 126) ?_
                    refine Tr.goto (pc' := 48) dX10_word_126 (by decide) ?_
                    refine Tr.eqs ?_ rfl rfl ih
                    simp [cnF, akF, cnt, *]
                  · have h84b := h84
                    rw [h112] at h84b
                    refine Tr.iconst (v := nI 1) dX10_word_115 (icN 1) (Eq.refl 116) ?_
                    refine Tr.goto (pc' := 120) dX10_word_116 (by decide) ?_
                    refine Tr.iaddN dX10_word_120 (Eq.refl 121) ?_
                    refine Tr.istore dX10_word_121 rfl rfl (Eq.refl 123) ?_
                    refine Tr.iincN dX10_word_123 rfl rfl rfl (Eq.refl 126) ?_
                    refine Tr.goto (pc' := 48) dX10_word_126 (by decide) ?_
                    refine Tr.eqs ?_ rfl rfl ih
                    simp [cnF, akF, cnt, *]
                · refine Tr.goto (pc' := 123) dX10_word_87 (by decide) ?_
                  refine Tr.iincN dX10_word_123 rfl rfl rfl (Eq.refl 126) ?_
                  refine Tr.goto (pc' := 48) dX10_word_126 (by decide) ?_
                  refine Tr.eqs ?_ rfl rfl ih
                  simp [cnF, akF, cnt, *]
        · rw [cl_inj (by omega) (by omega)] at h35
          rw [if_pos h35]
          refine Tr.iconst (v := nI 1) dX10_word_38 (icN 1) (Eq.refl 39) ?_
          refine Tr.iret dX10_word_39 rfl (by first | rfl | exact bI_nar _) ?_ ?_
          · rfl
          · rfl
      · rw [cl_none] at h23
        rw [if_pos (by omega)]
        refine Tr.iconst (v := nI 0) dX10_word_26 (icN 0) (Eq.refl 27) ?_
        refine Tr.iret dX10_word_27 rfl (by first | rfl | exact bI_nar _) ?_ ?_
        · rfl
        · rfl
    · exact absurd (hc.symm.trans h5) (by decide)
  · rw [if_neg hc]
    show Md E _ ad _ (mtC E ad r i V (-1, -1, w, -1, false, l) lg ll W B f (rwF S P L a) bp G) _ (mtC E ad r i V (-1, -1, w, -1, false, l) lg ll W B f (rwF S P L a) bp G)
    refine Md.of 4 (by decide) rfl rfl ?_
    refine Tr.aload_n (i := 0) dX10_word_0 rfl rfl (Eq.refl 1) ?_
    refine Tr.iload_n (i := 1) dX10_word_1 rfl rfl (Eq.refl 2) ?_
    refine Tr.callVr (L := [0]) (m_isHouse E _ (rP ad r) (iP V (-1, -1, w, -1, false, l) lg ll i) (nhV V) (npV V) x v1) dX10_word_2 (kX10_371 (Nat.le_of_ble_eq_true rfl)) iX10_isHouse rfl rfl rfl rfl rfl rfl rfl rfl rfl (Eq.refl 5) ?_
    refine Tr.if_neB (tgt := 11) dX10_word_5 (by decide) (Eq.refl 8) (fun h5 => ?_) (fun h5 => ?_)
    · exact absurd h5 hc
    · refine Tr.bipush (v := (-2)) dX10_word_8 (by decide +kernel) (Eq.refl 10) ?_
      refine Tr.iret dX10_word_10 rfl (by first | rfl | exact bI_nar _) ?_ ?_
      · rfl
      · rfl
set_option maxHeartbeats 4000000 in
set_option maxRecDepth 100000 in
theorem m_planned (E : EnvT) (ad r : Nat → Nat) (i : Nat → Int32) (V : Vil) (w : Int32) (l : Bool) (lg ll : Int32) (W : Nat → Nat) (B f : Nat → Int32) (bp : Nat → Nat) (G : Nat → Int32) (S : Scn) (P : Nat → Nat) (L : Nat → Int32) (a : Nat) (x y : Int32) (hV : Vok V) (hS : Sle V S) (hP : Pok V P) (ht : psS S < 2 ^ 29) : Md E mX10_planned ad [.ref (ad 0), .int x, .int y] (mtJ E ad r i V (w, l, lg, ll, W, B, f, bp, G) (rwF S P L a)) (some (.int (if (ixB x (npV V) && rgB y (nI 0) (nI 3)) then cl (P ((nN x) * 4 + (nN y))) else -2))) (mtJ E ad r i V (w, l, lg, ll, W, B, f, bp, G) (rwF S P L a)) := by
  have v1 := hV.1
  have v2 := hV.2.1
  by_cases hc : (ixB x (npV V) && rgB y (nI 0) (nI 3)) = true
  · rw [if_pos hc]
    have hc1 : ixB x (npV V) = true := (Bool.and_eq_true_iff.mp hc).1
    have hc2 : rgB y (nI 0) (nI 3) = true := (Bool.and_eq_true_iff.mp hc).2
    obtain ⟨p, hp, rfl⟩ := ixB_n v2 hc1
    obtain ⟨k, -, hk, rfl⟩ := rgB_n (by decide) (by decide) hc2
    rw [nN_n (show p < 2 ^ 31 by omega)]
    rw [nN_n (show k < 2 ^ 31 by omega)]
    have hpo := hP p hp k (by omega)
    show Md E _ ad _ (mtC E ad r i V (-1, -1, w, -1, false, l) lg ll W B f (rwF S P L a) bp G) _ (mtC E ad r i V (-1, -1, w, -1, false, l) lg ll W B f (rwF S P L a) bp G)
    refine Md.of 0 (by decide) rfl rfl ?_
    refine Tr.aload_n (i := 0) dX10_planned_0 rfl rfl (Eq.refl 1) ?_
    refine Tr.iload_n (i := 1) dX10_planned_1 rfl rfl (Eq.refl 2) ?_
    refine Tr.callVr (L := [0]) (m_isPerson E _ (rP ad r) (iP V (-1, -1, w, -1, false, l) lg ll i) (nhV V) (npV V) (nI p) v2) dX10_planned_2 (kX10_309 (Nat.le_of_ble_eq_true rfl)) iX10_isPerson rfl rfl rfl rfl rfl rfl rfl rfl rfl (Eq.refl 5) ?_
    refine Tr.if_eqB (tgt := 39) dX10_planned_5 (by decide) (Eq.refl 8) (fun h5 => ?_) (fun h5 => ?_)
    · exact absurd (hc1.symm.trans h5) (by decide)
    · refine Tr.iload_n (i := 2) dX10_planned_8 rfl rfl (Eq.refl 9) ?_
      refine Tr.i2l dX10_planned_9 rfl (Eq.refl 10) ?_
      refine Tr.lconst (v := 0) dX10_planned_10 (by decide +kernel) (Eq.refl 11) ?_
      refine Tr.ldc2 dX10_planned_11 qX10_377 (Eq.refl 14) ?_
      refine Tr.callSr (L := []) (m_in E _ (nI k).toInt64 0 3) dX10_planned_14 (kX10_52 (Nat.le_of_ble_eq_true rfl)) sX10_in rfl rfl rfl rfl rfl rfl rfl (Eq.refl 17) ?_
      rw [in32' (nI k) (a := nI 0) (b := nI 3) (by decide) (by decide)]
      refine Tr.if_eqB (tgt := 39) dX10_planned_17 (by decide) (Eq.refl 20) (fun h17 => ?_) (fun h17 => ?_)
      · exact absurd (hc2.symm.trans h17) (by decide)
      · refine Tr.aload_n (i := 0) dX10_planned_20 rfl rfl (Eq.refl 21) ?_
        refine Tr.getf dX10_planned_21 fX10_219 rfl rfl (Eq.refl 24) ?_
        refine Tr.bipush (v := nI 35) dX10_planned_24 (by decide +kernel) (Eq.refl 26) ?_
        refine Tr.iconst (v := nI 4) dX10_planned_26 (icN 4) (Eq.refl 27) ?_
        refine Tr.iload_n (i := 1) dX10_planned_27 rfl rfl (Eq.refl 28) ?_
        refine Tr.imulN dX10_planned_28 (Eq.refl 29) ?_
        refine Tr.iaddN dX10_planned_29 (Eq.refl 30) ?_
        refine Tr.iload_n (i := 2) dX10_planned_30 rfl rfl (Eq.refl 31) ?_
        refine Tr.iaddN dX10_planned_31 (Eq.refl 32) ?_
        refine Tr.ialdN dX10_planned_32 rfl (by omega) (by decide) (Eq.refl 33) ?_
        refine Tr.top (rd_pl' (by omega)) ?_
        refine Tr.callSr (L := []) (m_told0 E _ (P (p * 4 + k)) (by omega)) dX10_planned_33 (kX10_379 (Nat.le_of_ble_eq_true rfl)) sX10_told0 rfl rfl rfl rfl rfl rfl rfl (Eq.refl 36) ?_
        refine Tr.goto (pc' := 41) dX10_planned_36 (by decide) ?_
        refine Tr.iret dX10_planned_41 rfl (by first | rfl | exact bI_nar _) ?_ ?_
        · rfl
        · rfl
  · rw [if_neg hc]
    show Md E _ ad _ (mtC E ad r i V (-1, -1, w, -1, false, l) lg ll W B f (rwF S P L a) bp G) _ (mtC E ad r i V (-1, -1, w, -1, false, l) lg ll W B f (rwF S P L a) bp G)
    refine Md.of 0 (by decide) rfl rfl ?_
    refine Tr.aload_n (i := 0) dX10_planned_0 rfl rfl (Eq.refl 1) ?_
    refine Tr.iload_n (i := 1) dX10_planned_1 rfl rfl (Eq.refl 2) ?_
    refine Tr.callVr (L := [0]) (m_isPerson E _ (rP ad r) (iP V (-1, -1, w, -1, false, l) lg ll i) (nhV V) (npV V) x v2) dX10_planned_2 (kX10_309 (Nat.le_of_ble_eq_true rfl)) iX10_isPerson rfl rfl rfl rfl rfl rfl rfl rfl rfl (Eq.refl 5) ?_
    refine Tr.if_eqB (tgt := 39) dX10_planned_5 (by decide) (Eq.refl 8) (fun h5 => ?_) (fun h5 => ?_)
    · refine Tr.bipush (v := (-2)) dX10_planned_39 (by decide +kernel) (Eq.refl 41) ?_
      refine Tr.iret dX10_planned_41 rfl (by first | rfl | exact bI_nar _) ?_ ?_
      · rfl
      · rfl
    · refine Tr.iload_n (i := 2) dX10_planned_8 rfl rfl (Eq.refl 9) ?_
      refine Tr.i2l dX10_planned_9 rfl (Eq.refl 10) ?_
      refine Tr.lconst (v := 0) dX10_planned_10 (by decide +kernel) (Eq.refl 11) ?_
      refine Tr.ldc2 dX10_planned_11 qX10_377 (Eq.refl 14) ?_
      refine Tr.callSr (L := []) (m_in E _ y.toInt64 0 3) dX10_planned_14 (kX10_52 (Nat.le_of_ble_eq_true rfl)) sX10_in rfl rfl rfl rfl rfl rfl rfl (Eq.refl 17) ?_
      rw [in32' y (a := nI 0) (b := nI 3) (by decide) (by decide)]
      refine Tr.if_eqB (tgt := 39) dX10_planned_17 (by decide) (Eq.refl 20) (fun h17 => ?_) (fun h17 => ?_)
      · refine Tr.bipush (v := (-2)) dX10_planned_39 (by decide +kernel) (Eq.refl 41) ?_
        refine Tr.iret dX10_planned_41 rfl (by first | rfl | exact bI_nar _) ?_ ?_
        · rfl
        · rfl
      · exact absurd (by rw [h5, h17]; rfl) hc
theorem nw_lt {E : EnvT} {ad r : Nat → Nat} {i : Nat → Int32} {V : Vil} {o : Ovr} {lg ll : Int32} {W : Nat → Nat} {B f : Nat → Int32} {bp : Nat → Nat} {G : Nat → Int32} {S : Scn} {P : Nat → Nat} {L : Nat → Int32} {a : Nat} {p : Nat} {x : Int32} (h : p < 5) : (mtC E ad r i V o lg ll W B f (rwF S P L a) bp G).set 10 (aI E 57 (upd (rwF S P L a) (30 + p) x)) = (mtC E ad r i V o lg ll W B f (rwF S P (upd L p x) a) bp G) := congrArg (fun f9 => (mtC E ad r i V o lg ll W B f f9 bp G)) (wr_le h)
theorem nw_ch {E : EnvT} {ad r : Nat → Nat} {i : Nat → Int32} {V : Vil} {o : Ovr} {lg ll : Int32} {W : Nat → Nat} {B f : Nat → Int32} {bp : Nat → Nat} {G : Nat → Int32} {S : Scn} {P : Nat → Nat} {L : Nat → Int32} {a x : Nat} : (mtC E ad r i V o lg ll W B f (rwF S P L a) bp G).set 10 (aI E 57 (upd (rwF S P L a) 56 (nI x))) = (mtC E ad r i V o lg ll W B f (rwF S P L x) bp G) := congrArg (fun f9 => (mtC E ad r i V o lg ll W B f f9 bp G)) wr_ch
set_option maxHeartbeats 4000000 in
set_option maxRecDepth 100000 in
theorem m_lets (E : EnvT) (ad r : Nat → Nat) (i : Nat → Int32) (V : Vil) (w : Int32) (l : Bool) (lg ll : Int32) (W : Nat → Nat) (B f : Nat → Int32) (bp : Nat → Nat) (G : Nat → Int32) (S : Scn) (P : Nat → Nat) (L : Nat → Int32) (a : Nat) (x y : Int32) (hV : Vok V) (hS : Sle V S) (hP : Pok V P) (ht : psS S < 2 ^ 29) : Md E mX10_lets ad [.ref (ad 0), .int x, .int y] (mtJ E ad r i V (w, l, lg, ll, W, B, f, bp, G) (rwF S P L a)) (some (.int (if (ixB x (npV V) && rgB y (nI 0) (nI 31)) then L (nN x) else -2))) (mtJ E ad r i V (w, l, lg, ll, W, B, f, bp, G) (rwF S P (if (ixB x (npV V) && rgB y (nI 0) (nI 31)) then upd L (nN x) y else L) a)) := by
  have v2 := hV.2.1
  by_cases hc : (ixB x (npV V) && rgB y (nI 0) (nI 31)) = true
  · rw [if_pos hc, if_pos hc]
    have hc1 : ixB x (npV V) = true := (Bool.and_eq_true_iff.mp hc).1
    have hc2 : rgB y (nI 0) (nI 31) = true := (Bool.and_eq_true_iff.mp hc).2
    obtain ⟨p, hp, rfl⟩ := ixB_n v2 hc1
    obtain ⟨k, -, hk, rfl⟩ := rgB_n (by decide) (by decide) hc2
    rw [nN_n (show p < 2 ^ 31 by omega)]
    show Md E _ ad _ (mtC E ad r i V (-1, -1, w, -1, false, l) lg ll W B f (rwF S P L a) bp G) _ (mtC E ad r i V (-1, -1, w, -1, false, l) lg ll W B f (rwF S P (upd L p (nI k)) a) bp G)
    refine Md.of 1 (by decide) rfl rfl ?_
    refine Tr.aload_n (i := 0) dX10_lets_0 rfl rfl (Eq.refl 1) ?_
    refine Tr.iload_n (i := 1) dX10_lets_1 rfl rfl (Eq.refl 2) ?_
    refine Tr.callVr (L := [0]) (m_isPerson E _ (rP ad r) (iP V (-1, -1, w, -1, false, l) lg ll i) (nhV V) (npV V) (nI p) v2) dX10_lets_2 (kX10_309 (Nat.le_of_ble_eq_true rfl)) iX10_isPerson rfl rfl rfl rfl rfl rfl rfl rfl rfl (Eq.refl 5) ?_
    refine Tr.if_eqB (tgt := 20) dX10_lets_5 (by decide) (Eq.refl 8) (fun h5 => ?_) (fun h5 => ?_)
    · exact absurd (hc1.symm.trans h5) (by decide)
    · refine Tr.iload_n (i := 2) dX10_lets_8 rfl rfl (Eq.refl 9) ?_
      refine Tr.i2l dX10_lets_9 rfl (Eq.refl 10) ?_
      refine Tr.lconst (v := 0) dX10_lets_10 (by decide +kernel) (Eq.refl 11) ?_
      refine Tr.ldc2 dX10_lets_11 qX10_382 (Eq.refl 14) ?_
      refine Tr.callSr (L := []) (m_in E _ (nI k).toInt64 0 31) dX10_lets_14 (kX10_52 (Nat.le_of_ble_eq_true rfl)) sX10_in rfl rfl rfl rfl rfl rfl rfl (Eq.refl 17) ?_
      rw [in32' (nI k) (a := nI 0) (b := nI 31) (by decide) (by decide)]
      refine Tr.if_neB (tgt := 23) dX10_lets_17 (by decide) (Eq.refl 20) (fun h17 => ?_) (fun h17 => ?_)
      · refine Tr.aload_n (i := 0) dX10_lets_23 rfl rfl (Eq.refl 24) ?_
        refine Tr.getf dX10_lets_24 fX10_219 rfl rfl (Eq.refl 27) ?_
        refine Tr.bipush (v := nI 30) dX10_lets_27 (by decide +kernel) (Eq.refl 29) ?_
        refine Tr.iload_n (i := 1) dX10_lets_29 rfl rfl (Eq.refl 30) ?_
        refine Tr.iaddN dX10_lets_30 (Eq.refl 31) ?_
        refine Tr.ialdN dX10_lets_31 rfl (by omega) (by decide) (Eq.refl 32) ?_
        refine Tr.top (rd_le (by omega)) ?_
        refine Tr.istore_n (i := 3) dX10_lets_32 rfl rfl rfl (Eq.refl 33) ?_
        refine Tr.aload_n (i := 0) dX10_lets_33 rfl rfl (Eq.refl 34) ?_
        refine Tr.getf dX10_lets_34 fX10_219 rfl rfl (Eq.refl 37) ?_
        refine Tr.bipush (v := nI 30) dX10_lets_37 (by decide +kernel) (Eq.refl 39) ?_
        refine Tr.iload_n (i := 1) dX10_lets_39 rfl rfl (Eq.refl 40) ?_
        refine Tr.iaddN dX10_lets_40 (Eq.refl 41) ?_
        refine Tr.iload_n (i := 2) dX10_lets_41 rfl rfl (Eq.refl 42) ?_
        refine Tr.iastN dX10_lets_42 rfl (by omega) (by decide) (Eq.refl 43) ?_
        refine Tr.pic (nw_lt (by omega)) ?_
        refine Tr.iload_n (i := 3) dX10_lets_43 rfl rfl (Eq.refl 44) ?_
        refine Tr.iret dX10_lets_44 rfl (by first | rfl | exact bI_nar _) ?_ ?_
        · rfl
        · rfl
      · exact absurd (hc2.symm.trans h17) (by decide)
  · rw [if_neg hc, if_neg hc]
    show Md E _ ad _ (mtC E ad r i V (-1, -1, w, -1, false, l) lg ll W B f (rwF S P L a) bp G) _ (mtC E ad r i V (-1, -1, w, -1, false, l) lg ll W B f (rwF S P L a) bp G)
    refine Md.of 1 (by decide) rfl rfl ?_
    refine Tr.aload_n (i := 0) dX10_lets_0 rfl rfl (Eq.refl 1) ?_
    refine Tr.iload_n (i := 1) dX10_lets_1 rfl rfl (Eq.refl 2) ?_
    refine Tr.callVr (L := [0]) (m_isPerson E _ (rP ad r) (iP V (-1, -1, w, -1, false, l) lg ll i) (nhV V) (npV V) x v2) dX10_lets_2 (kX10_309 (Nat.le_of_ble_eq_true rfl)) iX10_isPerson rfl rfl rfl rfl rfl rfl rfl rfl rfl (Eq.refl 5) ?_
    refine Tr.if_eqB (tgt := 20) dX10_lets_5 (by decide) (Eq.refl 8) (fun h5 => ?_) (fun h5 => ?_)
    · refine Tr.bipush (v := (-2)) dX10_lets_20 (by decide +kernel) (Eq.refl 22) ?_
      refine Tr.iret dX10_lets_22 rfl (by first | rfl | exact bI_nar _) ?_ ?_
      · rfl
      · rfl
    · refine Tr.iload_n (i := 2) dX10_lets_8 rfl rfl (Eq.refl 9) ?_
      refine Tr.i2l dX10_lets_9 rfl (Eq.refl 10) ?_
      refine Tr.lconst (v := 0) dX10_lets_10 (by decide +kernel) (Eq.refl 11) ?_
      refine Tr.ldc2 dX10_lets_11 qX10_382 (Eq.refl 14) ?_
      refine Tr.callSr (L := []) (m_in E _ y.toInt64 0 31) dX10_lets_14 (kX10_52 (Nat.le_of_ble_eq_true rfl)) sX10_in rfl rfl rfl rfl rfl rfl rfl (Eq.refl 17) ?_
      rw [in32' y (a := nI 0) (b := nI 31) (by decide) (by decide)]
      refine Tr.if_neB (tgt := 23) dX10_lets_17 (by decide) (Eq.refl 20) (fun h17 => ?_) (fun h17 => ?_)
      · exact absurd (by rw [h5, h17]; rfl) hc
      · refine Tr.bipush (v := (-2)) dX10_lets_20 (by decide +kernel) (Eq.refl 22) ?_
        refine Tr.iret dX10_lets_22 rfl (by first | rfl | exact bI_nar _) ?_ ?_
        · rfl
        · rfl
set_option maxHeartbeats 4000000 in
set_option maxRecDepth 100000 in
theorem m_chance (E : EnvT) (ad r : Nat → Nat) (i : Nat → Int32) (V : Vil) (w : Int32) (l : Bool) (lg ll : Int32) (W : Nat → Nat) (B f : Nat → Int32) (bp : Nat → Nat) (G : Nat → Int32) (S : Scn) (P : Nat → Nat) (L : Nat → Int32) (a : Nat) (x : Int32) : Md E mX10_chance ad [.ref (ad 0), .int x] (mtJ E ad r i V (w, l, lg, ll, W, B, f, bp, G) (rwF S P L a)) (some (.int (if x < 0 then -2 else 1))) (mtJ E ad r i V (w, l, lg, ll, W, B, f, bp, G) (rwF S P L (if x < 0 then a else nN x))) := by
  by_cases hc : x < 0
  · rw [if_pos hc, if_pos hc]
    show Md E _ ad _ (mtC E ad r i V (-1, -1, w, -1, false, l) lg ll W B f (rwF S P L a) bp G) _ (mtC E ad r i V (-1, -1, w, -1, false, l) lg ll W B f (rwF S P L a) bp G)
    refine Md.of 0 (by decide) rfl rfl ?_
    refine Tr.iload_n (i := 1) dX10_chance_0 rfl rfl (Eq.refl 1) ?_
    refine Tr.if_geL (tgt := 7) dX10_chance_1 (by decide) (Eq.refl 4) (fun h1 => ?_) (fun h1 => ?_)
    · exact absurd hc h1
    · refine Tr.bipush (v := (-2)) dX10_chance_4 (by decide +kernel) (Eq.refl 6) ?_
      refine Tr.iret dX10_chance_6 rfl (by first | rfl | exact bI_nar _) ?_ ?_
      · rfl
      · rfl
  · rw [if_neg hc, if_neg hc]
    have hx : x = nI (nN x) := by
      have h9 := hc
      rw [Int32.lt_iff_toInt_lt] at h9
      have h8 : (0 : Int32).toInt = 0 := by decide
      have h7 := Int32.toInt_lt x
      exact Int32.toInt_inj.mp (by rw [nI_toInt (by unfold nN Int32.toNatClampNeg; omega)]; unfold nN Int32.toNatClampNeg; omega)
    show Md E _ ad _ (mtC E ad r i V (-1, -1, w, -1, false, l) lg ll W B f (rwF S P L a) bp G) _ (mtC E ad r i V (-1, -1, w, -1, false, l) lg ll W B f (rwF S P L (nN x)) bp G)
    generalize nN x = n at *
    subst hx
    refine Md.of 0 (by decide) rfl rfl ?_
    refine Tr.iload_n (i := 1) dX10_chance_0 rfl rfl (Eq.refl 1) ?_
    refine Tr.if_geL (tgt := 7) dX10_chance_1 (by decide) (Eq.refl 4) (fun h1 => ?_) (fun h1 => ?_)
    · refine Tr.aload_n (i := 0) dX10_chance_7 rfl rfl (Eq.refl 8) ?_
      refine Tr.getf dX10_chance_8 fX10_219 rfl rfl (Eq.refl 11) ?_
      refine Tr.bipush (v := nI 56) dX10_chance_11 (by decide +kernel) (Eq.refl 13) ?_
      refine Tr.iload_n (i := 1) dX10_chance_13 rfl rfl (Eq.refl 14) ?_
      refine Tr.iastN dX10_chance_14 rfl (by omega) (by decide) (Eq.refl 15) ?_
      refine Tr.pic nw_ch ?_
      refine Tr.iconst (v := nI 1) dX10_chance_15 (icN 1) (Eq.refl 16) ?_
      refine Tr.iret dX10_chance_16 rfl (by first | rfl | exact bI_nar _) ?_ ?_
      · rfl
      · rfl
    · exact absurd h1 hc
set_option maxHeartbeats 4000000 in
set_option maxRecDepth 100000 in
theorem m_tie (E : EnvT) (ad r : Nat → Nat) (i : Nat → Int32) (V : Vil) (w : Int32) (l : Bool) (lg ll : Int32) (W : Nat → Nat) (B f : Nat → Int32) (bp : Nat → Nat) (G : Nat → Int32) (S : Scn) (P : Nat → Nat) (L : Nat → Int32) (a : Nat) (x y : Int32) (hV : Vok V) (hS : Sle V S) (hP : Pok V P) (ht : psS S < 2 ^ 29) : Md E mX10_tie ad [.ref (ad 0), .int x, .int y] (mtJ E ad r i V (w, l, lg, ll, W, B, f, bp, G) (rwF S P L a)) (some (.int (if (ixB x (npV V) && ixB y (npV V) && !decide (x = y)) then tiV V ((nN x) * 5 + (nN y)) else -1000))) (mtJ E ad r i V (w, l, lg, ll, W, B, f, bp, G) (rwF S P L a)) := by
  have v2 := hV.2.1
  by_cases hc : (ixB x (npV V) && ixB y (npV V) && !decide (x = y)) = true
  · rw [if_pos hc]
    have hc0 := Bool.and_eq_true_iff.mp hc
    have hc1 : ixB x (npV V) = true := (Bool.and_eq_true_iff.mp hc0.1).1
    have hc2 : ixB y (npV V) = true := (Bool.and_eq_true_iff.mp hc0.1).2
    have hc3 : ¬ x = y := by simpa using hc0.2
    obtain ⟨p, hp, rfl⟩ := ixB_n v2 hc1
    obtain ⟨q, hq, rfl⟩ := ixB_n v2 hc2
    rw [nN_n (show p < 2 ^ 31 by omega), nN_n (show q < 2 ^ 31 by omega)]
    show Md E _ ad _ (mtC E ad r i V (-1, -1, w, -1, false, l) lg ll W B f (rwF S P L a) bp G) _ (mtC E ad r i V (-1, -1, w, -1, false, l) lg ll W B f (rwF S P L a) bp G)
    refine Md.of 0 (by decide) rfl rfl ?_
    refine Tr.aload_n (i := 0) dX10_tie_0 rfl rfl (Eq.refl 1) ?_
    refine Tr.iload_n (i := 1) dX10_tie_1 rfl rfl (Eq.refl 2) ?_
    refine Tr.callVr (L := [0]) (m_isPerson E _ (rP ad r) (iP V (-1, -1, w, -1, false, l) lg ll i) (nhV V) (npV V) (nI p) v2) dX10_tie_2 (kX10_309 (Nat.le_of_ble_eq_true rfl)) iX10_isPerson rfl rfl rfl rfl rfl rfl rfl rfl rfl (Eq.refl 5) ?_
    refine Tr.if_eqB (tgt := 34) dX10_tie_5 (by decide) (Eq.refl 8) (fun h5 => ?_) (fun h5 => ?_)
    · exact absurd (hc1.symm.trans h5) (by decide)
    · refine Tr.aload_n (i := 0) dX10_tie_8 rfl rfl (Eq.refl 9) ?_
      refine Tr.iload_n (i := 2) dX10_tie_9 rfl rfl (Eq.refl 10) ?_
      refine Tr.callVr (L := [0]) (m_isPerson E _ (rP ad r) (iP V (-1, -1, w, -1, false, l) lg ll i) (nhV V) (npV V) (nI q) v2) dX10_tie_10 (kX10_309 (Nat.le_of_ble_eq_true rfl)) iX10_isPerson rfl rfl rfl rfl rfl rfl rfl rfl rfl (Eq.refl 13) ?_
      refine Tr.if_eqB (tgt := 34) dX10_tie_13 (by decide) (Eq.refl 16) (fun h13 => ?_) (fun h13 => ?_)
      · exact absurd (hc2.symm.trans h13) (by decide)
      · refine Tr.iload_n (i := 1) dX10_tie_16 rfl rfl (Eq.refl 17) ?_
        refine Tr.iload_n (i := 2) dX10_tie_17 rfl rfl (Eq.refl 18) ?_
        refine Tr.icmp_eqN (tgt := 34) dX10_tie_18 (by decide) (Eq.refl 21) (by omega) (by omega) (fun h18 => ?_) (fun h18 => ?_)
        · exact absurd (by rw [h18]) hc3
        · refine Tr.aload_n (i := 0) dX10_tie_21 rfl rfl (Eq.refl 22) ?_
          refine Tr.getf dX10_tie_22 fX10_217 rfl rfl (Eq.refl 25) ?_
          refine Tr.iconst (v := nI 5) dX10_tie_25 (icN 5) (Eq.refl 26) ?_
          refine Tr.iload_n (i := 1) dX10_tie_26 rfl rfl (Eq.refl 27) ?_
          refine Tr.imulN dX10_tie_27 (Eq.refl 28) ?_
          refine Tr.iload_n (i := 2) dX10_tie_28 rfl rfl (Eq.refl 29) ?_
          refine Tr.iaddN dX10_tie_29 (Eq.refl 30) ?_
          refine Tr.ialdN dX10_tie_30 rfl (by omega) (by decide) (Eq.refl 31) ?_
          refine Tr.top (y := tiV V (p * 5 + q)) (by rw [Nat.mul_comm]) ?_
          refine Tr.goto (pc' := 37) dX10_tie_31 (by decide) ?_
          refine Tr.iret dX10_tie_37 rfl (by first | rfl | exact bI_nar _) ?_ ?_
          · rfl
          · rfl
  · rw [if_neg hc]
    show Md E _ ad _ (mtC E ad r i V (-1, -1, w, -1, false, l) lg ll W B f (rwF S P L a) bp G) _ (mtC E ad r i V (-1, -1, w, -1, false, l) lg ll W B f (rwF S P L a) bp G)
    refine Md.of 0 (by decide) rfl rfl ?_
    refine Tr.aload_n (i := 0) dX10_tie_0 rfl rfl (Eq.refl 1) ?_
    refine Tr.iload_n (i := 1) dX10_tie_1 rfl rfl (Eq.refl 2) ?_
    refine Tr.callVr (L := [0]) (m_isPerson E _ (rP ad r) (iP V (-1, -1, w, -1, false, l) lg ll i) (nhV V) (npV V) x v2) dX10_tie_2 (kX10_309 (Nat.le_of_ble_eq_true rfl)) iX10_isPerson rfl rfl rfl rfl rfl rfl rfl rfl rfl (Eq.refl 5) ?_
    refine Tr.if_eqB (tgt := 34) dX10_tie_5 (by decide) (Eq.refl 8) (fun h5 => ?_) (fun h5 => ?_)
    · refine Tr.sipush (v := (-1000)) dX10_tie_34 (by decide +kernel) (Eq.refl 37) ?_
      refine Tr.iret dX10_tie_37 rfl (by first | rfl | exact bI_nar _) ?_ ?_
      · rfl
      · rfl
    · refine Tr.aload_n (i := 0) dX10_tie_8 rfl rfl (Eq.refl 9) ?_
      refine Tr.iload_n (i := 2) dX10_tie_9 rfl rfl (Eq.refl 10) ?_
      refine Tr.callVr (L := [0]) (m_isPerson E _ (rP ad r) (iP V (-1, -1, w, -1, false, l) lg ll i) (nhV V) (npV V) y v2) dX10_tie_10 (kX10_309 (Nat.le_of_ble_eq_true rfl)) iX10_isPerson rfl rfl rfl rfl rfl rfl rfl rfl rfl (Eq.refl 13) ?_
      refine Tr.if_eqB (tgt := 34) dX10_tie_13 (by decide) (Eq.refl 16) (fun h13 => ?_) (fun h13 => ?_)
      · refine Tr.sipush (v := (-1000)) dX10_tie_34 (by decide +kernel) (Eq.refl 37) ?_
        refine Tr.iret dX10_tie_37 rfl (by first | rfl | exact bI_nar _) ?_ ?_
        · rfl
        · rfl
      · refine Tr.iload_n (i := 1) dX10_tie_16 rfl rfl (Eq.refl 17) ?_
        refine Tr.iload_n (i := 2) dX10_tie_17 rfl rfl (Eq.refl 18) ?_
        refine Tr.icmp_eq (tgt := 34) dX10_tie_18 (by decide) (Eq.refl 21) (fun h18 => ?_) (fun h18 => ?_)
        · refine Tr.sipush (v := (-1000)) dX10_tie_34 (by decide +kernel) (Eq.refl 37) ?_
          refine Tr.iret dX10_tie_37 rfl (by first | rfl | exact bI_nar _) ?_ ?_
          · rfl
          · rfl
        · exact absurd (by rw [h5, h13]; simp [h18]) hc
