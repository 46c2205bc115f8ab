/-! Trial: chairs, hours, doors, worth -/
def bcT (T : Tst) (i : Nat) : Tst := uV T (vRu (vT T) (upd (ruV (vT T)) 0 (nI i)))
theorem bcT_Tok {T : Tst} {i : Nat} (h : Tok T) : Tok (bcT T i) := Tok_v h rfl rfl rfl rfl
def bcS (p : Nat) (q : Tst × Int32 × Nat) (i : Nat) : Tst × Int32 × Nat := (rqT (bcT q.1 i) 4, bet q.2.1 q.2.2 (smF (bcT q.1 i) p) i)
def bcF (T : Tst) (p : Nat) : Nat → Tst × Int32 × Nat
  | 0 => (T, -1000000, 1)
  | i + 1 => bcS p (bcF T p i) (i + 1)
theorem bcF_ok {T : Tst} {p : Nat} (h : Tok T) : ∀ n, Tok (bcF T p n).1 ∧ npV (vT (bcF T p n).1) = npV (vT T) := by
  intro n
  induction n with
  | zero => exact ⟨h, rfl⟩
  | succ n ih => exact ⟨rqT_Tok _ (bcT_Tok ih.1), ih.2⟩
set_option maxHeartbeats 4000000 in
set_option maxRecDepth 100000 in
theorem c_bestChairs (E : EnvT) (ad : Nat → Nat) (T : Tst) (p : Nat) (hT : Tok T) (hp : p < npV (vT T)) : Md E mX6_bestChairs ad [.ref (ad 0), .int (nI p)] (trC E ad 0 T) (some (.int (nI (bcF T p 4).2.2))) (trC E ad 0 (bcF T p 4).1) := by
  have v2 := hT.1.2.1
  refine Md.of 4 (by decide) rfl rfl ?_
  refine Tr.ldc dX6_bestChairs_0 qX6_96 (Eq.refl 2) ?_
  refine Tr.istore_n (i := 2) dX6_bestChairs_2 rfl rfl rfl (Eq.refl 3) ?_
  refine Tr.iconst (v := nI 1) dX6_bestChairs_3 (icN 1) (Eq.refl 4) ?_
  refine Tr.istore_n (i := 3) dX6_bestChairs_4 rfl rfl rfl (Eq.refl 5) ?_
  refine Tr.iconst (v := nI 1) dX6_bestChairs_5 (icN 1) (Eq.refl 6) ?_
  refine Tr.istore dX6_bestChairs_6 rfl rfl (Eq.refl 8) ?_
  refine Tr.mask [true, true, true, true, true, true] (lv' := [some (.ref (ad 0)), some (.int (nI p)), some (.int (bcF T p 0).2.1), some (.int (nI (bcF T p 0).2.2)), some (.int (nI (0 + 1))), none]) rfl ?_
  refine loopD (P := fun i => Tr _ 0 0 8 [some (.ref (ad 0)), some (.int (nI p)), some (.int (bcF T p i).2.1), some (.int (nI (bcF T p i).2.2)), some (.int (nI (i + 1))), none] [] (trC E ad 0 (bcF T p i).1)) 4 ?_ (fun i hi ih => ?_)
  · refine Tr.iload dX6_bestChairs_8 rfl (Eq.refl 10) ?_
    refine Tr.iconst (v := nI 4) dX6_bestChairs_10 (icN 4) (Eq.refl 11) ?_
    refine Tr.icmp_gtN (tgt := 50) dX6_bestChairs_11 (by decide) (Eq.refl 14) (by omega) (by omega) (fun h11 => ?_) (fun h11 => ?_)
    · refine Tr.iload_n (i := 3) dX6_bestChairs_50 rfl rfl (Eq.refl 51) ?_
      refine Tr.iret dX6_bestChairs_51 rfl (by first | rfl | exact bI_nar _) ?_ ?_
      · rfl
      · rfl
    · exact absurd h11 (by omega)
  · obtain ⟨a1, a2⟩ := bcF_ok (p := p) hT i
    have hB : bcF T p (i + 1) = bcS p (bcF T p i) (i + 1) := rfl
    rw [hB] at ih
    clear hB
    generalize bcF T p i = B at *
    obtain ⟨B, g, f⟩ := B
    have a1 : Tok B := a1
    have a2 : npV (vT B) = npV (vT T) := a2
    have hp2 : p < npV (vT (bcT B (i + 1))) := by show p < npV (vT B); rw [a2]; exact hp
    refine Tr.iload dX6_bestChairs_8 rfl (Eq.refl 10) ?_
    refine Tr.iconst (v := nI 4) dX6_bestChairs_10 (icN 4) (Eq.refl 11) ?_
    refine Tr.icmp_gtN (tgt := 50) dX6_bestChairs_11 (by decide) (Eq.refl 14) (by omega) (by omega) (fun h11 => ?_) (fun h11 => ?_)
    · exact absurd h11 (by omega)
    · refine Tr.aload_n (i := 0) dX6_bestChairs_14 rfl rfl (Eq.refl 15) ?_
      refine Tr.getf dX6_bestChairs_15 fX6_12 rfl rfl (Eq.refl 18) ?_
      refine Tr.getf dX6_bestChairs_18 fX6_208 rfl rfl (Eq.refl 21) ?_
      refine Tr.iconst (v := nI 0) dX6_bestChairs_21 (icN 0) (Eq.refl 22) ?_
      refine Tr.iload dX6_bestChairs_22 rfl (Eq.refl 24) ?_
      refine Tr.iastN dX6_bestChairs_24 rfl (by omega) (by decide) (Eq.refl 25) ?_
      refine Tr.pic (w' := trC E ad 0 (bcT B (i + 1))) rfl ?_
      refine Tr.aload_n (i := 0) dX6_bestChairs_25 rfl rfl (Eq.refl 26) ?_
      refine Tr.iload_n (i := 1) dX6_bestChairs_26 rfl rfl (Eq.refl 27) ?_
      refine Tr.callVs (c_sumOf E ad (bcT B (i + 1)) p (bcT_Tok a1) hp2) dX6_bestChairs_27 (kX6_130 (Nat.le_of_ble_eq_true rfl)) iX6_sumOf rfl rfl rfl rfl rfl (trC_le _ _ _ _ _) rfl rfl (Eq.refl 30) ?_
      refine Tr.istore dX6_bestChairs_30 rfl rfl (Eq.refl 32) ?_
      refine Tr.iload dX6_bestChairs_32 rfl (Eq.refl 34) ?_
      refine Tr.iload_n (i := 2) dX6_bestChairs_34 rfl rfl (Eq.refl 35) ?_
      refine Tr.icmp_leL (tgt := 44) dX6_bestChairs_35 (by decide) (Eq.refl 38) (fun h35 => ?_) (fun h35 => ?_)
      · have hx : bcS p (B, g, f) (i + 1) = (rqT (bcT B (i + 1)) 4, g, f) := Prod.ext rfl (bet_neg h35)
        refine Tr.iincN dX6_bestChairs_44 rfl rfl rfl (Eq.refl 47) ?_
        refine Tr.goto (pc' := 8) dX6_bestChairs_47 (by decide) ?_
        rw [hx] at ih
        exact Tr.mask [true, true, true, true, true, false] rfl ih
      · have hx : bcS p (B, g, f) (i + 1) = (rqT (bcT B (i + 1)) 4, smF (bcT B (i + 1)) p, i + 1) := Prod.ext rfl (bet_pos h35)
        refine Tr.iload dX6_bestChairs_38 rfl (Eq.refl 40) ?_
        refine Tr.istore_n (i := 2) dX6_bestChairs_40 rfl rfl rfl (Eq.refl 41) ?_
        refine Tr.iload dX6_bestChairs_41 rfl (Eq.refl 43) ?_
        refine Tr.istore_n (i := 3) dX6_bestChairs_43 rfl rfl rfl (Eq.refl 44) ?_
        refine Tr.iincN dX6_bestChairs_44 rfl rfl rfl (Eq.refl 47) ?_
        refine Tr.goto (pc' := 8) dX6_bestChairs_47 (by decide) ?_
        rw [hx] at ih
        exact Tr.mask [true, true, true, true, true, false] rfl ih
def leT (T : Tst) (a : Nat) : Tst := uV T (vRu (vT T) (upd (ruV (vT T)) 1 (nI a)))
theorem leT_Tok {T : Tst} {i : Nat} (h : Tok T) : Tok (leT T i) := Tok_v h rfl rfl rfl rfl
/-- the least time after which a best sum is not above m -/
def leF (p : Nat) (m : Int32) : Nat → Nat → Tst → Tst × Int32
  | 0, _, T => (T, -1)
  | n + 1, a, T => if m < bsT (fbT (leT T a) p) then leF p m n (a + 1) (fbT (leT T a) p) else (fbT (leT T a) p, nI a)
set_option maxHeartbeats 4000000 in
set_option maxRecDepth 100000 in
theorem c_leastAfter_loop (E : EnvT) (ad : Nat → Nat) (p : Nat) (m : Int32) : ∀ (n a : Nat) (T : Tst), a + n = 29 → Tok T → p < npV (vT T) → Tr (E, mX6_leastAfter, ad, some (.int (leF p m n a T).2), trC E ad 0 (leF p m n a T).1) 0 0 2 [some (.ref (ad 0)), some (.int (nI p)), some (.int m), some (.int (nI a))] [] (trC E ad 0 T) := by
  intro n
  induction n with
  | zero =>
    intro a T ha hT hp
    refine Tr.iload_n (i := 3) dX6_leastAfter_2 rfl rfl (Eq.refl 3) ?_
    refine Tr.bipush (v := nI 28) dX6_leastAfter_3 (by decide +kernel) (Eq.refl 5) ?_
    refine Tr.icmp_gtN (tgt := 39) dX6_leastAfter_5 (by decide) (Eq.refl 8) (by omega) (by omega) (fun h5 => ?_) (fun h5 => ?_)
    · refine Tr.iconst (v := (-1)) dX6_leastAfter_39 (by decide +kernel) (Eq.refl 40) ?_
      refine Tr.iret dX6_leastAfter_40 rfl (by first | rfl | exact bI_nar _) ?_ ?_
      · rfl
      · rfl
    · exact absurd h5 (by omega)
  | succ n ih =>
    intro a T ha hT hp
    have b1 := fbT_Tok p (leT_Tok (i := a) hT)
    have hp2 : p < npV (vT (leT T a)) := hp
    have b2 : p < npV (vT (fbT (leT T a) p)) := by rw [(fbT_same (leT T a) p).1]; exact hp2
    have hL : leF p m (n + 1) a T = if m < bsT (fbT (leT T a) p) then leF p m n (a + 1) (fbT (leT T a) p) else (fbT (leT T a) p, nI a) := rfl
    rw [hL]
    have hc := c_findBest E ad (leT T a) p (leT_Tok hT) hp2
    have ih2 := ih (a + 1) (fbT (leT T a) p) (by omega) b1 b2
    clear hL
    generalize fbT (leT T a) p = F at *
    refine Tr.iload_n (i := 3) dX6_leastAfter_2 rfl rfl (Eq.refl 3) ?_
    refine Tr.bipush (v := nI 28) dX6_leastAfter_3 (by decide +kernel) (Eq.refl 5) ?_
    refine Tr.icmp_gtN (tgt := 39) dX6_leastAfter_5 (by decide) (Eq.refl 8) (by omega) (by omega) (fun h5 => ?_) (fun h5 => ?_)
    · exact absurd h5 (by omega)
    · refine Tr.aload_n (i := 0) dX6_leastAfter_8 rfl rfl (Eq.refl 9) ?_
      refine Tr.getf dX6_leastAfter_9 fX6_12 rfl rfl (Eq.refl 12) ?_
      refine Tr.getf dX6_leastAfter_12 fX6_208 rfl rfl (Eq.refl 15) ?_
      refine Tr.iconst (v := nI 1) dX6_leastAfter_15 (icN 1) (Eq.refl 16) ?_
      refine Tr.iload_n (i := 3) dX6_leastAfter_16 rfl rfl (Eq.refl 17) ?_
      refine Tr.iastN dX6_leastAfter_17 rfl (by omega) (by decide) (Eq.refl 18) ?_
      refine Tr.pic (w' := trC E ad 0 (leT T a)) rfl ?_
      refine Tr.aload_n (i := 0) dX6_leastAfter_18 rfl rfl (Eq.refl 19) ?_
      refine Tr.iload_n (i := 1) dX6_leastAfter_19 rfl rfl (Eq.refl 20) ?_
      refine Tr.callVs (hc) dX6_leastAfter_20 (kX6_133 (Nat.le_of_ble_eq_true rfl)) iX6_findBest rfl rfl rfl rfl rfl (trC_le _ _ _ _ _) rfl rfl (Eq.refl 23) ?_
      refine Tr.aload_n (i := 0) dX6_leastAfter_23 rfl rfl (Eq.refl 24) ?_
      refine Tr.getf dX6_leastAfter_24 fX6_97 rfl rfl (Eq.refl 27) ?_
      refine Tr.iload_n (i := 2) dX6_leastAfter_27 rfl rfl (Eq.refl 28) ?_
      refine Tr.icmp_gt (tgt := 33) dX6_leastAfter_28 (by decide) (Eq.refl 31) (fun h28 => ?_) (fun h28 => ?_)
      · refine Tr.iincN dX6_leastAfter_33 rfl rfl rfl (Eq.refl 36) ?_
        refine Tr.goto (pc' := 2) dX6_leastAfter_36 (by decide) ?_
        rw [if_pos h28]
        exact ih2
      · refine Tr.iload_n (i := 3) dX6_leastAfter_31 rfl rfl (Eq.refl 32) ?_
        refine Tr.iret dX6_leastAfter_32 rfl (by first | rfl | exact bI_nar _) ?_ ?_
        · rw [if_neg h28]
        · rw [if_neg h28]
set_option maxHeartbeats 4000000 in
set_option maxRecDepth 100000 in
theorem c_leastAfter (E : EnvT) (ad : Nat → Nat) (T : Tst) (p : Nat) (m : Int32) (hT : Tok T) (hp : p < npV (vT T)) : Md E mX6_leastAfter ad [.ref (ad 0), .int (nI p), .int m] (trC E ad 0 T) (some (.int (leF p m 29 0 T).2)) (trC E ad 0 (leF p m 29 0 T).1) := by
  refine Md.of 1 (by decide) rfl rfl ?_
  refine Tr.iconst (v := nI 0) dX6_leastAfter_0 (icN 0) (Eq.refl 1) ?_
  refine Tr.istore_n (i := 3) dX6_leastAfter_1 rfl rfl rfl (Eq.refl 2) ?_
  exact c_leastAfter_loop E ad p m 29 0 T rfl hT hp
theorem shl1 {n : Nat} (h : n ≤ 5) : nI 1 <<< (nI n &&& 31) = nI (2 ^ n) := by
  have : n = 0 ∨ n = 1 ∨ n = 2 ∨ n = 3 ∨ n = 4 ∨ n = 5 := by omega
  rcases this with h | h | h | h | h | h <;> subst h <;> decide
theorem two5 {n : Nat} (h : n ≤ 5) : 2 ^ n ≤ 32 := Nat.le_trans (Nat.pow_le_pow_right (by decide) h) (by decide)
/-- does a set of doors hold one -/
def inB (m p : Nat) : Bool := !decide ((nI m >>> (nI p &&& 31)) &&& nI 1 = 0)
def blT (T : Tst) (p m : Nat) : Tst := uL T (upd (lT T) p (nI m))
def blS (p : Nat) (q : Tst × Int32 × Nat) (m : Nat) : Tst × Int32 × Nat := if inB m p then q else (rqT (blT q.1 p m) 4, bet q.2.1 q.2.2 (smF (blT q.1 p m) p) m)
def blF (T : Tst) (p : Nat) : Nat → Tst × Int32 × Nat
  | 0 => (T, -1000000, 0)
  | m + 1 => blS p (blF T p m) m
theorem blF_ok {T : Tst} {p : Nat} (h : Tok T) : ∀ n, Tok (blF T p n).1 ∧ npV (vT (blF T p n).1) = npV (vT T) := by
  intro n
  induction n with
  | zero => exact ⟨h, rfl⟩
  | succ n ih =>
    show Tok (blS p (blF T p n) n).1 ∧ npV (vT (blS p (blF T p n) n).1) = _
    unfold blS
    split
    · exact ih
    · exact ⟨rqT_Tok _ (Tok_l ih.1), ih.2⟩
set_option maxHeartbeats 4000000 in
set_option maxRecDepth 100000 in
theorem c_bestLets (E : EnvT) (ad : Nat → Nat) (T : Tst) (p : Nat) (hT : Tok T) (hp : p < npV (vT T)) : Md E mX6_bestLets ad [.ref (ad 0), .int (nI p)] (trC E ad 0 T) (some (.int (nI (blF T p (2 ^ npV (vT T))).2.2))) (trC E ad 0 (blF T p (2 ^ npV (vT T))).1) := by
  have v2 := hT.1.2.1
  have v3 := two5 v2
  refine Md.of 4 (by decide) rfl rfl ?_
  refine Tr.ldc dX6_bestLets_0 qX6_96 (Eq.refl 2) ?_
  refine Tr.istore_n (i := 2) dX6_bestLets_2 rfl rfl rfl (Eq.refl 3) ?_
  refine Tr.iconst (v := nI 0) dX6_bestLets_3 (icN 0) (Eq.refl 4) ?_
  refine Tr.istore_n (i := 3) dX6_bestLets_4 rfl rfl rfl (Eq.refl 5) ?_
  refine Tr.iconst (v := nI 0) dX6_bestLets_5 (icN 0) (Eq.refl 6) ?_
  refine Tr.istore dX6_bestLets_6 rfl rfl (Eq.refl 8) ?_
  refine Tr.mask [true, true, true, true, true, true] (lv' := [some (.ref (ad 0)), some (.int (nI p)), some (.int (blF T p 0).2.1), some (.int (nI (blF T p 0).2.2)), some (.int (nI 0)), none]) rfl ?_
  refine loopD (P := fun i => Tr _ 0 0 8 [some (.ref (ad 0)), some (.int (nI p)), some (.int (blF T p i).2.1), some (.int (nI (blF T p i).2.2)), some (.int (nI i)), none] [] (trC E ad 0 (blF T p i).1)) (2 ^ npV (vT T)) ?_ (fun i hi ih => ?_)
  · obtain ⟨a1, a2⟩ := blF_ok (p := p) hT (2 ^ npV (vT T))
    refine Tr.iload dX6_bestLets_8 rfl (Eq.refl 10) ?_
    refine Tr.iconst (v := nI 1) dX6_bestLets_10 (icN 1) (Eq.refl 11) ?_
    refine Tr.aload_n (i := 0) dX6_bestLets_11 rfl rfl (Eq.refl 12) ?_
    refine Tr.getf dX6_bestLets_12 fX6_12 rfl rfl (Eq.refl 15) ?_
    refine Tr.getf dX6_bestLets_15 fX6_127 rfl rfl (Eq.refl 18) ?_
    refine Tr.ishl dX6_bestLets_18 (Eq.refl 19) ?_
    refine Tr.top (y := nI (2 ^ npV (vT T))) (by rw [a2]; exact shl1 v2) ?_
    refine Tr.icmp_geN (tgt := 67) dX6_bestLets_19 (by decide) (Eq.refl 22) (by omega) (by omega) (fun h19 => ?_) (fun h19 => ?_)
    · refine Tr.iload_n (i := 3) dX6_bestLets_67 rfl rfl (Eq.refl 68) ?_
      refine Tr.iret dX6_bestLets_68 rfl (by first | rfl | exact bI_nar _) ?_ ?_
      · rfl
      · rfl
    · exact absurd h19 (by omega)
  · obtain ⟨a1, a2⟩ := blF_ok (p := p) hT i
    have hB : blF T p (i + 1) = blS p (blF T p i) i := rfl
    rw [hB] at ih
    clear hB
    generalize blF T p i = B at *
    obtain ⟨B, g, f⟩ := B
    have a1 : Tok B := a1
    have a2 : npV (vT B) = npV (vT T) := a2
    have hp2 : p < npV (vT (blT B p i)) := by show p < npV (vT B); rw [a2]; exact hp
    refine Tr.iload dX6_bestLets_8 rfl (Eq.refl 10) ?_
    refine Tr.iconst (v := nI 1) dX6_bestLets_10 (icN 1) (Eq.refl 11) ?_
    refine Tr.aload_n (i := 0) dX6_bestLets_11 rfl rfl (Eq.refl 12) ?_
    refine Tr.getf dX6_bestLets_12 fX6_12 rfl rfl (Eq.refl 15) ?_
    refine Tr.getf dX6_bestLets_15 fX6_127 rfl rfl (Eq.refl 18) ?_
    refine Tr.ishl dX6_bestLets_18 (Eq.refl 19) ?_
    refine Tr.top (y := nI (2 ^ npV (vT T))) (by rw [a2]; exact shl1 v2) ?_
    refine Tr.icmp_geN (tgt := 67) dX6_bestLets_19 (by decide) (Eq.refl 22) (by omega) (by omega) (fun h19 => ?_) (fun h19 => ?_)
    · exact absurd h19 (by omega)
    · refine Tr.iload dX6_bestLets_22 rfl (Eq.refl 24) ?_
      refine Tr.iload_n (i := 1) dX6_bestLets_24 rfl rfl (Eq.refl 25) ?_
      refine Tr.ishr dX6_bestLets_25 (Eq.refl 26) ?_
      refine Tr.iconst (v := nI 1) dX6_bestLets_26 (icN 1) (Eq.refl 27) ?_
      refine Tr.iand dX6_bestLets_27 (Eq.refl 28) ?_
      refine Tr.if_ne (tgt := 61) dX6_bestLets_28 (by decide) (Eq.refl 31) (fun h28 => ?_) (fun h28 => ?_)
      · have hi : inB i p = true := by unfold inB; rw [decide_eq_false h28]; rfl
        have hx : blS p (B, g, f) i = (B, g, f) := by unfold blS; rw [hi]; rfl
        refine Tr.iincN dX6_bestLets_61 rfl rfl rfl (Eq.refl 64) ?_
        refine Tr.goto (pc' := 8) dX6_bestLets_64 (by decide) ?_
        rw [hx] at ih
        exact Tr.mask [true, true, true, true, true, false] rfl ih
      · have hi : inB i p = false := by unfold inB; rw [decide_eq_true h28]; rfl
        have hy : blS p (B, g, f) i = (rqT (blT B p i) 4, bet g f (smF (blT B p i) p) i) := by unfold blS; rw [hi]; rfl
        refine Tr.aload_n (i := 0) dX6_bestLets_31 rfl rfl (Eq.refl 32) ?_
        refine Tr.getf dX6_bestLets_32 fX6_21 rfl rfl (Eq.refl 35) ?_
        refine Tr.getf dX6_bestLets_35 fX6_82 rfl rfl (Eq.refl 38) ?_
        refine Tr.iload_n (i := 1) dX6_bestLets_38 rfl rfl (Eq.refl 39) ?_
        refine Tr.iload dX6_bestLets_39 rfl (Eq.refl 41) ?_
        refine Tr.iastN dX6_bestLets_41 rfl (by omega) (by decide) (Eq.refl 42) ?_
        refine Tr.pic (w' := trC E ad 0 (blT B p i)) rfl ?_
        refine Tr.aload_n (i := 0) dX6_bestLets_42 rfl rfl (Eq.refl 43) ?_
        refine Tr.iload_n (i := 1) dX6_bestLets_43 rfl rfl (Eq.refl 44) ?_
        refine Tr.callVs (c_sumOf E ad (blT B p i) p (Tok_l a1) hp2) dX6_bestLets_44 (kX6_130 (Nat.le_of_ble_eq_true rfl)) iX6_sumOf rfl rfl rfl rfl rfl (trC_le _ _ _ _ _) rfl rfl (Eq.refl 47) ?_
        refine Tr.istore dX6_bestLets_47 rfl rfl (Eq.refl 49) ?_
        refine Tr.iload dX6_bestLets_49 rfl (Eq.refl 51) ?_
        refine Tr.iload_n (i := 2) dX6_bestLets_51 rfl rfl (Eq.refl 52) ?_
        refine Tr.icmp_leL (tgt := 61) dX6_bestLets_52 (by decide) (Eq.refl 55) (fun h52 => ?_) (fun h52 => ?_)
        · have hx : blS p (B, g, f) i = (rqT (blT B p i) 4, g, f) := hy.trans (Prod.ext rfl (bet_neg h52))
          refine Tr.iincN dX6_bestLets_61 rfl rfl rfl (Eq.refl 64) ?_
          refine Tr.goto (pc' := 8) dX6_bestLets_64 (by decide) ?_
          rw [hx] at ih
          exact Tr.mask [true, true, true, true, true, false] rfl ih
        · have hx : blS p (B, g, f) i = (rqT (blT B p i) 4, smF (blT B p i) p, i) := hy.trans (Prod.ext rfl (bet_pos h52))
          refine Tr.iload dX6_bestLets_55 rfl (Eq.refl 57) ?_
          refine Tr.istore_n (i := 2) dX6_bestLets_57 rfl rfl rfl (Eq.refl 58) ?_
          refine Tr.iload dX6_bestLets_58 rfl (Eq.refl 60) ?_
          refine Tr.istore_n (i := 3) dX6_bestLets_60 rfl rfl rfl (Eq.refl 61) ?_
          refine Tr.iincN dX6_bestLets_61 rfl rfl rfl (Eq.refl 64) ?_
          refine Tr.goto (pc' := 8) dX6_bestLets_64 (by decide) ?_
          rw [hx] at ih
          exact Tr.mask [true, true, true, true, true, false] rfl ih
def wo1 (T : Tst) (c w p : Nat) (M : Int32) : Tst := uL (uV T (vWo (vT T) (upd (woV (vT T)) c (nI w)))) (upd (lT T) p M)
theorem wo1_Tok {T : Tst} {c w p : Nat} {M : Int32} (h : Tok T) : Tok (wo1 T c w p M) := Tok_l (Tok_v h rfl rfl rfl rfl)
def wo2 (T : Tst) (p : Nat) (L : Int32) : Tst := uL T (upd (lT T) p L)
/-- the least worth of the house c at which p would rather not let one in -/
def woF (p c : Nat) (M L : Int32) : Nat → Nat → Tst → Tst × Int32
  | 0, _, T => (T, -1)
  | n + 1, w, T => if smF (wo1 T c w p M) p < smF (wo2 (rqT (wo1 T c w p M) 4) p L) p then (rqT (wo2 (rqT (wo1 T c w p M) 4) p L) 4, nI w) else woF p c M L n (w + 1) (rqT (wo2 (rqT (wo1 T c w p M) 4) p L) 4)
set_option maxHeartbeats 4000000 in
set_option maxRecDepth 100000 in
theorem c_leastWorth_loop (E : EnvT) (ad : Nat → Nat) (p q c : Nat) (M : Int32) (hc : c < 5) : ∀ (n w : Nat) (T : Tst), w + n = 21 → Tok T → p < npV (vT T) → Tr (E, mX6_leastWorth, ad, some (.int (woF p c M (M &&& ((nI 1 <<< (nI q &&& 31)) ^^^ (-1))) n w T).2), trC E ad 0 (woF p c M (M &&& ((nI 1 <<< (nI q &&& 31)) ^^^ (-1))) n w T).1) 0 0 35 [some (.ref (ad 0)), some (.int (nI p)), some (.int (nI q)), some (.int (nI c)), some (.int M), some (.int (nI w)), none] [] (trC E ad 0 T) := by
  intro n
  generalize hLd : M &&& ((nI 1 <<< (nI q &&& 31)) ^^^ (-1)) = L
  induction n with
  | zero =>
    intro w T hw hT hp
    refine Tr.iload dX6_leastWorth_35 rfl (Eq.refl 37) ?_
    refine Tr.bipush (v := nI 20) dX6_leastWorth_37 (by decide +kernel) (Eq.refl 39) ?_
    refine Tr.icmp_gtN (tgt := 107) dX6_leastWorth_39 (by decide) (Eq.refl 42) (by omega) (by omega) (fun h39 => ?_) (fun h39 => ?_)
    · refine Tr.iconst (v := (-1)) dX6_leastWorth_107 (by decide +kernel) (Eq.refl 108) ?_
      refine Tr.iret dX6_leastWorth_108 rfl (by first | rfl | exact bI_nar _) ?_ ?_
      · rfl
      · rfl
    · exact absurd h39 (by omega)
  | succ n ih =>
    intro w T hw hT hp
    have v2 := hT.1.2.1
    have hL : woF p c M L (n + 1) w T = if smF (wo1 T c w p M) p < smF (wo2 (rqT (wo1 T c w p M) 4) p L) p then (rqT (wo2 (rqT (wo1 T c w p M) 4) p L) 4, nI w) else woF p c M L n (w + 1) (rqT (wo2 (rqT (wo1 T c w p M) 4) p L) 4) := rfl
    rw [hL]
    clear hL
    have c1 := c_sumOf E ad (wo1 T c w p M) p (wo1_Tok hT) hp
    have c2 := c_sumOf E ad (wo2 (rqT (wo1 T c w p M) 4) p L) p (Tok_l (rqT_Tok 4 (wo1_Tok hT))) hp
    have ih2 := ih (w + 1) (rqT (wo2 (rqT (wo1 T c w p M) 4) p L) 4) (by omega) (rqT_Tok 4 (Tok_l (rqT_Tok 4 (wo1_Tok hT)))) hp
    generalize smF (wo1 T c w p M) p = s1 at *
    generalize hA : rqT (wo1 T c w p M) 4 = A at *
    generalize smF (wo2 A p L) p = s2 at *
    refine Tr.iload dX6_leastWorth_35 rfl (Eq.refl 37) ?_
    refine Tr.bipush (v := nI 20) dX6_leastWorth_37 (by decide +kernel) (Eq.refl 39) ?_
    refine Tr.icmp_gtN (tgt := 107) dX6_leastWorth_39 (by decide) (Eq.refl 42) (by omega) (by omega) (fun h39 => ?_) (fun h39 => ?_)
    · exact absurd h39 (by omega)
    · refine Tr.aload_n (i := 0) dX6_leastWorth_42 rfl rfl (Eq.refl 43) ?_
      refine Tr.getf dX6_leastWorth_43 fX6_12 rfl rfl (Eq.refl 46) ?_
      refine Tr.getf dX6_leastWorth_46 fX6_211 rfl rfl (Eq.refl 49) ?_
      refine Tr.iload_n (i := 3) dX6_leastWorth_49 rfl rfl (Eq.refl 50) ?_
      refine Tr.iload dX6_leastWorth_50 rfl (Eq.refl 52) ?_
      refine Tr.iastN dX6_leastWorth_52 rfl (by omega) (by decide) (Eq.refl 53) ?_
      refine Tr.aload_n (i := 0) dX6_leastWorth_53 rfl rfl (Eq.refl 54) ?_
      refine Tr.getf dX6_leastWorth_54 fX6_21 rfl rfl (Eq.refl 57) ?_
      refine Tr.getf dX6_leastWorth_57 fX6_82 rfl rfl (Eq.refl 60) ?_
      refine Tr.iload_n (i := 1) dX6_leastWorth_60 rfl rfl (Eq.refl 61) ?_
      refine Tr.iload dX6_leastWorth_61 rfl (Eq.refl 63) ?_
      refine Tr.iastN dX6_leastWorth_63 rfl (by omega) (by decide) (Eq.refl 64) ?_
      refine Tr.pic (w' := trC E ad 0 (wo1 T c w p M)) rfl ?_
      refine Tr.aload_n (i := 0) dX6_leastWorth_64 rfl rfl (Eq.refl 65) ?_
      refine Tr.iload_n (i := 1) dX6_leastWorth_65 rfl rfl (Eq.refl 66) ?_
      refine Tr.callVs (c1) dX6_leastWorth_66 (kX6_130 (Nat.le_of_ble_eq_true rfl)) iX6_sumOf rfl rfl rfl rfl rfl (trC_le _ _ _ _ _) rfl rfl (Eq.refl 69) ?_
      refine Tr.istore dX6_leastWorth_69 rfl rfl (Eq.refl 71) ?_
      refine Tr.aload_n (i := 0) dX6_leastWorth_71 rfl rfl (Eq.refl 72) ?_
      refine Tr.getf dX6_leastWorth_72 fX6_21 rfl rfl (Eq.refl 75) ?_
      refine Tr.getf dX6_leastWorth_75 fX6_82 rfl rfl (Eq.refl 78) ?_
      refine Tr.iload_n (i := 1) dX6_leastWorth_78 rfl rfl (Eq.refl 79) ?_
      refine Tr.iload dX6_leastWorth_79 rfl (Eq.refl 81) ?_
      refine Tr.iconst (v := nI 1) dX6_leastWorth_81 (icN 1) (Eq.refl 82) ?_
      refine Tr.iload_n (i := 2) dX6_leastWorth_82 rfl rfl (Eq.refl 83) ?_
      refine Tr.ishl dX6_leastWorth_83 (Eq.refl 84) ?_
      refine Tr.iconst (v := (-1)) dX6_leastWorth_84 (by decide +kernel) (Eq.refl 85) ?_
      refine Tr.ixor dX6_leastWorth_85 (Eq.refl 86) ?_
      refine Tr.iand dX6_leastWorth_86 (Eq.refl 87) ?_
      refine Tr.top (y := L) hLd ?_
      refine Tr.iastN dX6_leastWorth_87 rfl (by omega) (by decide) (Eq.refl 88) ?_
      refine Tr.pic (w' := trC E ad 0 (wo2 A p L)) rfl ?_
      refine Tr.aload_n (i := 0) dX6_leastWorth_88 rfl rfl (Eq.refl 89) ?_
      refine Tr.iload_n (i := 1) dX6_leastWorth_89 rfl rfl (Eq.refl 90) ?_
      refine Tr.callVs (c2) dX6_leastWorth_90 (kX6_130 (Nat.le_of_ble_eq_true rfl)) iX6_sumOf rfl rfl rfl rfl rfl (trC_le _ _ _ _ _) rfl rfl (Eq.refl 93) ?_
      refine Tr.iload dX6_leastWorth_93 rfl (Eq.refl 95) ?_
      refine Tr.icmp_leL (tgt := 101) dX6_leastWorth_95 (by decide) (Eq.refl 98) (fun h95 => ?_) (fun h95 => ?_)
      · refine Tr.iincN dX6_leastWorth_101 rfl rfl rfl (Eq.refl 104) ?_
        refine Tr.goto (pc' := 35) dX6_leastWorth_104 (by decide) ?_
        rw [if_neg h95]
        exact Tr.mask [true, true, true, true, true, true, false] rfl ih2
      · refine Tr.iload dX6_leastWorth_98 rfl (Eq.refl 100) ?_
        refine Tr.iret dX6_leastWorth_100 rfl (by first | rfl | exact bI_nar _) ?_ ?_
        · rw [if_pos h95]
        · rw [if_pos h95]
def wrT (T : Tst) (p q : Nat) : Tst × Int32 := if hoV (vT T) p < 5 then woF p (hoV (vT T) p) (lT T p ||| (nI 1 <<< (nI q &&& 31))) ((lT T p ||| (nI 1 <<< (nI q &&& 31))) &&& ((nI 1 <<< (nI q &&& 31)) ^^^ (-1))) 21 0 T else (T, -1)
set_option maxHeartbeats 4000000 in
set_option maxRecDepth 100000 in
theorem c_leastWorth (E : EnvT) (ad : Nat → Nat) (T : Tst) (p q : Nat) (hT : Tok T) (hp : p < npV (vT T)) : Md E mX6_leastWorth ad [.ref (ad 0), .int (nI p), .int (nI q)] (trC E ad 0 T) (some (.int (wrT T p q).2)) (trC E ad 0 (wrT T p q).1) := by
  have v2 := hT.1.2.1
  refine Md.of 4 (by decide) rfl rfl ?_
  refine Tr.aload_n (i := 0) dX6_leastWorth_0 rfl rfl (Eq.refl 1) ?_
  refine Tr.getf dX6_leastWorth_1 fX6_12 rfl rfl (Eq.refl 4) ?_
  refine Tr.getf dX6_leastWorth_4 fX6_187 rfl rfl (Eq.refl 7) ?_
  refine Tr.iload_n (i := 1) dX6_leastWorth_7 rfl rfl (Eq.refl 8) ?_
  refine Tr.ialdN dX6_leastWorth_8 rfl (by omega) (by decide) (Eq.refl 9) ?_
  refine Tr.istore_n (i := 3) dX6_leastWorth_9 rfl rfl rfl (Eq.refl 10) ?_
  refine Tr.iload_n (i := 3) dX6_leastWorth_10 rfl rfl (Eq.refl 11) ?_
  refine Tr.iconst (v := (-1)) dX6_leastWorth_11 (by decide +kernel) (Eq.refl 12) ?_
  refine Tr.icmp_ne (tgt := 17) dX6_leastWorth_12 (by decide) (Eq.refl 15) (fun h12 => ?_) (fun h12 => ?_)
  · have h12 : hoV (vT T) p < 5 := by rw [cl_none] at h12; omega
    have hx : wrT T p q = woF p (hoV (vT T) p) (lT T p ||| (nI 1 <<< (nI q &&& 31))) ((lT T p ||| (nI 1 <<< (nI q &&& 31))) &&& ((nI 1 <<< (nI q &&& 31)) ^^^ (-1))) 21 0 T := if_pos h12
    refine Tr.aload_n (i := 0) dX6_leastWorth_17 rfl rfl (Eq.refl 18) ?_
    refine Tr.getf dX6_leastWorth_18 fX6_21 rfl rfl (Eq.refl 21) ?_
    refine Tr.getf dX6_leastWorth_21 fX6_82 rfl rfl (Eq.refl 24) ?_
    refine Tr.iload_n (i := 1) dX6_leastWorth_24 rfl rfl (Eq.refl 25) ?_
    refine Tr.ialdN dX6_leastWorth_25 rfl (by omega) (by decide) (Eq.refl 26) ?_
    refine Tr.iconst (v := nI 1) dX6_leastWorth_26 (icN 1) (Eq.refl 27) ?_
    refine Tr.iload_n (i := 2) dX6_leastWorth_27 rfl rfl (Eq.refl 28) ?_
    refine Tr.ishl dX6_leastWorth_28 (Eq.refl 29) ?_
    refine Tr.ior dX6_leastWorth_29 (Eq.refl 30) ?_
    refine Tr.istore dX6_leastWorth_30 rfl rfl (Eq.refl 32) ?_
    refine Tr.iconst (v := nI 0) dX6_leastWorth_32 (icN 0) (Eq.refl 33) ?_
    refine Tr.istore dX6_leastWorth_33 rfl rfl (Eq.refl 35) ?_
    rw [hx]
    refine Tr.eqs ?_ rfl rfl (c_leastWorth_loop E ad p q (hoV (vT T) p) (lT T p ||| (nI 1 <<< (nI q &&& 31))) h12 21 0 T rfl hT hp)
    rw [← cl_lt h12]
    rfl
  · have h12 : ¬ hoV (vT T) p < 5 := by rw [cl_none] at h12; omega
    have hx : wrT T p q = (T, -1) := if_neg h12
    refine Tr.iconst (v := (-1)) dX6_leastWorth_15 (by decide +kernel) (Eq.refl 16) ?_
    refine Tr.iret dX6_leastWorth_16 rfl (by first | rfl | exact bI_nar _) ?_ ?_
    · rw [hx]
    · rw [hx]
