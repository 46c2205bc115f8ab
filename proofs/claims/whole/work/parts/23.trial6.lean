/-! Trial: one thing changed; laws -/
def vRu (V : Vil) (f : Nat → Int32) : Vil := (nhV V, npV V, laV V, f, woV V, owV V, hoV V, wkV V, tiV V)
def vWo (V : Vil) (f : Nat → Int32) : Vil := (nhV V, npV V, laV V, ruV V, f, owV V, hoV V, wkV V, tiV V)
def vLa (V : Vil) (b : Bool) : Vil := (nhV V, npV V, b, ruV V, woV V, owV V, hoV V, wkV V, tiV V)
theorem Tok_v {T : Tst} {V : Vil} (h : Tok T) (h1 : nhV V = nhV (vT T)) (h2 : npV V = npV (vT T)) (h3 : owV V = owV (vT T)) (h4 : hoV V = hoV (vT T)) : Tok (uV T V) := by
  obtain ⟨⟨a1, a2, a3, a4, a5⟩, b, c, d⟩ := h
  refine ⟨?_, b, ?_, d⟩
  · show Vok V
    unfold Vok
    rw [h1, h2, h3, h4]
    exact ⟨a1, a2, a3, a4, a5⟩
  · show Sle V (oT T)
    unfold Sle
    rw [h2]
    exact c
theorem Tok_p {T : Tst} {P : Nat → Nat} (h : Tok T) (hP : Ple P) : Tok (uP T P) := ⟨h.1, hP, h.2.2.1, h.2.2.2⟩
theorem Tok_l {T : Tst} {L : Nat → Int32} (h : Tok T) : Tok (uL T L) := h
theorem Ple_up {P : Nat → Nat} {a c : Nat} (h : Ple P) (hc : c ≤ 5) : Ple (upN P a c) := by
  intro k hk
  by_cases h2 : k = a
  · rw [h2, upN_self]; exact hc
  · rw [upN_ne _ _ h2]; exact h k hk
theorem upd_back (P : Nat → Nat) (a c : Nat) : upd (fun k => cl (upN P a c k)) a (cl (P a)) = fun k => cl (P k) := by
  funext k
  by_cases h : k = a
  · rw [h, upd_self]
  · rw [upd_ne _ _ h, upN_ne _ _ h]
/-- the better of two by sum: sum and which -/
def bet (g : Int32) (f : Nat) (s : Int32) (i : Nat) : Int32 × Nat := if g < s then (s, i) else (g, f)
def bqT (T : Tst) (p i : Nat) : Tst := uP T (upN (pT T) (p * 4 + i) 5)
def bqF (T : Tst) (p : Nat) : Nat → Tst × Int32 × Nat
  | 0 => (T, -1000000, 0)
  | i + 1 => (uP (rqT (bqT (bqF T p i).1 p i) 4) (pT (bqF T p i).1), bet (bqF T p i).2.1 (bqF T p i).2.2 (smF (bqT (bqF T p i).1 p i) p) i)
theorem bqF_ok {T : Tst} {p : Nat} (h : Tok T) : ∀ n, Tok (bqF T p n).1 ∧ vT (bqF T p n).1 = vT T ∧ pT (bqF T p n).1 = pT T := by
  intro n
  induction n with
  | zero => exact ⟨h, rfl, rfl⟩
  | succ n ih =>
    obtain ⟨a1, a2, a3⟩ := ih
    show Tok (uP (rqT (bqT (bqF T p n).1 p n) 4) (pT (bqF T p n).1)) ∧ vT (uP (rqT (bqT (bqF T p n).1 p n) 4) (pT (bqF T p n).1)) = _ ∧ pT (uP (rqT (bqT (bqF T p n).1 p n) 4) (pT (bqF T p n).1)) = _
    generalize (bqF T p n).1 = B at *
    refine ⟨Tok_p (rqT_Tok 4 (Tok_p a1 (Ple_up a1.2.1 (Nat.le_refl 5)))) a1.2.1, ?_, ?_⟩
    · exact a2
    · exact a3
set_option maxHeartbeats 4000000 in
set_option maxRecDepth 100000 in
theorem c_bestQuarterOut (E : EnvT) (ad : Nat → Nat) (T : Tst) (p : Nat) (hT : Tok T) (hp : p < npV (vT T)) : Md E mX6_bestQuarterOut ad [.ref (ad 0), .int (nI p)] (trC E ad 0 T) (some (.int (nI (bqF T p 4).2.2))) (trC E ad 0 (bqF T p 4).1) := by
  have v2 := hT.1.2.1
  refine Md.of 6 (by decide) rfl rfl ?_
  refine Tr.ldc dX6_bestQuarterOut_0 qX6_96 (Eq.refl 2) ?_
  refine Tr.istore_n (i := 2) dX6_bestQuarterOut_2 rfl rfl rfl (Eq.refl 3) ?_
  refine Tr.iconst (v := nI 0) dX6_bestQuarterOut_3 (icN 0) (Eq.refl 4) ?_
  refine Tr.istore_n (i := 3) dX6_bestQuarterOut_4 rfl rfl rfl (Eq.refl 5) ?_
  refine Tr.iconst (v := nI 0) dX6_bestQuarterOut_5 (icN 0) (Eq.refl 6) ?_
  refine Tr.istore dX6_bestQuarterOut_6 rfl rfl (Eq.refl 8) ?_
  refine Tr.mask [true, true, true, true, true, true, true, true] (lv' := [some (.ref (ad 0)), some (.int (nI p)), some (.int (bqF T p 0).2.1), some (.int (nI (bqF T p 0).2.2)), some (.int (nI 0)), none, none, none]) rfl ?_
  refine loopD (P := fun i => Tr _ 0 0 8 [some (.ref (ad 0)), some (.int (nI p)), some (.int (bqF T p i).2.1), some (.int (nI (bqF T p i).2.2)), some (.int (nI i)), none, none, none] [] (trC E ad 0 (bqF T p i).1)) 4 ?_ (fun i hi ih => ?_)
  · refine Tr.iload dX6_bestQuarterOut_8 rfl (Eq.refl 10) ?_
    refine Tr.iconst (v := nI 4) dX6_bestQuarterOut_10 (icN 4) (Eq.refl 11) ?_
    refine Tr.icmp_geN (tgt := 82) dX6_bestQuarterOut_11 (by decide) (Eq.refl 14) (by omega) (by omega) (fun h11 => ?_) (fun h11 => ?_)
    · refine Tr.iload_n (i := 3) dX6_bestQuarterOut_82 rfl rfl (Eq.refl 83) ?_
      refine Tr.iret dX6_bestQuarterOut_83 rfl (by first | rfl | exact bI_nar _) ?_ ?_
      · rfl
      · rfl
    · exact absurd h11 (by omega)
  · obtain ⟨a1, a2, a3⟩ := bqF_ok (p := p) hT i
    have hB : bqF T p (i + 1) = (uP (rqT (bqT (bqF T p i).1 p i) 4) (pT (bqF T p i).1), bet (bqF T p i).2.1 (bqF T p i).2.2 (smF (bqT (bqF T p i).1 p i) p) i) := rfl
    rw [hB] at ih
    clear hB
    generalize bqF T p i = B at *
    obtain ⟨B, g, f⟩ := B
    have a1 : Tok B := a1
    have hb : Tok (bqT B p i) := Tok_p a1 (Ple_up a1.2.1 (Nat.le_refl 5))
    have hp2 : p < npV (vT (bqT B p i)) := by show p < npV (vT B); rw [a2]; exact hp
    refine Tr.iload dX6_bestQuarterOut_8 rfl (Eq.refl 10) ?_
    refine Tr.iconst (v := nI 4) dX6_bestQuarterOut_10 (icN 4) (Eq.refl 11) ?_
    refine Tr.icmp_geN (tgt := 82) dX6_bestQuarterOut_11 (by decide) (Eq.refl 14) (by omega) (by omega) (fun h11 => ?_) (fun h11 => ?_)
    · exact absurd h11 (by omega)
    · refine Tr.iload_n (i := 1) dX6_bestQuarterOut_14 rfl rfl (Eq.refl 15) ?_
      refine Tr.iconst (v := nI 4) dX6_bestQuarterOut_15 (icN 4) (Eq.refl 16) ?_
      refine Tr.imulN dX6_bestQuarterOut_16 (Eq.refl 17) ?_
      refine Tr.iload dX6_bestQuarterOut_17 rfl (Eq.refl 19) ?_
      refine Tr.iaddN dX6_bestQuarterOut_19 (Eq.refl 20) ?_
      refine Tr.istore dX6_bestQuarterOut_20 rfl rfl (Eq.refl 22) ?_
      refine Tr.aload_n (i := 0) dX6_bestQuarterOut_22 rfl rfl (Eq.refl 23) ?_
      refine Tr.getf dX6_bestQuarterOut_23 fX6_21 rfl rfl (Eq.refl 26) ?_
      refine Tr.getf dX6_bestQuarterOut_26 fX6_139 rfl rfl (Eq.refl 29) ?_
      refine Tr.iload dX6_bestQuarterOut_29 rfl (Eq.refl 31) ?_
      refine Tr.ialdN dX6_bestQuarterOut_31 rfl (by omega) (by decide) (Eq.refl 32) ?_
      refine Tr.istore dX6_bestQuarterOut_32 rfl rfl (Eq.refl 34) ?_
      refine Tr.aload_n (i := 0) dX6_bestQuarterOut_34 rfl rfl (Eq.refl 35) ?_
      refine Tr.getf dX6_bestQuarterOut_35 fX6_21 rfl rfl (Eq.refl 38) ?_
      refine Tr.getf dX6_bestQuarterOut_38 fX6_139 rfl rfl (Eq.refl 41) ?_
      refine Tr.iload dX6_bestQuarterOut_41 rfl (Eq.refl 43) ?_
      refine Tr.iconst (v := (-1)) dX6_bestQuarterOut_43 (by decide +kernel) (Eq.refl 44) ?_
      refine Tr.iastN dX6_bestQuarterOut_44 rfl (by omega) (by decide) (Eq.refl 45) ?_
      refine Tr.pic (w' := trC E ad 0 (bqT B p i)) (by unfold bqT; obtain ⟨V, X, P, L, O, S, W, ch, mo, z, G, K, bs, br, rg, lr, D⟩ := B; show _ = trX E ad 0 V X (upN P (p * 4 + i) 5) L O S W ch mo z G K bs br rg lr (D 0) (D 1) (D 2) (D 3) (D 4); unfold trX wyC; rw [cl_upN]; rfl) ?_
      refine Tr.aload_n (i := 0) dX6_bestQuarterOut_45 rfl rfl (Eq.refl 46) ?_
      refine Tr.iload_n (i := 1) dX6_bestQuarterOut_46 rfl rfl (Eq.refl 47) ?_
      refine Tr.callVs (c_sumOf E ad (bqT B p i) p hb hp2) dX6_bestQuarterOut_47 (kX6_130 (Nat.le_of_ble_eq_true rfl)) iX6_sumOf rfl rfl rfl rfl rfl (trC_le _ _ _ _ _) rfl rfl (Eq.refl 50) ?_
      refine Tr.istore dX6_bestQuarterOut_50 rfl rfl (Eq.refl 52) ?_
      refine Tr.aload_n (i := 0) dX6_bestQuarterOut_52 rfl rfl (Eq.refl 53) ?_
      refine Tr.getf dX6_bestQuarterOut_53 fX6_21 rfl rfl (Eq.refl 56) ?_
      refine Tr.getf dX6_bestQuarterOut_56 fX6_139 rfl rfl (Eq.refl 59) ?_
      refine Tr.iload dX6_bestQuarterOut_59 rfl (Eq.refl 61) ?_
      refine Tr.iload dX6_bestQuarterOut_61 rfl (Eq.refl 63) ?_
      refine Tr.iastN dX6_bestQuarterOut_63 rfl (by omega) (by decide) (Eq.refl 64) ?_
      refine Tr.pic (w' := trC E ad 0 (uP (rqT (bqT B p i) 4) (pT B))) (by generalize hq : rqT (bqT B p i) 4 = Q; have hpq : pT Q = upN (pT B) (p * 4 + i) 5 := (by rw [← hq]; rfl); (obtain ⟨V, X, P, L, O, S, W, ch, mo, z, G, K, bs, br, rg, lr, D⟩ := Q; have hpq : P = upN (pT B) (p * 4 + i) 5 := hpq; subst hpq; show _ = trX E ad 0 V X (pT B) L O S W ch mo z G K bs br rg lr (D 0) (D 1) (D 2) (D 3) (D 4); unfold trX wyC; rw [← upd_back (pT B) (p * 4 + i) 5]; rfl)) ?_
      refine Tr.iload dX6_bestQuarterOut_64 rfl (Eq.refl 66) ?_
      refine Tr.iload_n (i := 2) dX6_bestQuarterOut_66 rfl rfl (Eq.refl 67) ?_
      refine Tr.icmp_leL (tgt := 76) dX6_bestQuarterOut_67 (by decide) (Eq.refl 70) (fun h67 => ?_) (fun h67 => ?_)
      · have hx : bet g f (smF (bqT B p i) p) i = (g, f) := if_neg h67
        refine Tr.iincN dX6_bestQuarterOut_76 rfl rfl rfl (Eq.refl 79) ?_
        refine Tr.goto (pc' := 8) dX6_bestQuarterOut_79 (by decide) ?_
        rw [hx] at ih
        exact Tr.mask [true, true, true, true, true, false, false, false] rfl ih
      · have hx : bet g f (smF (bqT B p i) p) i = (smF (bqT B p i) p, i) := if_pos h67
        refine Tr.iload dX6_bestQuarterOut_70 rfl (Eq.refl 72) ?_
        refine Tr.istore_n (i := 2) dX6_bestQuarterOut_72 rfl rfl rfl (Eq.refl 73) ?_
        refine Tr.iload dX6_bestQuarterOut_73 rfl (Eq.refl 75) ?_
        refine Tr.istore_n (i := 3) dX6_bestQuarterOut_75 rfl rfl rfl (Eq.refl 76) ?_
        refine Tr.iincN dX6_bestQuarterOut_76 rfl rfl rfl (Eq.refl 79) ?_
        refine Tr.goto (pc' := 8) dX6_bestQuarterOut_79 (by decide) ?_
        rw [hx] at ih
        exact Tr.mask [true, true, true, true, true, false, false, false] rfl ih
/-- does a guard hold -/
def hoT2 (T : Tst) (h f : Nat) : Tst := uP (rqT T 4) (plE (pT T) f h 4)
set_option maxHeartbeats 4000000 in
set_option maxRecDepth 100000 in
theorem c_holds (E : EnvT) (ad : Nat → Nat) (T : Tst) (h f : Nat) (hT : Tok T) (hf : f < npV (vT T)) (hh : h < 5) (hk : Tok (hoT2 T h f)) : Md E mX6_holds ad [.ref (ad 0), .int (nI h), .int (nI f)] (trC E ad 0 T) (some (.int (bI (!decide (smF (hoT2 T h f) f < smF T f))))) (trC E ad 0 (rqT (hoT2 T h f) 4)) := by
  have v2 := hT.1.2.1
  refine Md.of 1 (by decide) rfl rfl ?_
  refine Tr.aload_n (i := 0) dX6_holds_0 rfl rfl (Eq.refl 1) ?_
  refine Tr.iload_n (i := 2) dX6_holds_1 rfl rfl (Eq.refl 2) ?_
  refine Tr.callVs (c_sumOf E ad T f hT hf) dX6_holds_2 (kX6_130 (Nat.le_of_ble_eq_true rfl)) iX6_sumOf rfl rfl rfl rfl rfl (trC_le _ _ _ _ _) rfl rfl (Eq.refl 5) ?_
  have hpq : pT (rqT T 4) = pT T := rfl
  have hgo : hoT2 T h f = uP (rqT T 4) (plE (pT T) f h 4) := rfl
  have hvq : vT (rqT T 4) = vT T := rfl
  generalize rqT T 4 = Q at *
  obtain ⟨V, X, P, L, O, S, W, ch, mo, z, G, K, bs, br, rg, lr, D⟩ := Q
  have hpq : P = pT T := hpq
  subst hpq
  refine Tr.pic (w' := trX E ad 0 V X (pT T) L O S W ch mo z G K bs br rg lr (D 0) (D 1) (D 2) (D 3) (D 4)) rfl ?_
  refine Tr.istore_n (i := 3) dX6_holds_5 rfl rfl rfl (Eq.refl 6) ?_
  refine Tr.aload_n (i := 0) dX6_holds_6 rfl rfl (Eq.refl 7) ?_
  refine Tr.getf dX6_holds_7 fX6_21 rfl rfl (Eq.refl 10) ?_
  refine Tr.iload_n (i := 2) dX6_holds_10 rfl rfl (Eq.refl 11) ?_
  rw [← cl_lt hh]
  refine Tr.iload_n (i := 1) dX6_holds_11 rfl rfl (Eq.refl 12) ?_
  refine Tr.callV (L := [12, 13, 14]) (c_planEach E _ (pT T) L f h (by omega)) dX6_holds_12 (kX6_174 (Nat.le_of_ble_eq_true rfl)) iX8_planEach rfl rfl rfl rfl rfl rfl rfl rfl rfl rfl (Eq.refl 15) ?_
  refine Tr.pic (w' := trX E ad 0 V X (plE (pT T) f h 4) L O S W ch mo z G K bs br rg lr (D 0) (D 1) (D 2) (D 3) (D 4)) (putB_eq (Lc := [0, 1, 2, 3, 4, 5, 6, 7, 8, 9, 10, 11, 15, 16, 17, 18, 19, 20, 21, 22, 23, 24, 25, 26, 27, 28, 29, 30, 31, 32, 33, 34, 35, 36, 37, 38, 39, 40, 41, 42, 43, 44, 45, 46, 47, 48, 49, 50, 51, 52, 53, 54, 55, 56, 57, 58, 59, 60, 61, 62, 63, 64, 65, 66, 67, 68, 69, 70]) 71 rfl rfl rfl rfl ⟨⟨_, rfl, rfl⟩, ⟨_, rfl, rfl⟩, ⟨_, rfl, rfl⟩, ⟨_, rfl, rfl⟩, ⟨_, rfl, rfl⟩, ⟨_, rfl, rfl⟩, ⟨_, rfl, rfl⟩, ⟨_, rfl, rfl⟩, ⟨_, rfl, rfl⟩, ⟨_, rfl, rfl⟩, ⟨_, rfl, rfl⟩, ⟨_, rfl, rfl⟩, ⟨_, rfl, rfl⟩, ⟨_, rfl, rfl⟩, ⟨_, rfl, rfl⟩, ⟨_, rfl, rfl⟩, ⟨_, rfl, rfl⟩, ⟨_, rfl, rfl⟩, ⟨_, rfl, rfl⟩, ⟨_, rfl, rfl⟩, ⟨_, rfl, rfl⟩, ⟨_, rfl, rfl⟩, ⟨_, rfl, rfl⟩, ⟨_, rfl, rfl⟩, ⟨_, rfl, rfl⟩, ⟨_, rfl, rfl⟩, ⟨_, rfl, rfl⟩, ⟨_, rfl, rfl⟩, ⟨_, rfl, rfl⟩, ⟨_, rfl, rfl⟩, ⟨_, rfl, rfl⟩, ⟨_, rfl, rfl⟩, ⟨_, rfl, rfl⟩, ⟨_, rfl, rfl⟩, ⟨_, rfl, rfl⟩, ⟨_, rfl, rfl⟩, ⟨_, rfl, rfl⟩, ⟨_, rfl, rfl⟩, ⟨_, rfl, rfl⟩, ⟨_, rfl, rfl⟩, ⟨_, rfl, rfl⟩, ⟨_, rfl, rfl⟩, ⟨_, rfl, rfl⟩, ⟨_, rfl, rfl⟩, ⟨_, rfl, rfl⟩, ⟨_, rfl, rfl⟩, ⟨_, rfl, rfl⟩, ⟨_, rfl, rfl⟩, ⟨_, rfl, rfl⟩, ⟨_, rfl, rfl⟩, ⟨_, rfl, rfl⟩, ⟨_, rfl, rfl⟩, ⟨_, rfl, rfl⟩, ⟨_, rfl, rfl⟩, ⟨_, rfl, rfl⟩, ⟨_, rfl, rfl⟩, ⟨_, rfl, rfl⟩, ⟨_, rfl, rfl⟩, ⟨_, rfl, rfl⟩, ⟨_, rfl, rfl⟩, ⟨_, rfl, rfl⟩, ⟨_, rfl, rfl⟩, ⟨_, rfl, rfl⟩, ⟨_, rfl, rfl⟩, ⟨_, rfl, rfl⟩, ⟨_, rfl, rfl⟩, ⟨_, rfl, rfl⟩, ⟨_, rfl, rfl⟩, trivial⟩ (by decide) rfl) ?_
  refine Tr.pic (w' := trC E ad 0 (hoT2 T h f)) (by rw [hgo]; rfl) ?_
  refine Tr.aload_n (i := 0) dX6_holds_15 rfl rfl (Eq.refl 16) ?_
  refine Tr.iload_n (i := 2) dX6_holds_16 rfl rfl (Eq.refl 17) ?_
  refine Tr.callVs (c_sumOf E ad (hoT2 T h f) f hk (by rw [hgo]; show f < npV V; have hvq : V = vT T := hvq; rw [hvq]; exact hf)) dX6_holds_17 (kX6_130 (Nat.le_of_ble_eq_true rfl)) iX6_sumOf rfl rfl rfl rfl rfl (trC_le _ _ _ _ _) rfl rfl (Eq.refl 20) ?_
  refine Tr.iload_n (i := 3) dX6_holds_20 rfl rfl (Eq.refl 21) ?_
  refine Tr.icmp_lt (tgt := 28) dX6_holds_21 (by decide) (Eq.refl 24) (fun h21 => ?_) (fun h21 => ?_)
  · rw [show (!decide (smF (hoT2 T h f) f < smF T f)) = false from by simp [h21]]
    refine Tr.iconst (v := nI 0) dX6_holds_28 (icN 0) (Eq.refl 29) ?_
    refine Tr.iret dX6_holds_29 rfl (by first | rfl | exact bI_nar _) ?_ ?_
    · rfl
    · rfl
  · rw [show (!decide (smF (hoT2 T h f) f < smF T f)) = true from by simp [h21]]
    refine Tr.iconst (v := nI 1) dX6_holds_24 (icN 1) (Eq.refl 25) ?_
    refine Tr.goto (pc' := 29) dX6_holds_25 (by decide) ?_
    refine Tr.iret dX6_holds_29 rfl (by first | rfl | exact bI_nar _) ?_ ?_
    · rfl
    · rfl
def lwT (T : Tst) (b : Bool) (a : Nat) : Tst := uV T (vRu (vLa (vT T) b) (upd (ruV (vT T)) 1 (nI a)))
theorem lwT_Tok {T : Tst} {b : Bool} {a : Nat} (h : Tok T) : Tok (lwT T b a) := Tok_v h rfl rfl rfl rfl
set_option maxHeartbeats 4000000 in
set_option maxRecDepth 100000 in
theorem c_runLaw (E : EnvT) (ad : Nat → Nat) (T : Tst) (b : Bool) (a d : Nat) (hT : Tok T) (hd : d < 1000) : Md E mX6_runLaw ad [.ref (ad 0), .int (bI b), .int (nI a), .int (nI d)] (trC E ad 0 T) none (trC E ad 0 (rqT (lwT T b a) (d * 4))) := by
  refine Md.of 0 (by decide) rfl rfl ?_
  refine Tr.aload_n (i := 0) dX6_runLaw_0 rfl rfl (Eq.refl 1) ?_
  refine Tr.getf dX6_runLaw_1 fX6_12 rfl rfl (Eq.refl 4) ?_
  refine Tr.iload_n (i := 1) dX6_runLaw_4 rfl rfl (Eq.refl 5) ?_
  refine Tr.putf dX6_runLaw_5 pX6_214 rfl (bI_nar _) (bI_fit _) rfl (Eq.refl 8) ?_
  refine Tr.aload_n (i := 0) dX6_runLaw_8 rfl rfl (Eq.refl 9) ?_
  refine Tr.getf dX6_runLaw_9 fX6_12 rfl rfl (Eq.refl 12) ?_
  refine Tr.getf dX6_runLaw_12 fX6_208 rfl rfl (Eq.refl 15) ?_
  refine Tr.iconst (v := nI 1) dX6_runLaw_15 (icN 1) (Eq.refl 16) ?_
  refine Tr.iload_n (i := 2) dX6_runLaw_16 rfl rfl (Eq.refl 17) ?_
  refine Tr.iastN dX6_runLaw_17 rfl (by omega) (by decide) (Eq.refl 18) ?_
  refine Tr.pic (w' := trC E ad 0 (lwT T b a)) rfl ?_
  refine Tr.aload_n (i := 0) dX6_runLaw_18 rfl rfl (Eq.refl 19) ?_
  refine Tr.iload_n (i := 3) dX6_runLaw_19 rfl rfl (Eq.refl 20) ?_
  refine Tr.iconst (v := nI 4) dX6_runLaw_20 (icN 4) (Eq.refl 21) ?_
  refine Tr.imulN dX6_runLaw_21 (Eq.refl 22) ?_
  refine Tr.callVs (c_runQuarters E ad (lwT T b a) (d * 4) (lwT_Tok hT) (by omega)) dX6_runLaw_22 (kX6_89 (Nat.le_of_ble_eq_true rfl)) iX6_runQuarters rfl rfl rfl rfl rfl (trC_le _ _ _ _ _) rfl rfl (Eq.refl 25) ?_
  refine Tr.ret dX6_runLaw_25 rfl rfl ?_
  · rfl
def gaF (T : Tst) : Nat → Int32
  | 0 => nI 0
  | p + 1 => gaF T p + (alS (sT T) p - alS (oT T) p)
def slF (T : Tst) : Nat → Int32
  | 0 => nI 0
  | h + 1 => slF T h + (stS (oT T) h - stS (sT T) h)
set_option maxHeartbeats 4000000 in
set_option maxRecDepth 100000 in
theorem c_gainOfAll (E : EnvT) (ad : Nat → Nat) (T : Tst) (hV : Vok (vT T)) : Md E mX6_gainOfAll ad [.ref (ad 0)] (trC E ad 0 T) (some (.int (gaF T (npV (vT T))))) (trC E ad 0 T) := by
  have v1 := hV.1
  have v2 := hV.2.1
  refine Md.of 2 (by decide) rfl rfl ?_
  refine Tr.iconst (v := nI 0) dX6_gainOfAll_0 (icN 0) (Eq.refl 1) ?_
  refine Tr.istore_n (i := 1) dX6_gainOfAll_1 rfl rfl rfl (Eq.refl 2) ?_
  refine Tr.iconst (v := nI 0) dX6_gainOfAll_2 (icN 0) (Eq.refl 3) ?_
  refine Tr.istore_n (i := 2) dX6_gainOfAll_3 rfl rfl rfl (Eq.refl 4) ?_
  refine Tr.mask [true, true, true] (lv' := [some (.ref (ad 0)), some (.int (gaF T 0)), some (.int (nI 0))]) rfl ?_
  refine loopD (P := fun i => Tr _ 0 0 4 [some (.ref (ad 0)), some (.int (gaF T i)), some (.int (nI i))] [] (trC E ad 0 T)) (npV (vT T)) ?_ (fun i hi ih => ?_)
  · refine Tr.iload_n (i := 2) dX6_gainOfAll_4 rfl rfl (Eq.refl 5) ?_
    refine Tr.aload_n (i := 0) dX6_gainOfAll_5 rfl rfl (Eq.refl 6) ?_
    refine Tr.getf dX6_gainOfAll_6 fX6_12 rfl rfl (Eq.refl 9) ?_
    refine Tr.getf dX6_gainOfAll_9 fX6_127 rfl rfl (Eq.refl 12) ?_
    refine Tr.icmp_geN (tgt := 43) dX6_gainOfAll_12 (by decide) (Eq.refl 15) (by omega) (by omega) (fun h12 => ?_) (fun h12 => ?_)
    · refine Tr.iload_n (i := 1) dX6_gainOfAll_43 rfl rfl (Eq.refl 44) ?_
      refine Tr.iret dX6_gainOfAll_44 rfl (by first | rfl | exact bI_nar _) ?_ ?_
      · rfl
      · rfl
    · exact absurd h12 (by omega)
  · refine Tr.iload_n (i := 2) dX6_gainOfAll_4 rfl rfl (Eq.refl 5) ?_
    refine Tr.aload_n (i := 0) dX6_gainOfAll_5 rfl rfl (Eq.refl 6) ?_
    refine Tr.getf dX6_gainOfAll_6 fX6_12 rfl rfl (Eq.refl 9) ?_
    refine Tr.getf dX6_gainOfAll_9 fX6_127 rfl rfl (Eq.refl 12) ?_
    refine Tr.icmp_geN (tgt := 43) dX6_gainOfAll_12 (by decide) (Eq.refl 15) (by omega) (by omega) (fun h12 => ?_) (fun h12 => ?_)
    · exact absurd h12 (by omega)
    · refine Tr.iload_n (i := 1) dX6_gainOfAll_15 rfl rfl (Eq.refl 16) ?_
      refine Tr.aload_n (i := 0) dX6_gainOfAll_16 rfl rfl (Eq.refl 17) ?_
      refine Tr.getf dX6_gainOfAll_17 fX6_32 rfl rfl (Eq.refl 20) ?_
      refine Tr.getf dX6_gainOfAll_20 fX6_93 rfl rfl (Eq.refl 23) ?_
      refine Tr.iload_n (i := 2) dX6_gainOfAll_23 rfl rfl (Eq.refl 24) ?_
      refine Tr.ialdN dX6_gainOfAll_24 rfl (by omega) (by decide) (Eq.refl 25) ?_
      refine Tr.aload_n (i := 0) dX6_gainOfAll_25 rfl rfl (Eq.refl 26) ?_
      refine Tr.getf dX6_gainOfAll_26 fX6_28 rfl rfl (Eq.refl 29) ?_
      refine Tr.getf dX6_gainOfAll_29 fX6_93 rfl rfl (Eq.refl 32) ?_
      refine Tr.iload_n (i := 2) dX6_gainOfAll_32 rfl rfl (Eq.refl 33) ?_
      refine Tr.ialdN dX6_gainOfAll_33 rfl (by omega) (by decide) (Eq.refl 34) ?_
      refine Tr.isub dX6_gainOfAll_34 (Eq.refl 35) ?_
      refine Tr.iadd dX6_gainOfAll_35 (Eq.refl 36) ?_
      refine Tr.istore_n (i := 1) dX6_gainOfAll_36 rfl rfl rfl (Eq.refl 37) ?_
      refine Tr.iincN dX6_gainOfAll_37 rfl rfl rfl (Eq.refl 40) ?_
      refine Tr.goto (pc' := 4) dX6_gainOfAll_40 (by decide) ?_
      exact Tr.eqs rfl rfl rfl ih
set_option maxHeartbeats 4000000 in
set_option maxRecDepth 100000 in
theorem c_stateLost (E : EnvT) (ad : Nat → Nat) (T : Tst) (hV : Vok (vT T)) : Md E mX6_stateLost ad [.ref (ad 0)] (trC E ad 0 T) (some (.int (slF T (nhV (vT T))))) (trC E ad 0 T) := by
  have v1 := hV.1
  have v2 := hV.2.1
  refine Md.of 2 (by decide) rfl rfl ?_
  refine Tr.iconst (v := nI 0) dX6_stateLost_0 (icN 0) (Eq.refl 1) ?_
  refine Tr.istore_n (i := 1) dX6_stateLost_1 rfl rfl rfl (Eq.refl 2) ?_
  refine Tr.iconst (v := nI 0) dX6_stateLost_2 (icN 0) (Eq.refl 3) ?_
  refine Tr.istore_n (i := 2) dX6_stateLost_3 rfl rfl rfl (Eq.refl 4) ?_
  refine Tr.mask [true, true, true] (lv' := [some (.ref (ad 0)), some (.int (slF T 0)), some (.int (nI 0))]) rfl ?_
  refine loopD (P := fun i => Tr _ 0 0 4 [some (.ref (ad 0)), some (.int (slF T i)), some (.int (nI i))] [] (trC E ad 0 T)) (nhV (vT T)) ?_ (fun i hi ih => ?_)
  · refine Tr.iload_n (i := 2) dX6_stateLost_4 rfl rfl (Eq.refl 5) ?_
    refine Tr.aload_n (i := 0) dX6_stateLost_5 rfl rfl (Eq.refl 6) ?_
    refine Tr.getf dX6_stateLost_6 fX6_12 rfl rfl (Eq.refl 9) ?_
    refine Tr.getf dX6_stateLost_9 fX6_71 rfl rfl (Eq.refl 12) ?_
    refine Tr.icmp_geN (tgt := 43) dX6_stateLost_12 (by decide) (Eq.refl 15) (by omega) (by omega) (fun h12 => ?_) (fun h12 => ?_)
    · refine Tr.iload_n (i := 1) dX6_stateLost_43 rfl rfl (Eq.refl 44) ?_
      refine Tr.iret dX6_stateLost_44 rfl (by first | rfl | exact bI_nar _) ?_ ?_
      · rfl
      · rfl
    · exact absurd h12 (by omega)
  · refine Tr.iload_n (i := 2) dX6_stateLost_4 rfl rfl (Eq.refl 5) ?_
    refine Tr.aload_n (i := 0) dX6_stateLost_5 rfl rfl (Eq.refl 6) ?_
    refine Tr.getf dX6_stateLost_6 fX6_12 rfl rfl (Eq.refl 9) ?_
    refine Tr.getf dX6_stateLost_9 fX6_71 rfl rfl (Eq.refl 12) ?_
    refine Tr.icmp_geN (tgt := 43) dX6_stateLost_12 (by decide) (Eq.refl 15) (by omega) (by omega) (fun h12 => ?_) (fun h12 => ?_)
    · exact absurd h12 (by omega)
    · refine Tr.iload_n (i := 1) dX6_stateLost_15 rfl rfl (Eq.refl 16) ?_
      refine Tr.aload_n (i := 0) dX6_stateLost_16 rfl rfl (Eq.refl 17) ?_
      refine Tr.getf dX6_stateLost_17 fX6_28 rfl rfl (Eq.refl 20) ?_
      refine Tr.getf dX6_stateLost_20 fX6_218 rfl rfl (Eq.refl 23) ?_
      refine Tr.iload_n (i := 2) dX6_stateLost_23 rfl rfl (Eq.refl 24) ?_
      refine Tr.ialdN dX6_stateLost_24 rfl (by omega) (by decide) (Eq.refl 25) ?_
      refine Tr.aload_n (i := 0) dX6_stateLost_25 rfl rfl (Eq.refl 26) ?_
      refine Tr.getf dX6_stateLost_26 fX6_32 rfl rfl (Eq.refl 29) ?_
      refine Tr.getf dX6_stateLost_29 fX6_218 rfl rfl (Eq.refl 32) ?_
      refine Tr.iload_n (i := 2) dX6_stateLost_32 rfl rfl (Eq.refl 33) ?_
      refine Tr.ialdN dX6_stateLost_33 rfl (by omega) (by decide) (Eq.refl 34) ?_
      refine Tr.isub dX6_stateLost_34 (Eq.refl 35) ?_
      refine Tr.iadd dX6_stateLost_35 (Eq.refl 36) ?_
      refine Tr.istore_n (i := 1) dX6_stateLost_36 rfl rfl rfl (Eq.refl 37) ?_
      refine Tr.iincN dX6_stateLost_37 rfl rfl rfl (Eq.refl 40) ?_
      refine Tr.goto (pc' := 4) dX6_stateLost_40 (by decide) ?_
      exact Tr.eqs rfl rfl rfl ih
theorem bet_neg {g x : Int32} {f n : Nat} (h : ¬ g < x) : bet g f x n = (g, f) := by unfold bet; rw [if_neg h]
theorem bet_pos {g x : Int32} {f n : Nat} (h : g < x) : bet g f x n = (x, n) := by unfold bet; rw [if_pos h]
/-- laws one by one: the trial, greatest gain, which -/
def glS (d : Nat) (q : Tst × Int32 × Nat) (b : Bool) (a n : Nat) : Tst × Int32 × Nat := (rqT (lwT q.1 b a) (d * 4), bet q.2.1 q.2.2 (gaF (rqT (lwT q.1 b a) (d * 4)) (npV (vT q.1))) n)
def glF (d : Nat) (q : Tst × Int32 × Nat) (b : Bool) (m : Nat) : Nat → Tst × Int32 × Nat
  | 0 => q
  | a + 1 => glS d (glF d q b m a) b a (m + a)
def glA (d : Nat) (T : Tst) : Nat → Tst × Int32 × Nat
  | 0 => (T, -1000000, 0)
  | i + 1 => glF d (glA d T i) (decide (i = 1)) (100 * i) 29
theorem glF_ok {d : Nat} {q : Tst × Int32 × Nat} {b : Bool} {m : Nat} (h : Tok q.1) : ∀ n, Tok (glF d q b m n).1 ∧ npV (vT (glF d q b m n).1) = npV (vT q.1) := by
  intro n
  induction n with
  | zero => exact ⟨h, rfl⟩
  | succ n ih => exact ⟨rqT_Tok _ (lwT_Tok ih.1), ih.2⟩
theorem glA_ok {d : Nat} {T : Tst} (h : Tok T) : ∀ n, Tok (glA d T n).1 ∧ npV (vT (glA d T n).1) = npV (vT T) := by
  intro n
  induction n with
  | zero => exact ⟨h, rfl⟩
  | succ n ih =>
    obtain ⟨a, b⟩ := glF_ok (d := d) (b := decide (n = 1)) (m := 100 * n) ih.1 29
    exact ⟨a, b.trans ih.2⟩
set_option maxHeartbeats 4000000 in
set_option maxRecDepth 100000 in
theorem c_greatestLaw (E : EnvT) (ad : Nat → Nat) (T : Tst) (d : Nat) (hT : Tok T) (hd : d < 1000) : Md E mX6_greatestLaw ad [.ref (ad 0), .int (nI d)] (trC E ad 0 T) (some (.int (nI (glA d T 2).2.2))) (trC E ad 0 (glA d T 2).1) := by
  refine Md.of 4 (by decide) rfl rfl ?_
  refine Tr.ldc dX6_greatestLaw_0 qX6_96 (Eq.refl 2) ?_
  refine Tr.istore_n (i := 2) dX6_greatestLaw_2 rfl rfl rfl (Eq.refl 3) ?_
  refine Tr.iconst (v := nI 0) dX6_greatestLaw_3 (icN 0) (Eq.refl 4) ?_
  refine Tr.istore_n (i := 3) dX6_greatestLaw_4 rfl rfl rfl (Eq.refl 5) ?_
  refine Tr.iconst (v := nI 0) dX6_greatestLaw_5 (icN 0) (Eq.refl 6) ?_
  refine Tr.istore dX6_greatestLaw_6 rfl rfl (Eq.refl 8) ?_
  refine Tr.mask [true, true, true, true, true, true] (lv' := [some (.ref (ad 0)), some (.int (nI d)), some (.int (glA d T 0).2.1), some (.int (nI (glA d T 0).2.2)), some (.int (nI 0)), none]) rfl ?_
  refine loopD (P := fun i => Tr _ 0 0 8 [some (.ref (ad 0)), some (.int (nI d)), some (.int (glA d T i).2.1), some (.int (nI (glA d T i).2.2)), some (.int (nI i)), none] [] (trC E ad 0 (glA d T i).1)) 2 ?_ (fun i hi ih => ?_)
  · refine Tr.iload dX6_greatestLaw_8 rfl (Eq.refl 10) ?_
    refine Tr.iconst (v := nI 2) dX6_greatestLaw_10 (icN 2) (Eq.refl 11) ?_
    refine Tr.icmp_geN (tgt := 76) dX6_greatestLaw_11 (by decide) (Eq.refl 14) (by omega) (by omega) (fun h11 => ?_) (fun h11 => ?_)
    · refine Tr.iload_n (i := 3) dX6_greatestLaw_76 rfl rfl (Eq.refl 77) ?_
      refine Tr.iret dX6_greatestLaw_77 rfl (by first | rfl | exact bI_nar _) ?_ ?_
      · rfl
      · rfl
    · exact absurd h11 (by omega)
  · obtain ⟨k1, k2⟩ := glA_ok (d := d) hT i
    have hI : glA d T (i + 1) = glF d (glA d T i) (decide (i = 1)) (100 * i) 29 := rfl
    rw [hI] at ih
    clear hI
    generalize glA d T i = A at *
    refine Tr.iload dX6_greatestLaw_8 rfl (Eq.refl 10) ?_
    refine Tr.iconst (v := nI 2) dX6_greatestLaw_10 (icN 2) (Eq.refl 11) ?_
    refine Tr.icmp_geN (tgt := 76) dX6_greatestLaw_11 (by decide) (Eq.refl 14) (by omega) (by omega) (fun h11 => ?_) (fun h11 => ?_)
    · exact absurd h11 (by omega)
    · refine Tr.iconst (v := nI 0) dX6_greatestLaw_14 (icN 0) (Eq.refl 15) ?_
      refine Tr.istore dX6_greatestLaw_15 rfl rfl (Eq.refl 17) ?_
      refine Tr.mask [true, true, true, true, true, true] (lv' := [some (.ref (ad 0)), some (.int (nI d)), some (.int (glF d A (decide (i = 1)) (100 * i) 0).2.1), some (.int (nI (glF d A (decide (i = 1)) (100 * i) 0).2.2)), some (.int (nI i)), some (.int (nI 0))]) rfl ?_
      refine loopD (P := fun a => Tr _ 0 0 17 [some (.ref (ad 0)), some (.int (nI d)), some (.int (glF d A (decide (i = 1)) (100 * i) a).2.1), some (.int (nI (glF d A (decide (i = 1)) (100 * i) a).2.2)), some (.int (nI i)), some (.int (nI a))] [] (trC E ad 0 (glF d A (decide (i = 1)) (100 * i) a).1)) 29 ?_ (fun a ha ih2 => ?_)
      · refine Tr.iload dX6_greatestLaw_17 rfl (Eq.refl 19) ?_
        refine Tr.bipush (v := nI 28) dX6_greatestLaw_19 (by decide +kernel) (Eq.refl 21) ?_
        refine Tr.icmp_gtN (tgt := 70) dX6_greatestLaw_21 (by decide) (Eq.refl 24) (by omega) (by omega) (fun h21 => ?_) (fun h21 => ?_)
        · refine Tr.iincN dX6_greatestLaw_70 rfl rfl rfl (Eq.refl 73) ?_
          refine Tr.goto (pc' := 8) dX6_greatestLaw_73 (by decide) ?_
          exact Tr.mask [true, true, true, true, true, false] rfl ih
        · exact absurd h21 (by omega)
      · obtain ⟨m1, m2⟩ := glF_ok (d := d) (b := decide (i = 1)) (m := 100 * i) k1 a
        have hJ : glF d A (decide (i = 1)) (100 * i) (a + 1) = glS d (glF d A (decide (i = 1)) (100 * i) a) (decide (i = 1)) a (100 * i + a) := rfl
        rw [hJ] at ih2
        clear hJ
        generalize glF d A (decide (i = 1)) (100 * i) a = B at *
        obtain ⟨B, g, f⟩ := B
        have m1 : Tok B := m1
        refine Tr.iload dX6_greatestLaw_17 rfl (Eq.refl 19) ?_
        refine Tr.bipush (v := nI 28) dX6_greatestLaw_19 (by decide +kernel) (Eq.refl 21) ?_
        refine Tr.icmp_gtN (tgt := 70) dX6_greatestLaw_21 (by decide) (Eq.refl 24) (by omega) (by omega) (fun h21 => ?_) (fun h21 => ?_)
        · exact absurd h21 (by omega)
        · refine Tr.aload_n (i := 0) dX6_greatestLaw_24 rfl rfl (Eq.refl 25) ?_
          refine Tr.iload dX6_greatestLaw_25 rfl (Eq.refl 27) ?_
          refine Tr.iconst (v := nI 1) dX6_greatestLaw_27 (icN 1) (Eq.refl 28) ?_
          refine Tr.icmp_neN (tgt := 35) dX6_greatestLaw_28 (by decide) (Eq.refl 31) (by omega) (by omega) (fun h28 => ?_) (fun h28 => ?_)
          · have hb : decide (i = 1) = false := by simp [h28]
            refine Tr.iconst (v := nI 0) dX6_greatestLaw_35 (icN 0) (Eq.refl 36) ?_
            refine Tr.eqs (st' := .int (bI (decide (i = 1))) :: .ref (ad 0) :: []) rfl (by rw [hb]; rfl) rfl ?_
            refine Tr.iload dX6_greatestLaw_36 rfl (Eq.refl 38) ?_
            refine Tr.iload_n (i := 1) dX6_greatestLaw_38 rfl rfl (Eq.refl 39) ?_
            refine Tr.callVs (c_runLaw E ad B (decide (i = 1)) a d m1 hd) dX6_greatestLaw_39 (kX6_221 (Nat.le_of_ble_eq_true rfl)) iX6_runLaw rfl rfl rfl rfl rfl (trC_le _ _ _ _ _) rfl rfl (Eq.refl 42) ?_
            refine Tr.aload_n (i := 0) dX6_greatestLaw_42 rfl rfl (Eq.refl 43) ?_
            refine Tr.callVs (c_gainOfAll E ad (rqT (lwT B (decide (i = 1)) a) (d * 4)) (lwT_Tok m1).1) dX6_greatestLaw_43 (kX6_225 (Nat.le_of_ble_eq_true rfl)) iX6_gainOfAll rfl rfl rfl rfl rfl (trC_le _ _ _ _ _) rfl rfl (Eq.refl 46) ?_
            refine Tr.iload_n (i := 2) dX6_greatestLaw_46 rfl rfl (Eq.refl 47) ?_
            refine Tr.icmp_leL (tgt := 64) dX6_greatestLaw_47 (by decide) (Eq.refl 50) (fun h47 => ?_) (fun h47 => ?_)
            · have hx : glS d (B, g, f) (decide (i = 1)) a (100 * i + a) = (rqT (lwT B (decide (i = 1)) a) (d * 4), g, f) := Prod.ext rfl (bet_neg h47)
              refine Tr.iincN dX6_greatestLaw_64 rfl rfl rfl (Eq.refl 67) ?_
              refine Tr.goto (pc' := 17) dX6_greatestLaw_67 (by decide) ?_
              rw [hx] at ih2
              exact Tr.eqs rfl rfl rfl ih2
            · have hx : glS d (B, g, f) (decide (i = 1)) a (100 * i + a) = (rqT (lwT B (decide (i = 1)) a) (d * 4), gaF (rqT (lwT B (decide (i = 1)) a) (d * 4)) (npV (vT B)), 100 * i + a) := Prod.ext rfl (bet_pos h47)
              refine Tr.aload_n (i := 0) dX6_greatestLaw_50 rfl rfl (Eq.refl 51) ?_
              refine Tr.callVs (c_gainOfAll E ad (rqT (lwT B (decide (i = 1)) a) (d * 4)) (lwT_Tok m1).1) dX6_greatestLaw_51 (kX6_225 (Nat.le_of_ble_eq_true rfl)) iX6_gainOfAll rfl rfl rfl rfl rfl (trC_le _ _ _ _ _) rfl rfl (Eq.refl 54) ?_
              refine Tr.istore_n (i := 2) dX6_greatestLaw_54 rfl rfl rfl (Eq.refl 55) ?_
              refine Tr.bipush (v := nI 100) dX6_greatestLaw_55 (by decide +kernel) (Eq.refl 57) ?_
              refine Tr.iload dX6_greatestLaw_57 rfl (Eq.refl 59) ?_
              refine Tr.imulN dX6_greatestLaw_59 (Eq.refl 60) ?_
              refine Tr.iload dX6_greatestLaw_60 rfl (Eq.refl 62) ?_
              refine Tr.iaddN dX6_greatestLaw_62 (Eq.refl 63) ?_
              refine Tr.istore_n (i := 3) dX6_greatestLaw_63 rfl rfl rfl (Eq.refl 64) ?_
              refine Tr.iincN dX6_greatestLaw_64 rfl rfl rfl (Eq.refl 67) ?_
              refine Tr.goto (pc' := 17) dX6_greatestLaw_67 (by decide) ?_
              rw [hx] at ih2
              exact Tr.eqs rfl rfl rfl ih2
          · have hb : decide (i = 1) = true := by simp [h28]
            refine Tr.iconst (v := nI 1) dX6_greatestLaw_31 (icN 1) (Eq.refl 32) ?_
            refine Tr.goto (pc' := 36) dX6_greatestLaw_32 (by decide) ?_
            refine Tr.eqs (st' := .int (bI (decide (i = 1))) :: .ref (ad 0) :: []) rfl (by rw [hb]; rfl) rfl ?_
            refine Tr.iload dX6_greatestLaw_36 rfl (Eq.refl 38) ?_
            refine Tr.iload_n (i := 1) dX6_greatestLaw_38 rfl rfl (Eq.refl 39) ?_
            refine Tr.callVs (c_runLaw E ad B (decide (i = 1)) a d m1 hd) dX6_greatestLaw_39 (kX6_221 (Nat.le_of_ble_eq_true rfl)) iX6_runLaw rfl rfl rfl rfl rfl (trC_le _ _ _ _ _) rfl rfl (Eq.refl 42) ?_
            refine Tr.aload_n (i := 0) dX6_greatestLaw_42 rfl rfl (Eq.refl 43) ?_
            refine Tr.callVs (c_gainOfAll E ad (rqT (lwT B (decide (i = 1)) a) (d * 4)) (lwT_Tok m1).1) dX6_greatestLaw_43 (kX6_225 (Nat.le_of_ble_eq_true rfl)) iX6_gainOfAll rfl rfl rfl rfl rfl (trC_le _ _ _ _ _) rfl rfl (Eq.refl 46) ?_
            refine Tr.iload_n (i := 2) dX6_greatestLaw_46 rfl rfl (Eq.refl 47) ?_
            refine Tr.icmp_leL (tgt := 64) dX6_greatestLaw_47 (by decide) (Eq.refl 50) (fun h47 => ?_) (fun h47 => ?_)
            · have hx : glS d (B, g, f) (decide (i = 1)) a (100 * i + a) = (rqT (lwT B (decide (i = 1)) a) (d * 4), g, f) := Prod.ext rfl (bet_neg h47)
              refine Tr.iincN dX6_greatestLaw_64 rfl rfl rfl (Eq.refl 67) ?_
              refine Tr.goto (pc' := 17) dX6_greatestLaw_67 (by decide) ?_
              rw [hx] at ih2
              exact Tr.eqs rfl rfl rfl ih2
            · have hx : glS d (B, g, f) (decide (i = 1)) a (100 * i + a) = (rqT (lwT B (decide (i = 1)) a) (d * 4), gaF (rqT (lwT B (decide (i = 1)) a) (d * 4)) (npV (vT B)), 100 * i + a) := Prod.ext rfl (bet_pos h47)
              refine Tr.aload_n (i := 0) dX6_greatestLaw_50 rfl rfl (Eq.refl 51) ?_
              refine Tr.callVs (c_gainOfAll E ad (rqT (lwT B (decide (i = 1)) a) (d * 4)) (lwT_Tok m1).1) dX6_greatestLaw_51 (kX6_225 (Nat.le_of_ble_eq_true rfl)) iX6_gainOfAll rfl rfl rfl rfl rfl (trC_le _ _ _ _ _) rfl rfl (Eq.refl 54) ?_
              refine Tr.istore_n (i := 2) dX6_greatestLaw_54 rfl rfl rfl (Eq.refl 55) ?_
              refine Tr.bipush (v := nI 100) dX6_greatestLaw_55 (by decide +kernel) (Eq.refl 57) ?_
              refine Tr.iload dX6_greatestLaw_57 rfl (Eq.refl 59) ?_
              refine Tr.imulN dX6_greatestLaw_59 (Eq.refl 60) ?_
              refine Tr.iload dX6_greatestLaw_60 rfl (Eq.refl 62) ?_
              refine Tr.iaddN dX6_greatestLaw_62 (Eq.refl 63) ?_
              refine Tr.istore_n (i := 3) dX6_greatestLaw_63 rfl rfl rfl (Eq.refl 64) ?_
              refine Tr.iincN dX6_greatestLaw_64 rfl rfl rfl (Eq.refl 67) ?_
              refine Tr.goto (pc' := 17) dX6_greatestLaw_67 (by decide) ?_
              rw [hx] at ih2
              exact Tr.eqs rfl rfl rfl ih2
