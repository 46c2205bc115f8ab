/-! THE REFERENCE: ties -/
def knB (T : Nat → Nat) (len p : Nat) (g : Nat → Int64) (n : Nat) : Bool := decide (tkK T len p = 1) && !decide (fcN T len p g n = 5)
def knT (T : Nat → Nat) {len : Nat} (p : Fin (len + 1)) (vl : Nat) (got : Int32) (f : Nat) (fa : Int32) (g : Nat → Int64) (n : Nat) : Fin (len + 1) × Nat × Int32 × Nat × Int32 := if tkK T len p.1 = 1 then (if fcN T len p.1 g n = 5 then (p, vl, -1, 5, nI (tkS T len p.1)) else (nxP T len p, tkV T len (tkE T len p.1) vl, nI (fcN T len p.1 g n), f, fa)) else (p, vl, got, 1, nI (tkS T len p.1))
theorem m_knownS (E : EnvT) (ad r : Nat → Nat) (i : Nat → Int32) (len : Nat) (p : Fin (len + 1)) (vl : Nat) (got : Int32) (f : Nat) (fa : Int32) (T : Nat → Nat) (g : Nat → Int64) (n : Nat) (hl : len ≤ 900) (hT : ∀ k, k < 900 → T k < 256) (hn : n ≤ 5) : Md E mX10_known ad [.ref (ad 0), .ref (ad 2), .int (nI n)] (mvC E ad r i len p.1 vl got f fa T ++ [aJ E 5 g]) (some (.int (bI (knB T len p.1 g n)))) (mvC E ad r i len (knT T p vl got f fa g n).1.1 (knT T p vl got f fa g n).2.1 (knT T p vl got f fa g n).2.2.1 (knT T p vl got f fa g n).2.2.2.1 (knT T p vl got f fa g n).2.2.2.2 T ++ [aJ E 5 g]) := by
  have h9 := m_known E ad r i len p vl got f fa T g n hl hT hn
  by_cases h : tkK T len p.1 = 1
  · by_cases h3 : fcN T len p.1 g n = 5
    · have e : (knT T p vl got f fa g n) = (p, vl, -1, 5, nI (tkS T len p.1)) := by unfold knT; rw [if_pos h, if_pos h3]
      rw [e]
      rw [if_pos h, if_pos h3] at h9
      exact h9
    · have e : (knT T p vl got f fa g n) = (nxP T len p, tkV T len (tkE T len p.1) vl, nI (fcN T len p.1 g n), f, fa) := by unfold knT; rw [if_pos h, if_neg h3]
      rw [e]
      rw [if_pos h, if_neg h3] at h9
      exact h9
  · have e : (knT T p vl got f fa g n) = (p, vl, got, 1, nI (tkS T len p.1)) := by unfold knT; rw [if_neg h]
    rw [e]
    rw [if_neg h] at h9
    exact h9
def kpT (T : Nat → Nat) {len : Nat} (z : Rst len) : Fin (len + 1) × Nat × Int32 × Nat × Int32 := knT T z.1 z.2.1 z.2.2.1 z.2.2.2.2.2.1 z.2.2.2.2.2.2 z.2.2.2.2.1.2.2.2.2.2.2 (npV z.2.2.2.1)
def kpR (T : Nat → Nat) {len : Nat} (z : Rst len) : Rst len := ((kpT T z).1, (kpT T z).2.1, (kpT T z).2.2.1, z.2.2.2.1, z.2.2.2.2.1, (kpT T z).2.2.2)
def kpB (T : Nat → Nat) {len : Nat} (z : Rst len) : Bool := knB T len z.1.1 z.2.2.2.2.1.2.2.2.2.2.2 (npV z.2.2.2.1)
theorem kpR_v {T : Nat → Nat} {len : Nat} {z : Rst len} (hT : ∀ k, T k < 256) (hv : z.2.1 < 100000) : (kpR T z).2.1 < 100000 := by
  show (knT T z.1 z.2.1 z.2.2.1 z.2.2.2.2.2.1 z.2.2.2.2.2.2 z.2.2.2.2.1.2.2.2.2.2.2 (npV z.2.2.2.1)).2.1 < 100000
  unfold knT
  repeat' split
  · exact hv
  · exact tkV_lt hT hv
  · exact hv
theorem kpR_g {T : Nat → Nat} {len : Nat} {z : Rst len} (h : kpB T z = true) (hn : npV z.2.2.2.1 ≤ 5) : (kpR T z).2.2.1 = nI (rWc T z) ∧ rWc T z < 5 := by
  have h1 := Bool.and_eq_true_iff.mp h
  have h2 : tkK T len z.1.1 = 1 := of_decide_eq_true h1.1
  have h3 : ¬ fcN T len z.1.1 z.2.2.2.2.1.2.2.2.2.2.2 (npV z.2.2.2.1) = 5 := by have h4 := h1.2; simpa using h4
  have h6 : ¬ rWc T z = 5 := h3
  have h4 : fnd z.2.2.2.2.1.2.2.2.2.2.2 (lN (tkM T len z.1.1)) (npV z.2.2.2.1) 0 < 0 + npV z.2.2.2.1 ∨ fnd z.2.2.2.2.1.2.2.2.2.2.2 (lN (tkM T len z.1.1)) (npV z.2.2.2.1) 0 = 5 := fnd_lt _ _ _ 0 (by omega)
  have h5 : rWc T z < 0 + npV z.2.2.2.1 ∨ rWc T z = 5 := h4
  refine ⟨?_, by omega⟩
  show (knT T z.1 z.2.1 z.2.2.1 z.2.2.2.2.2.1 z.2.2.2.2.2.2 z.2.2.2.2.1.2.2.2.2.2.2 (npV z.2.2.2.1)).2.2.1 = _
  unfold knT
  rw [if_pos h2, if_neg h3]
  rfl
def sTt {len : Nat} (z : Rst len) (m : Nat) : Rst len := (z.1, z.2.1, z.2.2.1, z.2.2.2.1, (z.2.2.2.2.1.1, z.2.2.2.2.1.2.1, z.2.2.2.2.1.2.2.1 ||| (nI 1 <<< (nI m &&& 31)), z.2.2.2.2.1.2.2.2), z.2.2.2.2.2)
def tTi {len : Nat} (z : Rst len) (m : Nat) : Rst len := (z.1, z.2.1, z.2.2.1, vTi z.2.2.2.1 (upd (tiV z.2.2.2.1) m (z.2.2.1 - nI 10)), z.2.2.2.2)
def rT3 (T : Nat → Nat) {len : Nat} (m : Nat) (w : Rst len) : Bool × Rst len := if nuB T (nI 0) (nI 20) w then (true, tTi (nuR T (nI 0) (nI 20) w) m) else (false, nuR T (nI 0) (nI 20) w)
def rT2 (T : Nat → Nat) {len : Nat} (c : Nat) (x : Rst len) : Bool × Rst len :=
  if tkK T len x.1.1 = 1 then (if rWc T x < 5 then (if rWc T x = c ∨ bt x.2.2.2.2.1.2.2.1 (5 * c + rWc T x) = true then (false, badR T x 3) else rT3 T (5 * c + rWc T x) (advR T (sTt x (5 * c + rWc T x)))) else (false, badR T x 5)) else (false, badR T x 1)
def rT1 (T : Nat → Nat) {len : Nat} (y : Rst len) : Bool × Rst len := if kpB T y then rT2 T (rWc T y) (kpR T y) else (false, kpR T y)
set_option maxHeartbeats 4000000 in
set_option maxRecDepth 100000 in
theorem m_readTies (E : EnvT) (ad r : Nat → Nat) (i : Nat → Int32) (len : Nat) (T : Nat → Nat) (z : Rst len) (hl : len ≤ 900) (hTa : ∀ k, T k < 256) (hv : z.2.1 < 100000) (hn : npV z.2.2.2.1 ≤ 5) : Md E mX10_readTies ad [.ref (ad 0)] (mrP E ad r i len T z) (some (.int (bI (rT1 T (advR T z)).1))) (mrP E ad r i len T (rT1 T (advR T z)).2) := by
  have hT : ∀ k, k < 900 → T k < 256 := fun k _ => hTa k
  have hv1 : (advR T z).2.1 < 100000 := tkV_lt hTa hv
  have hn1 : npV (advR T z).2.2.2.1 ≤ 5 := hn
  refine Md.of 2 (by decide) rfl rfl ?_
  refine Tr.aload_n (i := 0) dX10_readTies_0 rfl rfl (Eq.refl 1) ?_
  refine Tr.callV (L := [0, 1]) (m_scanV E _ (rR ad r) (iR z.2.2.2.1 z.2.2.2.2.1 i) len z.1 z.2.1 z.2.2.1 z.2.2.2.2.2.1 z.2.2.2.2.2.2 T hl hT) dX10_readTies_1 (kX10_59 (Nat.le_of_ble_eq_true rfl)) iX10_scan rfl rfl rfl rfl rfl rfl rfl rfl rfl rfl (Eq.refl 4) ?_
  refine Tr.pic (w' := mrP E ad r i len T (advR T z)) (putB_eq (Lc := [2, 3, 4, 5, 6, 7, 8, 9, 10, 11]) 12 rfl rfl rfl rfl ⟨⟨_, rfl, rfl⟩, ⟨_, rfl, rfl⟩, ⟨_, rfl, rfl⟩, ⟨_, rfl, rfl⟩, ⟨_, rfl, rfl⟩, ⟨_, rfl, rfl⟩, ⟨_, rfl, rfl⟩, ⟨_, rfl, rfl⟩, ⟨_, rfl, rfl⟩, ⟨_, rfl, rfl⟩, trivial⟩ (by decide) rfl) ?_
  generalize advR T z = y at *
  unfold rT1
  refine Tr.aload_n (i := 0) dX10_readTies_4 rfl rfl (Eq.refl 5) ?_
  refine Tr.aload_n (i := 0) dX10_readTies_5 rfl rfl (Eq.refl 6) ?_
  refine Tr.getf dX10_readTies_6 fX10_105 rfl rfl (Eq.refl 9) ?_
  refine Tr.aload_n (i := 0) dX10_readTies_9 rfl rfl (Eq.refl 10) ?_
  refine Tr.getf dX10_readTies_10 fX10_102 rfl rfl (Eq.refl 13) ?_
  refine Tr.callV (L := [0, 1, 11]) (m_knownS E _ (rR ad r) (iR y.2.2.2.1 y.2.2.2.2.1 i) len y.1 y.2.1 y.2.2.1 y.2.2.2.2.2.1 y.2.2.2.2.2.2 T y.2.2.2.2.1.2.2.2.2.2.2 (npV y.2.2.2.1) hl hT hn1) dX10_readTies_13 (kX10_126 (Nat.le_of_ble_eq_true rfl)) iX10_known rfl rfl rfl rfl rfl rfl rfl rfl rfl rfl (Eq.refl 16) ?_
  refine Tr.pic (w' := mrP E ad r i len T (kpR T y)) (putB_eq (Lc := [2, 3, 4, 5, 6, 7, 8, 9, 10]) 12 rfl rfl rfl rfl ⟨⟨_, rfl, rfl⟩, ⟨_, rfl, rfl⟩, ⟨_, rfl, rfl⟩, ⟨_, rfl, rfl⟩, ⟨_, rfl, rfl⟩, ⟨_, rfl, rfl⟩, ⟨_, rfl, rfl⟩, ⟨_, rfl, rfl⟩, ⟨_, rfl, rfl⟩, trivial⟩ (by decide) rfl) ?_
  refine Tr.top (y := bI (kpB T y)) rfl ?_
  refine Tr.if_neB (tgt := 21) dX10_readTies_16 (by decide) (Eq.refl 19) (fun h16 => ?_) (fun h16 => ?_)
  · rw [if_pos h16]
    obtain ⟨hg, hc5⟩ := kpR_g h16 hn1
    have hv2 : (kpR T y).2.1 < 100000 := kpR_v hTa hv1
    have hn2 : npV (kpR T y).2.2.2.1 ≤ 5 := hn1
    generalize kpR T y = x at *
    generalize rWc T y = c at *
    have hk := tkH_lt T len x.1.1
    have h2 := tkH_1 (T := T) (len := len) (p := x.1.1) (k := 1) (by decide)
    have hfl : rWc T x < 0 + npV x.2.2.2.1 ∨ rWc T x = 5 := fnd_lt _ _ _ 0 (by omega)
    unfold rT2
    refine Tr.aload_n (i := 0) dX10_readTies_21 rfl rfl (Eq.refl 22) ?_
    refine Tr.getf dX10_readTies_22 fX10_56 rfl rfl (Eq.refl 25) ?_
    refine Tr.top hg ?_
    refine Tr.istore_n (i := 1) dX10_readTies_25 rfl rfl rfl (Eq.refl 26) ?_
    refine Tr.aload_n (i := 0) dX10_readTies_26 rfl rfl (Eq.refl 27) ?_
    refine Tr.getf dX10_readTies_27 fX10_27 rfl rfl (Eq.refl 30) ?_
    refine Tr.iconst (v := nI 1) dX10_readTies_30 (icN 1) (Eq.refl 31) ?_
    refine Tr.icmp_eqN (tgt := 40) dX10_readTies_31 (by decide) (Eq.refl 34) (by omega) (by omega) (fun h31 => ?_) (fun h31 => ?_)
    · have h31 := h2.mp h31
      rw [if_pos h31]
      refine Tr.aload_n (i := 0) dX10_readTies_40 rfl rfl (Eq.refl 41) ?_
      refine Tr.aload_n (i := 0) dX10_readTies_41 rfl rfl (Eq.refl 42) ?_
      refine Tr.getf dX10_readTies_42 fX10_105 rfl rfl (Eq.refl 45) ?_
      refine Tr.aload_n (i := 0) dX10_readTies_45 rfl rfl (Eq.refl 46) ?_
      refine Tr.getf dX10_readTies_46 fX10_102 rfl rfl (Eq.refl 49) ?_
      refine Tr.callVr (L := [0, 1, 11]) (m_find E _ (rR ad r) (iR x.2.2.2.1 x.2.2.2.2.1 i) len x.1 x.2.1 x.2.2.1 x.2.2.2.2.2.1 x.2.2.2.2.2.2 T x.2.2.2.2.1.2.2.2.2.2.2 (npV x.2.2.2.1) hl hT h31 hn2) dX10_readTies_49 (kX10_67 (Nat.le_of_ble_eq_true rfl)) iX10_find rfl rfl rfl rfl rfl rfl rfl rfl rfl (Eq.refl 52) ?_
      refine Tr.top (y := cl (rWc T x)) rfl ?_
      generalize rWc T x = q at *
      refine Tr.istore_n (i := 2) dX10_readTies_52 rfl rfl rfl (Eq.refl 53) ?_
      refine Tr.iload_n (i := 2) dX10_readTies_53 rfl rfl (Eq.refl 54) ?_
      refine Tr.iconst (v := (-1)) dX10_readTies_54 (by decide +kernel) (Eq.refl 55) ?_
      refine Tr.icmp_eq (tgt := 85) dX10_readTies_55 (by decide) (Eq.refl 58) (fun h55 => ?_) (fun h55 => ?_)
      · rw [cl_none] at h55
        rw [if_neg h55, cl_ge h55]
        refine Tr.iload_n (i := 2) dX10_readTies_85 rfl rfl (Eq.refl 86) ?_
        refine Tr.iconst (v := (-1)) dX10_readTies_86 (by decide +kernel) (Eq.refl 87) ?_
        refine Tr.icmp_ne (tgt := 96) dX10_readTies_87 (by decide) (Eq.refl 90) (fun h87 => ?_) (fun h87 => ?_)
        · exact absurd rfl h87
        · refine Tr.aload_n (i := 0) dX10_readTies_90 rfl rfl (Eq.refl 91) ?_
          refine Tr.iconst (v := nI 5) dX10_readTies_91 (icN 5) (Eq.refl 92) ?_
          refine Tr.callV (L := [0, 1]) (m_bad E _ (rR ad r) (iR x.2.2.2.1 x.2.2.2.2.1 i) len x.1 x.2.1 x.2.2.1 x.2.2.2.2.2.1 x.2.2.2.2.2.2 T 5) dX10_readTies_92 (kX10_49 (Nat.le_of_ble_eq_true rfl)) iX10_bad rfl rfl rfl rfl rfl rfl rfl rfl rfl rfl (Eq.refl 95) ?_
          refine Tr.pic (w' := mrP E ad r i len T (badR T x 5)) (putB_eq (Lc := [2, 3, 4, 5, 6, 7, 8, 9, 10, 11]) 12 rfl rfl rfl rfl ⟨⟨_, rfl, rfl⟩, ⟨_, rfl, rfl⟩, ⟨_, rfl, rfl⟩, ⟨_, rfl, rfl⟩, ⟨_, rfl, rfl⟩, ⟨_, rfl, rfl⟩, ⟨_, rfl, rfl⟩, ⟨_, rfl, rfl⟩, ⟨_, rfl, rfl⟩, ⟨_, rfl, rfl⟩, trivial⟩ (by decide) rfl) ?_
          refine Tr.iret dX10_readTies_95 rfl (by first | rfl | exact bI_nar _) ?_ ?_
          · rfl
          · rfl
      · rw [cl_none] at h55
        have hq5 : q < 5 := by omega
        rw [if_pos hq5, cl_lt hq5]
        refine Tr.iload_n (i := 2) dX10_readTies_58 rfl rfl (Eq.refl 59) ?_
        refine Tr.iload_n (i := 1) dX10_readTies_59 rfl rfl (Eq.refl 60) ?_
        refine Tr.icmp_eqN (tgt := 79) dX10_readTies_60 (by decide) (Eq.refl 63) (by omega) (by omega) (fun h60 => ?_) (fun h60 => ?_)
        · rw [if_pos (Or.inl h60)]
          skip
          refine Tr.aload_n (i := 0) dX10_readTies_79 rfl rfl (Eq.refl 80) ?_
          refine Tr.iconst (v := nI 3) dX10_readTies_80 (icN 3) (Eq.refl 81) ?_
          refine Tr.callV (L := [0, 1]) (m_bad E _ (rR ad r) (iR x.2.2.2.1 x.2.2.2.2.1 i) len x.1 x.2.1 x.2.2.1 x.2.2.2.2.2.1 x.2.2.2.2.2.2 T 3) dX10_readTies_81 (kX10_49 (Nat.le_of_ble_eq_true rfl)) iX10_bad rfl rfl rfl rfl rfl rfl rfl rfl rfl rfl (Eq.refl 84) ?_
          refine Tr.pic (w' := mrP E ad r i len T (badR T x 3)) (putB_eq (Lc := [2, 3, 4, 5, 6, 7, 8, 9, 10, 11]) 12 rfl rfl rfl rfl ⟨⟨_, rfl, rfl⟩, ⟨_, rfl, rfl⟩, ⟨_, rfl, rfl⟩, ⟨_, rfl, rfl⟩, ⟨_, rfl, rfl⟩, ⟨_, rfl, rfl⟩, ⟨_, rfl, rfl⟩, ⟨_, rfl, rfl⟩, ⟨_, rfl, rfl⟩, ⟨_, rfl, rfl⟩, trivial⟩ (by decide) rfl) ?_
          refine Tr.iret dX10_readTies_84 rfl (by first | rfl | exact bI_nar _) ?_ ?_
          · rfl
          · rfl
        · refine Tr.aload_n (i := 0) dX10_readTies_63 rfl rfl (Eq.refl 64) ?_
          refine Tr.getf dX10_readTies_64 fX10_117 rfl rfl (Eq.refl 67) ?_
          refine Tr.iconst (v := nI 5) dX10_readTies_67 (icN 5) (Eq.refl 68) ?_
          refine Tr.iload_n (i := 1) dX10_readTies_68 rfl rfl (Eq.refl 69) ?_
          refine Tr.imulN dX10_readTies_69 (Eq.refl 70) ?_
          refine Tr.iload_n (i := 2) dX10_readTies_70 rfl rfl (Eq.refl 71) ?_
          refine Tr.iaddN dX10_readTies_71 (Eq.refl 72) ?_
          refine Tr.ishr dX10_readTies_72 (Eq.refl 73) ?_
          refine Tr.iconst (v := nI 1) dX10_readTies_73 (icN 1) (Eq.refl 74) ?_
          refine Tr.iand dX10_readTies_74 (Eq.refl 75) ?_
          refine Tr.iconst (v := nI 1) dX10_readTies_75 (icN 1) (Eq.refl 76) ?_
          refine Tr.icmp_ne (tgt := 85) dX10_readTies_76 (by decide) (Eq.refl 79) (fun h76 => ?_) (fun h76 => ?_)
          · rw [if_neg (fun z9 => z9.elim h60 (fun z8 => by unfold bt at z8; rw [decide_eq_false h76] at z8; exact absurd z8 (by decide)))]
            skip
            refine Tr.iload_n (i := 2) dX10_readTies_85 rfl rfl (Eq.refl 86) ?_
            refine Tr.iconst (v := (-1)) dX10_readTies_86 (by decide +kernel) (Eq.refl 87) ?_
            refine Tr.icmp_ne (tgt := 96) dX10_readTies_87 (by decide) (Eq.refl 90) (fun h87 => ?_) (fun h87 => ?_)
            · skip
              have hv3 : (advR T (sTt x (5 * c + q))).2.1 < 100000 := tkV_lt hTa hv2
              unfold rT3
              refine Tr.aload_n (i := 0) dX10_readTies_96 rfl rfl (Eq.refl 97) ?_
              refine Tr.dup dX10_readTies_97 rfl (Eq.refl 98) ?_
              refine Tr.getf dX10_readTies_98 fX10_117 rfl rfl (Eq.refl 101) ?_
              refine Tr.iconst (v := nI 1) dX10_readTies_101 (icN 1) (Eq.refl 102) ?_
              refine Tr.iconst (v := nI 5) dX10_readTies_102 (icN 5) (Eq.refl 103) ?_
              refine Tr.iload_n (i := 1) dX10_readTies_103 rfl rfl (Eq.refl 104) ?_
              refine Tr.imulN dX10_readTies_104 (Eq.refl 105) ?_
              refine Tr.iload_n (i := 2) dX10_readTies_105 rfl rfl (Eq.refl 106) ?_
              refine Tr.iaddN dX10_readTies_106 (Eq.refl 107) ?_
              refine Tr.ishl dX10_readTies_107 (Eq.refl 108) ?_
              refine Tr.ior dX10_readTies_108 (Eq.refl 109) ?_
              refine Tr.putf dX10_readTies_109 pX10_117 rfl (rfl) (rfl) rfl (Eq.refl 112) ?_
              refine Tr.pic (w' := mrP E ad r i len T (sTt x (5 * c + q))) rfl ?_
              refine Tr.aload_n (i := 0) dX10_readTies_112 rfl rfl (Eq.refl 113) ?_
              refine Tr.callV (L := [0, 1]) (m_scanV E _ (rR ad r) (iR (sTt x (5 * c + q)).2.2.2.1 (sTt x (5 * c + q)).2.2.2.2.1 i) len (sTt x (5 * c + q)).1 (sTt x (5 * c + q)).2.1 (sTt x (5 * c + q)).2.2.1 (sTt x (5 * c + q)).2.2.2.2.2.1 (sTt x (5 * c + q)).2.2.2.2.2.2 T hl hT) dX10_readTies_113 (kX10_59 (Nat.le_of_ble_eq_true rfl)) iX10_scan rfl rfl rfl rfl rfl rfl rfl rfl rfl rfl (Eq.refl 116) ?_
              refine Tr.pic (w' := mrP E ad r i len T (advR T (sTt x (5 * c + q)))) (putB_eq (Lc := [2, 3, 4, 5, 6, 7, 8, 9, 10, 11]) 12 rfl rfl rfl rfl ⟨⟨_, rfl, rfl⟩, ⟨_, rfl, rfl⟩, ⟨_, rfl, rfl⟩, ⟨_, rfl, rfl⟩, ⟨_, rfl, rfl⟩, ⟨_, rfl, rfl⟩, ⟨_, rfl, rfl⟩, ⟨_, rfl, rfl⟩, ⟨_, rfl, rfl⟩, ⟨_, rfl, rfl⟩, trivial⟩ (by decide) rfl) ?_
              generalize advR T (sTt x (5 * c + q)) = w at *
              refine Tr.aload_n (i := 0) dX10_readTies_116 rfl rfl (Eq.refl 117) ?_
              refine Tr.iconst (v := nI 0) dX10_readTies_117 (icN 0) (Eq.refl 118) ?_
              refine Tr.bipush (v := nI 20) dX10_readTies_118 (by decide +kernel) (Eq.refl 120) ?_
              refine Tr.callV (L := [0, 1]) (m_numberS E _ (rR ad r) (iR w.2.2.2.1 w.2.2.2.2.1 i) len w.1 w.2.1 w.2.2.1 w.2.2.2.2.2.1 w.2.2.2.2.2.2 T (nI 0) (nI 20) hl hT (by omega)) dX10_readTies_120 (kX10_85 (Nat.le_of_ble_eq_true rfl)) iX10_number rfl rfl rfl rfl rfl rfl rfl rfl rfl rfl (Eq.refl 123) ?_
              refine Tr.pic (w' := mrP E ad r i len T (nuR T (nI 0) (nI 20) w)) (putB_eq (Lc := [2, 3, 4, 5, 6, 7, 8, 9, 10, 11]) 12 rfl rfl rfl rfl ⟨⟨_, rfl, rfl⟩, ⟨_, rfl, rfl⟩, ⟨_, rfl, rfl⟩, ⟨_, rfl, rfl⟩, ⟨_, rfl, rfl⟩, ⟨_, rfl, rfl⟩, ⟨_, rfl, rfl⟩, ⟨_, rfl, rfl⟩, ⟨_, rfl, rfl⟩, ⟨_, rfl, rfl⟩, trivial⟩ (by decide) rfl) ?_
              refine Tr.top (y := bI (nuB T (nI 0) (nI 20) w)) rfl ?_
              generalize nuR T (nI 0) (nI 20) w = u at *
              refine Tr.if_neB (tgt := 128) dX10_readTies_123 (by decide) (Eq.refl 126) (fun h123 => ?_) (fun h123 => ?_)
              · rw [if_pos h123]
                refine Tr.aload_n (i := 0) dX10_readTies_128 rfl rfl (Eq.refl 129) ?_
                refine Tr.getf dX10_readTies_129 fX10_114 rfl rfl (Eq.refl 132) ?_
                refine Tr.iconst (v := nI 5) dX10_readTies_132 (icN 5) (Eq.refl 133) ?_
                refine Tr.iload_n (i := 1) dX10_readTies_133 rfl rfl (Eq.refl 134) ?_
                refine Tr.imulN dX10_readTies_134 (Eq.refl 135) ?_
                refine Tr.iload_n (i := 2) dX10_readTies_135 rfl rfl (Eq.refl 136) ?_
                refine Tr.iaddN dX10_readTies_136 (Eq.refl 137) ?_
                refine Tr.aload_n (i := 0) dX10_readTies_137 rfl rfl (Eq.refl 138) ?_
                refine Tr.getf dX10_readTies_138 fX10_56 rfl rfl (Eq.refl 141) ?_
                refine Tr.bipush (v := nI 10) dX10_readTies_141 (by decide +kernel) (Eq.refl 143) ?_
                refine Tr.isub dX10_readTies_143 (Eq.refl 144) ?_
                refine Tr.iastN dX10_readTies_144 rfl (by omega) (by decide) (Eq.refl 145) ?_
                refine Tr.iconst (v := nI 1) dX10_readTies_145 (icN 1) (Eq.refl 146) ?_
                refine Tr.iret dX10_readTies_146 rfl (by first | rfl | exact bI_nar _) ?_ ?_
                · rfl
                · rfl
              · rw [if_neg (by rw [h123]; decide)]
                refine Tr.iconst (v := nI 0) dX10_readTies_126 (icN 0) (Eq.refl 127) ?_
                refine Tr.iret dX10_readTies_127 rfl (by first | rfl | exact bI_nar _) ?_ ?_
                · rfl
                · rfl
            · exact absurd h87 (nI_nm1 (by omega))
          · rw [if_pos (Or.inr (show bt x.2.2.2.2.1.2.2.1 (5 * c + q) = true from decide_eq_true h76))]
            skip
            refine Tr.aload_n (i := 0) dX10_readTies_79 rfl rfl (Eq.refl 80) ?_
            refine Tr.iconst (v := nI 3) dX10_readTies_80 (icN 3) (Eq.refl 81) ?_
            refine Tr.callV (L := [0, 1]) (m_bad E _ (rR ad r) (iR x.2.2.2.1 x.2.2.2.2.1 i) len x.1 x.2.1 x.2.2.1 x.2.2.2.2.2.1 x.2.2.2.2.2.2 T 3) dX10_readTies_81 (kX10_49 (Nat.le_of_ble_eq_true rfl)) iX10_bad rfl rfl rfl rfl rfl rfl rfl rfl rfl rfl (Eq.refl 84) ?_
            refine Tr.pic (w' := mrP E ad r i len T (badR T x 3)) (putB_eq (Lc := [2, 3, 4, 5, 6, 7, 8, 9, 10, 11]) 12 rfl rfl rfl rfl ⟨⟨_, rfl, rfl⟩, ⟨_, rfl, rfl⟩, ⟨_, rfl, rfl⟩, ⟨_, rfl, rfl⟩, ⟨_, rfl, rfl⟩, ⟨_, rfl, rfl⟩, ⟨_, rfl, rfl⟩, ⟨_, rfl, rfl⟩, ⟨_, rfl, rfl⟩, ⟨_, rfl, rfl⟩, trivial⟩ (by decide) rfl) ?_
            refine Tr.iret dX10_readTies_84 rfl (by first | rfl | exact bI_nar _) ?_ ?_
            · rfl
            · rfl
    · have h31 : ¬ tkK T len x.1.1 = 1 := fun z9 => h31 (h2.mpr z9)
      rw [if_neg h31]
      refine Tr.aload_n (i := 0) dX10_readTies_34 rfl rfl (Eq.refl 35) ?_
      refine Tr.iconst (v := nI 1) dX10_readTies_35 (icN 1) (Eq.refl 36) ?_
      refine Tr.callV (L := [0, 1]) (m_bad E _ (rR ad r) (iR x.2.2.2.1 x.2.2.2.2.1 i) len x.1 x.2.1 x.2.2.1 x.2.2.2.2.2.1 x.2.2.2.2.2.2 T 1) dX10_readTies_36 (kX10_49 (Nat.le_of_ble_eq_true rfl)) iX10_bad rfl rfl rfl rfl rfl rfl rfl rfl rfl rfl (Eq.refl 39) ?_
      refine Tr.pic (w' := mrP E ad r i len T (badR T x 1)) (putB_eq (Lc := [2, 3, 4, 5, 6, 7, 8, 9, 10, 11]) 12 rfl rfl rfl rfl ⟨⟨_, rfl, rfl⟩, ⟨_, rfl, rfl⟩, ⟨_, rfl, rfl⟩, ⟨_, rfl, rfl⟩, ⟨_, rfl, rfl⟩, ⟨_, rfl, rfl⟩, ⟨_, rfl, rfl⟩, ⟨_, rfl, rfl⟩, ⟨_, rfl, rfl⟩, ⟨_, rfl, rfl⟩, trivial⟩ (by decide) rfl) ?_
      refine Tr.iret dX10_readTies_39 rfl (by first | rfl | exact bI_nar _) ?_ ?_
      · rfl
      · rfl
  · rw [if_neg (by rw [h16]; decide)]
    refine Tr.iconst (v := nI 0) dX10_readTies_19 (icN 0) (Eq.refl 20) ?_
    refine Tr.iret dX10_readTies_20 rfl (by first | rfl | exact bI_nar _) ?_ ?_
    · rfl
    · rfl
