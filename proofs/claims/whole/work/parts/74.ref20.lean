/-! THE REFERENCE: houses, ties -/
def frB (T : Nat → Nat) (len p : Nat) (g : Nat → Int64) (n : Nat) : Bool := decide (tkK T len p = 1) && decide (fcN T len p g n = 5)
def fsT (T : Nat → Nat) {len : Nat} (p : Fin (len + 1)) (vl f : Nat) (fa : Int32) (g : Nat → Int64) (n : Nat) : Fin (len + 1) × Nat × (Nat → Int64) × Nat × Int32 := if tkK T len p.1 = 1 then (if fcN T len p.1 g n = 5 then (nxP T len p, tkV T len (tkE T len p.1) vl, vp_updL g n (lN (tkM T len p.1)), f, fa) else (p, vl, g, 3, nI (tkS T len p.1))) else (p, vl, g, 1, nI (tkS T len p.1))
theorem m_freshS (E : EnvT) (ad r : Nat → Nat) (i : Nat → Int32) (len : Nat) (p : Fin (len + 1)) (vl : Nat) (got : Int32) (f : Nat) (fa : Int32) (T : Nat → Nat) (g : Nat → Int64) (n : Nat) (hl : len ≤ 900) (hT : ∀ k, k < 900 → T k < 256) (hn : n < 5) : Md E mX10_fresh ad [.ref (ad 0), .ref (ad 2), .int (nI n)] (mvC E ad r i len p.1 vl got f fa T ++ [aJ E 5 g]) (some (.int (bI (frB T len p.1 g n)))) (mvC E ad r i len (fsT T p vl f fa g n).1.1 (fsT T p vl f fa g n).2.1 got (fsT T p vl f fa g n).2.2.2.1 (fsT T p vl f fa g n).2.2.2.2 T ++ [aJ E 5 (fsT T p vl f fa g n).2.2.1]) := by
  have h9 := m_fresh E ad r i len p vl got f fa T g n hl hT hn
  by_cases h : tkK T len p.1 = 1
  · by_cases h3 : fcN T len p.1 g n = 5
    · have e : (fsT T p vl f fa g n) = (nxP T len p, tkV T len (tkE T len p.1) vl, vp_updL g n (lN (tkM T len p.1)), f, fa) := by unfold fsT; rw [if_pos h, if_pos h3]
      rw [e]
      rw [if_pos h, if_pos h3] at h9
      exact h9
    · have e : (fsT T p vl f fa g n) = (p, vl, g, 3, nI (tkS T len p.1)) := by unfold fsT; rw [if_pos h, if_neg h3]
      rw [e]
      rw [if_pos h, if_neg h3] at h9
      exact h9
  · have e : (fsT T p vl f fa g n) = (p, vl, g, 1, nI (tkS T len p.1)) := by unfold fsT; rw [if_neg h]
    rw [e]
    rw [if_neg h] at h9
    exact h9
/-- a fresh house's name, a fresh person's -/
def fhT (T : Nat → Nat) {len : Nat} (n : Nat) (z : Rst len) : Fin (len + 1) × Nat × (Nat → Int64) × Nat × Int32 := fsT T z.1 z.2.1 z.2.2.2.2.2.1 z.2.2.2.2.2.2 z.2.2.2.2.1.2.2.2.1 n
def fhR (T : Nat → Nat) {len : Nat} (n : Nat) (z : Rst len) : Rst len := ((fhT T n z).1, (fhT T n z).2.1, z.2.2.1, z.2.2.2.1, (z.2.2.2.2.1.1, z.2.2.2.2.1.2.1, z.2.2.2.2.1.2.2.1, (fhT T n z).2.2.1, z.2.2.2.2.1.2.2.2.2), (fhT T n z).2.2.2)
def fpT (T : Nat → Nat) {len : Nat} (n : Nat) (z : Rst len) : Fin (len + 1) × Nat × (Nat → Int64) × Nat × Int32 := fsT T z.1 z.2.1 z.2.2.2.2.2.1 z.2.2.2.2.2.2 z.2.2.2.2.1.2.2.2.2.2.2 n
def fpR (T : Nat → Nat) {len : Nat} (n : Nat) (z : Rst len) : Rst len := ((fpT T n z).1, (fpT T n z).2.1, z.2.2.1, z.2.2.2.1, (z.2.2.2.2.1.1, z.2.2.2.2.1.2.1, z.2.2.2.2.1.2.2.1, z.2.2.2.2.1.2.2.2.1, z.2.2.2.2.1.2.2.2.2.1, z.2.2.2.2.1.2.2.2.2.2.1, (fpT T n z).2.2.1), (fpT T n z).2.2.2)
theorem fsT_v {T : Nat → Nat} {len : Nat} {p : Fin (len + 1)} {vl f : Nat} {fa : Int32} {g : Nat → Int64} {n : Nat} (hT : ∀ k, T k < 256) (hv : vl < 100000) : (fsT T p vl f fa g n).2.1 < 100000 := by
  unfold fsT
  repeat' split
  · exact tkV_lt hT hv
  · exact hv
  · exact hv
theorem nuR_v {T : Nat → Nat} {len : Nat} {lo hi : Int32} {z : Rst len} (hT : ∀ k, T k < 256) (hv : z.2.1 < 100000) : (nuR T lo hi z).2.1 < 100000 := by
  show (nuT T z.1 z.2.1 z.2.2.1 z.2.2.2.2.2.1 z.2.2.2.2.2.2 lo hi).2.1 < 100000
  unfold nuT
  repeat' split
  · exact tkV_lt hT hv
  · exact hv
  · exact hv
def tSo {len : Nat} (z : Rst len) (h : Nat) : Rst len := (z.1, z.2.1, z.2.2.1, z.2.2.2.1, (z.2.2.2.2.1.1, z.2.2.2.2.1.2.1, z.2.2.2.2.1.2.2.1, z.2.2.2.2.1.2.2.2.1, upd z.2.2.2.2.1.2.2.2.2.1 h z.2.2.1, z.2.2.2.2.1.2.2.2.2.2), z.2.2.2.2.2)
def tSt {len : Nat} (z : Rst len) (h : Nat) : Rst len := (z.1, z.2.1, z.2.2.1, z.2.2.2.1, (z.2.2.2.2.1.1, z.2.2.2.2.1.2.1, z.2.2.2.2.1.2.2.1, z.2.2.2.2.1.2.2.2.1, z.2.2.2.2.1.2.2.2.2.1, upd z.2.2.2.2.1.2.2.2.2.2.1 h z.2.2.1, z.2.2.2.2.1.2.2.2.2.2.2), z.2.2.2.2.2)
def tWo {len : Nat} (z : Rst len) (h : Nat) : Rst len := (z.1, z.2.1, z.2.2.1, (nhV z.2.2.2.1, npV z.2.2.2.1, laV z.2.2.2.1, ruV z.2.2.2.1, upd (woV z.2.2.2.1) h z.2.2.1, owV z.2.2.2.1, hoV z.2.2.2.1, wkV z.2.2.2.1, tiV z.2.2.2.1), z.2.2.2.2)
def tOw {len : Nat} (z : Rst len) (h : Nat) : Rst len := (z.1, z.2.1, z.2.2.1, (nhV z.2.2.2.1 + 1, npV z.2.2.2.1, laV z.2.2.2.1, ruV z.2.2.2.1, woV z.2.2.2.1, upN (owV z.2.2.2.1) h 5, hoV z.2.2.2.1, wkV z.2.2.2.1, tiV z.2.2.2.1), z.2.2.2.2)
def rH3 (T : Nat → Nat) {len : Nat} (h : Nat) (y : Rst len) : Bool × Rst len := if nuB T (nI 0) (nI 100) y then (true, tOw (tSt (nuR T (nI 0) (nI 100) y) h) h) else (false, nuR T (nI 0) (nI 100) y)
def rH2 (T : Nat → Nat) {len : Nat} (h : Nat) (y : Rst len) : Bool × Rst len := if nuB T (nI 0) (nI 20) y then rH3 T h (tWo (nuR T (nI 0) (nI 20) y) h) else (false, nuR T (nI 0) (nI 20) y)
def rH1 (T : Nat → Nat) {len : Nat} (h : Nat) (y : Rst len) : Bool × Rst len := if nuB T (nI 0) (nI 99) y then rH2 T h (tSo (nuR T (nI 0) (nI 99) y) h) else (false, nuR T (nI 0) (nI 99) y)
def rH0 (T : Nat → Nat) {len : Nat} (h : Nat) (y : Rst len) : Bool × Rst len := if frB T len y.1.1 y.2.2.2.2.1.2.2.2.1 h then rH1 T h (fhR T h y) else (false, fhR T h y)
def rHs (T : Nat → Nat) {len : Nat} (z : Rst len) : Bool × Rst len := if nhV z.2.2.2.1 = 5 then (false, badR T z 4) else rH0 T (nhV z.2.2.2.1) (advR T z)
set_option maxHeartbeats 4000000 in
set_option maxRecDepth 100000 in
theorem m_readHouse (E : EnvT) (ad r : Nat → Nat) (i : Nat → Int32) (len : Nat) (T : Nat → Nat) (z : Rst len) (hl : len ≤ 900) (hTa : ∀ k, T k < 256) (hv : z.2.1 < 100000) (hn : nhV z.2.2.2.1 ≤ 5) : Md E mX10_readHouse ad [.ref (ad 0)] (mrP E ad r i len T z) (some (.int (bI (rHs T z).1))) (mrP E ad r i len T (rHs T z).2) := by
  have hT : ∀ k, k < 900 → T k < 256 := fun k _ => hTa k
  have hv1 : (advR T z).2.1 < 100000 := tkV_lt hTa hv
  have hnn : nhV (advR T z).2.2.2.1 = nhV z.2.2.2.1 := rfl
  unfold rHs
  refine Md.of 1 (by decide) rfl rfl ?_
  refine Tr.aload_n (i := 0) dX10_readHouse_0 rfl rfl (Eq.refl 1) ?_
  refine Tr.getf dX10_readHouse_1 fX10_74 rfl rfl (Eq.refl 4) ?_
  refine Tr.iconst (v := nI 5) dX10_readHouse_4 (icN 5) (Eq.refl 5) ?_
  refine Tr.icmp_neN (tgt := 14) dX10_readHouse_5 (by decide) (Eq.refl 8) (by omega) (by omega) (fun h5 => ?_) (fun h5 => ?_)
  · rw [if_neg h5]
    refine Tr.aload_n (i := 0) dX10_readHouse_14 rfl rfl (Eq.refl 15) ?_
    refine Tr.callV (L := [0, 1]) (m_scanV E _ (rR ad r) (iR z.2.2.2.1 z.2.2.2.2.1 i) len z.1 z.2.1 z.2.2.1 z.2.2.2.2.2.1 z.2.2.2.2.2.2 T hl hT) dX10_readHouse_15 (kX10_59 (Nat.le_of_ble_eq_true rfl)) iX10_scan rfl rfl rfl rfl rfl rfl rfl rfl rfl rfl (Eq.refl 18) ?_
    refine Tr.pic (w' := mrP E ad r i len T (advR T z)) (putB_eq (Lc := [2, 3, 4, 5, 6, 7, 8, 9, 10, 11]) 12 rfl rfl rfl rfl ⟨⟨_, rfl, rfl⟩, ⟨_, rfl, rfl⟩, ⟨_, rfl, rfl⟩, ⟨_, rfl, rfl⟩, ⟨_, rfl, rfl⟩, ⟨_, rfl, rfl⟩, ⟨_, rfl, rfl⟩, ⟨_, rfl, rfl⟩, ⟨_, rfl, rfl⟩, ⟨_, rfl, rfl⟩, trivial⟩ (by decide) rfl) ?_
    generalize advR T z = y at *
    have h5b : nhV y.2.2.2.1 < 5 := by omega
    rw [← hnn]
    unfold rH0
    generalize hh : nhV y.2.2.2.1 = h at *
    refine Tr.aload_n (i := 0) dX10_readHouse_18 rfl rfl (Eq.refl 19) ?_
    refine Tr.getf dX10_readHouse_19 fX10_74 rfl rfl (Eq.refl 22) ?_
    rw [hh]
    refine Tr.istore_n (i := 1) dX10_readHouse_22 rfl rfl rfl (Eq.refl 23) ?_
    refine Tr.aload_n (i := 0) dX10_readHouse_23 rfl rfl (Eq.refl 24) ?_
    refine Tr.aload_n (i := 0) dX10_readHouse_24 rfl rfl (Eq.refl 25) ?_
    refine Tr.getf dX10_readHouse_25 fX10_77 rfl rfl (Eq.refl 28) ?_
    refine Tr.iload_n (i := 1) dX10_readHouse_28 rfl rfl (Eq.refl 29) ?_
    refine Tr.callV (L := [0, 1, 10]) (m_freshS E _ (rR ad r) (iR y.2.2.2.1 y.2.2.2.2.1 i) len y.1 y.2.1 y.2.2.1 y.2.2.2.2.2.1 y.2.2.2.2.2.2 T y.2.2.2.2.1.2.2.2.1 h hl hT (by omega)) dX10_readHouse_29 (kX10_81 (Nat.le_of_ble_eq_true rfl)) iX10_fresh rfl rfl rfl rfl rfl rfl rfl rfl rfl rfl (Eq.refl 32) ?_
    refine Tr.pic (w' := mrP E ad r i len T (fhR T h y)) (putB_eq (Lc := [2, 3, 4, 5, 6, 7, 8, 9, 11]) 12 rfl rfl rfl rfl ⟨⟨_, rfl, rfl⟩, ⟨_, rfl, rfl⟩, ⟨_, rfl, rfl⟩, ⟨_, rfl, rfl⟩, ⟨_, rfl, rfl⟩, ⟨_, rfl, rfl⟩, ⟨_, rfl, rfl⟩, ⟨_, rfl, rfl⟩, ⟨_, rfl, rfl⟩, trivial⟩ (by decide) rfl) ?_
    have hv0 : (fhR T h y).2.1 < 100000 := fsT_v hTa hv1
    generalize fhR T h y = y1 at *
    refine Tr.if_eqB (tgt := 45) dX10_readHouse_32 (by decide) (Eq.refl 35) (fun h32 => ?_) (fun h32 => ?_)
    · rw [if_neg (by rw [h32]; decide)]
      refine Tr.iconst (v := nI 0) dX10_readHouse_45 (icN 0) (Eq.refl 46) ?_
      refine Tr.iret dX10_readHouse_46 rfl (by first | rfl | exact bI_nar _) ?_ ?_
      · rfl
      · rfl
    · rw [if_pos h32]
      unfold rH1
      refine Tr.aload_n (i := 0) dX10_readHouse_35 rfl rfl (Eq.refl 36) ?_
      refine Tr.iconst (v := nI 0) dX10_readHouse_36 (icN 0) (Eq.refl 37) ?_
      refine Tr.bipush (v := nI 99) dX10_readHouse_37 (by decide +kernel) (Eq.refl 39) ?_
      refine Tr.callV (L := [0, 1]) (m_numberS E _ (rR ad r) (iR y1.2.2.2.1 y1.2.2.2.2.1 i) len y1.1 y1.2.1 y1.2.2.1 y1.2.2.2.2.2.1 y1.2.2.2.2.2.2 T (nI 0) (nI 99) hl hT (by omega)) dX10_readHouse_39 (kX10_85 (Nat.le_of_ble_eq_true rfl)) iX10_number rfl rfl rfl rfl rfl rfl rfl rfl rfl rfl (Eq.refl 42) ?_
      refine Tr.pic (w' := mrP E ad r i len T (nuR T (nI 0) (nI 99) y1)) (putB_eq (Lc := [2, 3, 4, 5, 6, 7, 8, 9, 10, 11]) 12 rfl rfl rfl rfl ⟨⟨_, rfl, rfl⟩, ⟨_, rfl, rfl⟩, ⟨_, rfl, rfl⟩, ⟨_, rfl, rfl⟩, ⟨_, rfl, rfl⟩, ⟨_, rfl, rfl⟩, ⟨_, rfl, rfl⟩, ⟨_, rfl, rfl⟩, ⟨_, rfl, rfl⟩, ⟨_, rfl, rfl⟩, trivial⟩ (by decide) rfl) ?_
      refine Tr.top (y := bI (nuB T (nI 0) (nI 99) y1)) rfl ?_
      have hv2 : (nuR T (nI 0) (nI 99) y1).2.1 < 100000 := nuR_v hTa hv0
      generalize nuR T (nI 0) (nI 99) y1 = u1 at *
      refine Tr.if_neB (tgt := 47) dX10_readHouse_42 (by decide) (Eq.refl 45) (fun h42 => ?_) (fun h42 => ?_)
      · rw [if_pos h42]
        refine Tr.aload_n (i := 0) dX10_readHouse_47 rfl rfl (Eq.refl 48) ?_
        refine Tr.getf dX10_readHouse_48 fX10_89 rfl rfl (Eq.refl 51) ?_
        refine Tr.iload_n (i := 1) dX10_readHouse_51 rfl rfl (Eq.refl 52) ?_
        refine Tr.aload_n (i := 0) dX10_readHouse_52 rfl rfl (Eq.refl 53) ?_
        refine Tr.getf dX10_readHouse_53 fX10_56 rfl rfl (Eq.refl 56) ?_
        refine Tr.iastN dX10_readHouse_56 rfl (by omega) (by decide) (Eq.refl 57) ?_
        refine Tr.pic (w' := mrP E ad r i len T (tSo u1 h)) rfl ?_
        have hv2 : (tSo u1 h).2.1 < 100000 := hv2
        generalize tSo u1 h = y2 at *
        unfold rH2
        refine Tr.aload_n (i := 0) dX10_readHouse_57 rfl rfl (Eq.refl 58) ?_
        refine Tr.iconst (v := nI 0) dX10_readHouse_58 (icN 0) (Eq.refl 59) ?_
        refine Tr.bipush (v := nI 20) dX10_readHouse_59 (by decide +kernel) (Eq.refl 61) ?_
        refine Tr.callV (L := [0, 1]) (m_numberS E _ (rR ad r) (iR y2.2.2.2.1 y2.2.2.2.2.1 i) len y2.1 y2.2.1 y2.2.2.1 y2.2.2.2.2.2.1 y2.2.2.2.2.2.2 T (nI 0) (nI 20) hl hT (by omega)) dX10_readHouse_61 (kX10_85 (Nat.le_of_ble_eq_true rfl)) iX10_number rfl rfl rfl rfl rfl rfl rfl rfl rfl rfl (Eq.refl 64) ?_
        refine Tr.pic (w' := mrP E ad r i len T (nuR T (nI 0) (nI 20) y2)) (putB_eq (Lc := [2, 3, 4, 5, 6, 7, 8, 9, 10, 11]) 12 rfl rfl rfl rfl ⟨⟨_, rfl, rfl⟩, ⟨_, rfl, rfl⟩, ⟨_, rfl, rfl⟩, ⟨_, rfl, rfl⟩, ⟨_, rfl, rfl⟩, ⟨_, rfl, rfl⟩, ⟨_, rfl, rfl⟩, ⟨_, rfl, rfl⟩, ⟨_, rfl, rfl⟩, ⟨_, rfl, rfl⟩, trivial⟩ (by decide) rfl) ?_
        refine Tr.top (y := bI (nuB T (nI 0) (nI 20) y2)) rfl ?_
        have hv3 : (nuR T (nI 0) (nI 20) y2).2.1 < 100000 := nuR_v hTa hv2
        generalize nuR T (nI 0) (nI 20) y2 = u2 at *
        refine Tr.if_neB (tgt := 69) dX10_readHouse_64 (by decide) (Eq.refl 67) (fun h64 => ?_) (fun h64 => ?_)
        · rw [if_pos h64]
          refine Tr.aload_n (i := 0) dX10_readHouse_69 rfl rfl (Eq.refl 70) ?_
          refine Tr.getf dX10_readHouse_70 fX10_93 rfl rfl (Eq.refl 73) ?_
          refine Tr.iload_n (i := 1) dX10_readHouse_73 rfl rfl (Eq.refl 74) ?_
          refine Tr.aload_n (i := 0) dX10_readHouse_74 rfl rfl (Eq.refl 75) ?_
          refine Tr.getf dX10_readHouse_75 fX10_56 rfl rfl (Eq.refl 78) ?_
          refine Tr.iastN dX10_readHouse_78 rfl (by omega) (by decide) (Eq.refl 79) ?_
          refine Tr.pic (w' := mrP E ad r i len T (tWo u2 h)) rfl ?_
          have hv3 : (tWo u2 h).2.1 < 100000 := hv3
          generalize tWo u2 h = y3 at *
          have hv4 : y3.2.1 < 100000 := hv3
          unfold rH3
          refine Tr.aload_n (i := 0) dX10_readHouse_79 rfl rfl (Eq.refl 80) ?_
          refine Tr.iconst (v := nI 0) dX10_readHouse_80 (icN 0) (Eq.refl 81) ?_
          refine Tr.bipush (v := nI 100) dX10_readHouse_81 (by decide +kernel) (Eq.refl 83) ?_
          refine Tr.callV (L := [0, 1]) (m_numberS E _ (rR ad r) (iR y3.2.2.2.1 y3.2.2.2.2.1 i) len y3.1 y3.2.1 y3.2.2.1 y3.2.2.2.2.2.1 y3.2.2.2.2.2.2 T (nI 0) (nI 100) hl hT (by omega)) dX10_readHouse_83 (kX10_85 (Nat.le_of_ble_eq_true rfl)) iX10_number rfl rfl rfl rfl rfl rfl rfl rfl rfl rfl (Eq.refl 86) ?_
          refine Tr.pic (w' := mrP E ad r i len T (nuR T (nI 0) (nI 100) y3)) (putB_eq (Lc := [2, 3, 4, 5, 6, 7, 8, 9, 10, 11]) 12 rfl rfl rfl rfl ⟨⟨_, rfl, rfl⟩, ⟨_, rfl, rfl⟩, ⟨_, rfl, rfl⟩, ⟨_, rfl, rfl⟩, ⟨_, rfl, rfl⟩, ⟨_, rfl, rfl⟩, ⟨_, rfl, rfl⟩, ⟨_, rfl, rfl⟩, ⟨_, rfl, rfl⟩, ⟨_, rfl, rfl⟩, trivial⟩ (by decide) rfl) ?_
          refine Tr.top (y := bI (nuB T (nI 0) (nI 100) y3)) rfl ?_
          generalize nuR T (nI 0) (nI 100) y3 = y4 at *
          refine Tr.if_neB (tgt := 91) dX10_readHouse_86 (by decide) (Eq.refl 89) (fun h86 => ?_) (fun h86 => ?_)
          · rw [if_pos h86]
            refine Tr.aload_n (i := 0) dX10_readHouse_91 rfl rfl (Eq.refl 92) ?_
            refine Tr.getf dX10_readHouse_92 fX10_96 rfl rfl (Eq.refl 95) ?_
            refine Tr.iload_n (i := 1) dX10_readHouse_95 rfl rfl (Eq.refl 96) ?_
            refine Tr.aload_n (i := 0) dX10_readHouse_96 rfl rfl (Eq.refl 97) ?_
            refine Tr.getf dX10_readHouse_97 fX10_56 rfl rfl (Eq.refl 100) ?_
            refine Tr.iastN dX10_readHouse_100 rfl (by omega) (by decide) (Eq.refl 101) ?_
            refine Tr.pic (w' := mrP E ad r i len T (tSt y4 h)) rfl ?_
            refine Tr.aload_n (i := 0) dX10_readHouse_101 rfl rfl (Eq.refl 102) ?_
            refine Tr.getf dX10_readHouse_102 fX10_99 rfl rfl (Eq.refl 105) ?_
            refine Tr.iload_n (i := 1) dX10_readHouse_105 rfl rfl (Eq.refl 106) ?_
            refine Tr.iconst (v := (-1)) dX10_readHouse_106 (by decide +kernel) (Eq.refl 107) ?_
            refine Tr.iastN dX10_readHouse_107 rfl (by omega) (by decide) (Eq.refl 108) ?_
            refine Tr.aload_n (i := 0) dX10_readHouse_108 rfl rfl (Eq.refl 109) ?_
            refine Tr.dup dX10_readHouse_109 rfl (Eq.refl 110) ?_
            refine Tr.getf dX10_readHouse_110 fX10_74 rfl rfl (Eq.refl 113) ?_
            refine Tr.iconst (v := nI 1) dX10_readHouse_113 (icN 1) (Eq.refl 114) ?_
            refine Tr.iaddN dX10_readHouse_114 (Eq.refl 115) ?_
            refine Tr.putf dX10_readHouse_115 pX10_74 rfl (rfl) (rfl) rfl (Eq.refl 118) ?_
            refine Tr.iconst (v := nI 1) dX10_readHouse_118 (icN 1) (Eq.refl 119) ?_
            refine Tr.iret dX10_readHouse_119 rfl (by first | rfl | exact bI_nar _) ?_ ?_
            · rfl
            · unfold mrP mrC tOw; rw [show (fun k => cl (owV (nhV (tSt y4 h).2.2.2.1 + 1, npV (tSt y4 h).2.2.2.1, laV (tSt y4 h).2.2.2.1, ruV (tSt y4 h).2.2.2.1, woV (tSt y4 h).2.2.2.1, upN (owV (tSt y4 h).2.2.2.1) h 5, hoV (tSt y4 h).2.2.2.1, wkV (tSt y4 h).2.2.2.1, tiV (tSt y4 h).2.2.2.1) k)) = upd (fun k => cl (owV (tSt y4 h).2.2.2.1 k)) h (-1) from cl_upN _ _ 5]; rfl
          · rw [if_neg (by rw [h86]; decide)]
            refine Tr.iconst (v := nI 0) dX10_readHouse_89 (icN 0) (Eq.refl 90) ?_
            refine Tr.iret dX10_readHouse_90 rfl (by first | rfl | exact bI_nar _) ?_ ?_
            · rfl
            · rfl
          skip
        · rw [if_neg (by rw [h64]; decide)]
          refine Tr.iconst (v := nI 0) dX10_readHouse_67 (icN 0) (Eq.refl 68) ?_
          refine Tr.iret dX10_readHouse_68 rfl (by first | rfl | exact bI_nar _) ?_ ?_
          · rfl
          · rfl
        skip
      · rw [if_neg (by rw [h42]; decide)]
        refine Tr.iconst (v := nI 0) dX10_readHouse_45 (icN 0) (Eq.refl 46) ?_
        refine Tr.iret dX10_readHouse_46 rfl (by first | rfl | exact bI_nar _) ?_ ?_
        · rfl
        · rfl
  · rw [if_pos h5]
    refine Tr.aload_n (i := 0) dX10_readHouse_8 rfl rfl (Eq.refl 9) ?_
    refine Tr.iconst (v := nI 4) dX10_readHouse_9 (icN 4) (Eq.refl 10) ?_
    refine Tr.callV (L := [0, 1]) (m_bad E _ (rR ad r) (iR z.2.2.2.1 z.2.2.2.2.1 i) len z.1 z.2.1 z.2.2.1 z.2.2.2.2.2.1 z.2.2.2.2.2.2 T 4) dX10_readHouse_10 (kX10_49 (Nat.le_of_ble_eq_true rfl)) iX10_bad rfl rfl rfl rfl rfl rfl rfl rfl rfl rfl (Eq.refl 13) ?_
    refine Tr.pic (w' := mrP E ad r i len T (badR T z 4)) (putB_eq (Lc := [2, 3, 4, 5, 6, 7, 8, 9, 10, 11]) 12 rfl rfl rfl rfl ⟨⟨_, rfl, rfl⟩, ⟨_, rfl, rfl⟩, ⟨_, rfl, rfl⟩, ⟨_, rfl, rfl⟩, ⟨_, rfl, rfl⟩, ⟨_, rfl, rfl⟩, ⟨_, rfl, rfl⟩, ⟨_, rfl, rfl⟩, ⟨_, rfl, rfl⟩, ⟨_, rfl, rfl⟩, trivial⟩ (by decide) rfl) ?_
    refine Tr.iret dX10_readHouse_13 rfl (by first | rfl | exact bI_nar _) ?_ ?_
    · rfl
    · rfl
