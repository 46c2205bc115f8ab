/-! Teller: persons, houses, clauses, all -/
def Ti {len : Nat} (z : Tlt len) : Prop := (nhV z.2.1 ≤ 5 ∧ npV z.2.1 ≤ 5) ∧ z.2.2.2.1 < 6
theorem rdW_s (T : Nat → Nat) {len : Nat} (b : Bool) (z : Tlt len) : (rdW T b z).2.1 = z.2.1 ∧ (rdW T b z).2.2.1 = z.2.2.1 ∧ (z.2.2.2.1 < 6 → (rdW T b z).2.2.2.1 < 6) := by
  unfold rdW
  repeat' split
  all_goals exact ⟨rfl, rfl, fun h => by first | exact h | exact (show (3 : Nat) < 6 from by decide) | exact (show (1 : Nat) < 6 from by decide)⟩
theorem rdW_i {T : Nat → Nat} {len : Nat} {b : Bool} {z : Tlt len} (h : Ti z) : Ti (rdW T b z) := by
  obtain ⟨s1, -, s3⟩ := rdW_s T b z
  exact ⟨by rw [s1]; exact h.1, s3 h.2⟩
theorem rdN_i {T : Nat → Nat} {len : Nat} {lo hi : Int32} {z : Tlt len} (h : Ti z) : Ti (rdN T lo hi z).2 := by
  obtain ⟨s1, -, s3, -⟩ := rdN_s T lo hi z
  exact ⟨by rw [s1]; exact h.1, s3 h.2⟩
theorem rdP_i {T : Nat → Nat} {len : Nat} {z : Tlt len} (h : Ti z) : Ti (rdP T z).2 := by
  obtain ⟨s1, -, s3⟩ := rdP_s T z
  exact ⟨by rw [s1]; exact h.1, s3 h.2⟩
def sHn {len : Nat} (z : Tlt len) (h : Nat) (x : Int64) : Tlt len := (z.1, z.2.1, (z.2.2.1.1, z.2.2.1.2.1, z.2.2.1.2.2.1, vp_updL z.2.2.1.2.2.2.1 h x, z.2.2.1.2.2.2.2), z.2.2.2)
def sPn {len : Nat} (z : Tlt len) (h : Nat) (x : Int64) : Tlt len := (z.1, z.2.1, (z.2.2.1.1, z.2.2.1.2.1, z.2.2.1.2.2.1, z.2.2.1.2.2.2.1, z.2.2.1.2.2.2.2.1, z.2.2.1.2.2.2.2.2.1, vp_updL z.2.2.1.2.2.2.2.2.2 h x), z.2.2.2)
def sSo {len : Nat} (z : Tlt len) (h : Nat) (x : Int32) : Tlt len := (z.1, z.2.1, (z.2.2.1.1, z.2.2.1.2.1, z.2.2.1.2.2.1, z.2.2.1.2.2.2.1, upd z.2.2.1.2.2.2.2.1 h x, z.2.2.1.2.2.2.2.2), z.2.2.2)
def sSt {len : Nat} (z : Tlt len) (h : Nat) (x : Int32) : Tlt len := (z.1, z.2.1, (z.2.2.1.1, z.2.2.1.2.1, z.2.2.1.2.2.1, z.2.2.1.2.2.2.1, z.2.2.1.2.2.2.2.1, upd z.2.2.1.2.2.2.2.2.1 h x, z.2.2.1.2.2.2.2.2.2), z.2.2.2)
def sWo {len : Nat} (z : Tlt len) (h : Nat) (x : Int32) : Tlt len := (z.1, (nhV z.2.1, npV z.2.1, laV z.2.1, ruV z.2.1, upd (woV z.2.1) h x, owV z.2.1, hoV z.2.1, wkV z.2.1, tiV z.2.1), z.2.2)
def sNh {len : Nat} (z : Tlt len) : Tlt len := (z.1, (nhV z.2.1 + 1, npV z.2.1, laV z.2.1, ruV z.2.1, woV z.2.1, owV z.2.1, hoV z.2.1, wkV z.2.1, tiV z.2.1), z.2.2)
def sNp {len : Nat} (z : Tlt len) : Tlt len := (z.1, (nhV z.2.1, npV z.2.1 + 1, laV z.2.1, ruV z.2.1, woV z.2.1, owV z.2.1, hoV z.2.1, wkV z.2.1, tiV z.2.1), z.2.2)
def sCl {len : Nat} (z : Tlt len) : Tlt len := (z.1, z.2.1, (z.2.2.1.1 + nI 1, z.2.2.1.2), z.2.2.2)
theorem Ti_hn {len : Nat} {z : Tlt len} {h : Nat} {x : Int64} (k : Ti z) : Ti (sHn z h x) := k
theorem Ti_pn {len : Nat} {z : Tlt len} {h : Nat} {x : Int64} (k : Ti z) : Ti (sPn z h x) := k
theorem Ti_so {len : Nat} {z : Tlt len} {h : Nat} {x : Int32} (k : Ti z) : Ti (sSo z h x) := k
theorem Ti_wo {len : Nat} {z : Tlt len} {h : Nat} {x : Int32} (k : Ti z) : Ti (sWo z h x) := k
theorem Ti_st {len : Nat} {z : Tlt len} {h : Nat} {x : Int32} (k : Ti z) : Ti (sSt z h x) := k
def PW (E : EnvT) (ad : Nat → Nat) (len : Nat) (T : Nat → Nat) (z : Tlt len) : List va_E := tlP E ad len T z
/-- a house's numbers -/
def tlH1 (T : Nat → Nat) {len : Nat} (h : Nat) (z : Tlt len) : Tlt len := sSo (rdN T (nI 0) (nI 99) z).2 h (nI (rdN T (nI 0) (nI 99) z).1)
def tlH2 (T : Nat → Nat) {len : Nat} (h : Nat) (z : Tlt len) : Tlt len := sWo (rdN T (nI 0) (nI 20) z).2 h (nI (rdN T (nI 0) (nI 20) z).1)
def tlH3 (T : Nat → Nat) {len : Nat} (h : Nat) (z : Tlt len) : Tlt len := sSt (rdN T (nI 0) (nI 100) z).2 h (nI (rdN T (nI 0) (nI 100) z).1)
def tlH0 (T : Nat → Nat) {len : Nat} (h : Nat) (z : Tlt len) : Tlt len := sHn (rdW T true (adv T z)) h (lN (tkM T len (adv T z).1.1))
def tlHs (T : Nat → Nat) {len : Nat} (z : Tlt len) : Tlt len := if nhV z.2.1 < 5 then sNh (tlH3 T (nhV z.2.1) (tlH2 T (nhV z.2.1) (tlH1 T (nhV z.2.1) (tlH0 T (nhV z.2.1) z)))) else blm T z 4
theorem l_adv (E : EnvT) (ad : Nat → Nat) (len : Nat) (T : Nat → Nat) (z : Tlt len) (hl : len ≤ 900) (hT : ∀ k, k < 900 → T k < 256) (adr : Nat → Nat) : True := trivial
set_option maxHeartbeats 4000000 in
set_option maxRecDepth 100000 in
theorem l_tellHouse (E : EnvT) (ad : Nat → Nat) (len : Nat) (T : Nat → Nat) (z : Tlt len) (hl : len ≤ 900) (hT : ∀ k, k < 900 → T k < 256) (hz : Ti z) : Md E mX5_tellHouse ad [.ref (ad 0)] (tlP E ad len T z) none (tlP E ad len T (tlHs T z)) := by
  have hn := hz.1.1
  have hz1 : Ti (adv T z) := hz
  have hW := l_readNewName E ad len T true (adv T z) hl hT hz1.1 hz1.2
  have hz2 : Ti (tlH0 T (nhV z.2.1) z) := Ti_hn (rdW_i (b := true) hz1)
  have hN1 := l_readNumber E ad len T (nI 0) (nI 99) (tlH0 T (nhV z.2.1) z) hl hT hz2.2
  have hz3 : Ti (tlH1 T (nhV z.2.1) (tlH0 T (nhV z.2.1) z)) := Ti_so (rdN_i (lo := nI 0) (hi := nI 99) hz2)
  have hN2 := l_readNumber E ad len T (nI 0) (nI 20) (tlH1 T (nhV z.2.1) (tlH0 T (nhV z.2.1) z)) hl hT hz3.2
  have hz4 : Ti (tlH2 T (nhV z.2.1) (tlH1 T (nhV z.2.1) (tlH0 T (nhV z.2.1) z))) := Ti_wo (rdN_i (lo := nI 0) (hi := nI 20) hz3)
  have hN3 := l_readNumber E ad len T (nI 0) (nI 100) (tlH2 T (nhV z.2.1) (tlH1 T (nhV z.2.1) (tlH0 T (nhV z.2.1) z))) hl hT hz4.2
  have hz5 : Ti (tlH3 T (nhV z.2.1) (tlH2 T (nhV z.2.1) (tlH1 T (nhV z.2.1) (tlH0 T (nhV z.2.1) z)))) := Ti_st (rdN_i (lo := nI 0) (hi := nI 100) hz4)
  have hx : tlHs T z = if nhV z.2.1 < 5 then sNh (tlH3 T (nhV z.2.1) (tlH2 T (nhV z.2.1) (tlH1 T (nhV z.2.1) (tlH0 T (nhV z.2.1) z)))) else blm T z 4 := rfl
  rw [hx]
  clear hx
  have e0 : ∀ h, tlH0 T h z = sHn (rdW T true (adv T z)) h (lN (tkM T len (adv T z).1.1)) := fun _ => rfl
  have e1 : ∀ h y, tlH1 T (len := len) h y = sSo (rdN T (nI 0) (nI 99) y).2 h (nI (rdN T (nI 0) (nI 99) y).1) := fun _ _ => rfl
  have e2 : ∀ h y, tlH2 T (len := len) h y = sWo (rdN T (nI 0) (nI 20) y).2 h (nI (rdN T (nI 0) (nI 20) y).1) := fun _ _ => rfl
  have e3 : ∀ h y, tlH3 T (len := len) h y = sSt (rdN T (nI 0) (nI 100) y).2 h (nI (rdN T (nI 0) (nI 100) y).1) := fun _ _ => rfl
  have v5 := hz5.1.1
  refine Md.of 1 (by decide) rfl rfl ?_
  refine Tr.aload_n (i := 0) dX5_tellHouse_0 rfl rfl (Eq.refl 1) ?_
  refine Tr.getf dX5_tellHouse_1 fX5_12 rfl rfl (Eq.refl 4) ?_
  refine Tr.getf dX5_tellHouse_4 fX5_83 rfl rfl (Eq.refl 7) ?_
  refine Tr.istore_n (i := 1) dX5_tellHouse_7 rfl rfl rfl (Eq.refl 8) ?_
  refine Tr.iload_n (i := 1) dX5_tellHouse_8 rfl rfl (Eq.refl 9) ?_
  refine Tr.iconst (v := nI 5) dX5_tellHouse_9 (icN 5) (Eq.refl 10) ?_
  refine Tr.icmp_ltN (tgt := 19) dX5_tellHouse_10 (by decide) (Eq.refl 13) (by omega) (by omega) (fun h10 => ?_) (fun h10 => ?_)
  · rw [if_pos (by omega)]
    refine Tr.aload_n (i := 0) dX5_tellHouse_19 rfl rfl (Eq.refl 20) ?_
    refine Tr.getf dX5_tellHouse_20 fX5_22 rfl rfl (Eq.refl 23) ?_
    refine Tr.callV (L := [1, 2]) (t_readToken E _ len (tkE T len z.1.1) (tkK T len z.1.1) (tkS T len z.1.1) (tkN T len z.1.1) (tkM T len z.1.1) T hl hT (tkE_le T (Nat.le_of_lt_succ z.1.2)).2) dX5_tellHouse_23 (kX5_80 (Nat.le_of_ble_eq_true rfl)) iX4_readToken rfl rfl rfl rfl rfl rfl rfl rfl rfl rfl (Eq.refl 26) ?_
    refine Tr.pic (w' := tlP E ad len T (adv T z)) (putB_eq (Lc := [0, 3, 4, 5, 6, 7, 8, 9, 10, 11, 12, 13]) 14 rfl rfl rfl rfl ⟨⟨_, rfl, rfl⟩, ⟨_, rfl, rfl⟩, ⟨_, rfl, rfl⟩, ⟨_, rfl, rfl⟩, ⟨_, rfl, rfl⟩, ⟨_, rfl, rfl⟩, ⟨_, rfl, rfl⟩, ⟨_, rfl, rfl⟩, ⟨_, rfl, rfl⟩, ⟨_, rfl, rfl⟩, ⟨_, rfl, rfl⟩, ⟨_, rfl, rfl⟩, trivial⟩ (by decide) rfl) ?_
    refine Tr.aload_n (i := 0) dX5_tellHouse_26 rfl rfl (Eq.refl 27) ?_
    refine Tr.getf dX5_tellHouse_27 fX5_12 rfl rfl (Eq.refl 30) ?_
    refine Tr.getf dX5_tellHouse_30 fX5_86 rfl rfl (Eq.refl 33) ?_
    refine Tr.iload_n (i := 1) dX5_tellHouse_33 rfl rfl (Eq.refl 34) ?_
    refine Tr.aload_n (i := 0) dX5_tellHouse_34 rfl rfl (Eq.refl 35) ?_
    refine Tr.iconst (v := nI 1) dX5_tellHouse_35 (icN 1) (Eq.refl 36) ?_
    refine Tr.callVs (hW) dX5_tellHouse_36 (kX5_90 (Nat.le_of_ble_eq_true rfl)) iX5_readNewName rfl rfl rfl rfl rfl (tlP_le) rfl rfl (Eq.refl 39) ?_
    refine Tr.lastN dX5_tellHouse_39 rfl (by omega) (by decide) (Eq.refl 40) ?_
    refine Tr.pic (w' := tlP E ad len T (tlH0 T (nhV z.2.1) z)) rfl ?_
    generalize tlH0 T (nhV z.2.1) z = y1 at *
    refine Tr.aload_n (i := 0) dX5_tellHouse_40 rfl rfl (Eq.refl 41) ?_
    refine Tr.getf dX5_tellHouse_41 fX5_12 rfl rfl (Eq.refl 44) ?_
    refine Tr.getf dX5_tellHouse_44 fX5_94 rfl rfl (Eq.refl 47) ?_
    refine Tr.iload_n (i := 1) dX5_tellHouse_47 rfl rfl (Eq.refl 48) ?_
    refine Tr.aload_n (i := 0) dX5_tellHouse_48 rfl rfl (Eq.refl 49) ?_
    refine Tr.iconst (v := nI 0) dX5_tellHouse_49 (icN 0) (Eq.refl 50) ?_
    refine Tr.bipush (v := nI 99) dX5_tellHouse_50 (by decide +kernel) (Eq.refl 52) ?_
    refine Tr.callVs (hN1) dX5_tellHouse_52 (kX5_98 (Nat.le_of_ble_eq_true rfl)) iX5_readNumber rfl rfl rfl rfl rfl (tlP_le) rfl rfl (Eq.refl 55) ?_
    have he1 := e1 (nhV z.2.1) y1
    generalize rdN T (nI 0) (nI 99) y1 = R1 at *
    refine Tr.iastN dX5_tellHouse_55 rfl (by omega) (by decide) (Eq.refl 56) ?_
    refine Tr.pic (w' := tlP E ad len T (sSo R1.2 (nhV z.2.1) (nI R1.1))) rfl ?_
    rw [← he1]
    clear he1
    generalize tlH1 T (nhV z.2.1) y1 = y2 at *
    refine Tr.aload_n (i := 0) dX5_tellHouse_56 rfl rfl (Eq.refl 57) ?_
    refine Tr.getf dX5_tellHouse_57 fX5_12 rfl rfl (Eq.refl 60) ?_
    refine Tr.getf dX5_tellHouse_60 fX5_102 rfl rfl (Eq.refl 63) ?_
    refine Tr.iload_n (i := 1) dX5_tellHouse_63 rfl rfl (Eq.refl 64) ?_
    refine Tr.aload_n (i := 0) dX5_tellHouse_64 rfl rfl (Eq.refl 65) ?_
    refine Tr.iconst (v := nI 0) dX5_tellHouse_65 (icN 0) (Eq.refl 66) ?_
    refine Tr.bipush (v := nI 20) dX5_tellHouse_66 (by decide +kernel) (Eq.refl 68) ?_
    refine Tr.callVs (hN2) dX5_tellHouse_68 (kX5_98 (Nat.le_of_ble_eq_true rfl)) iX5_readNumber rfl rfl rfl rfl rfl (tlP_le) rfl rfl (Eq.refl 71) ?_
    have he2 := e2 (nhV z.2.1) y2
    generalize rdN T (nI 0) (nI 20) y2 = R2 at *
    refine Tr.iastN dX5_tellHouse_71 rfl (by omega) (by decide) (Eq.refl 72) ?_
    refine Tr.pic (w' := tlP E ad len T (sWo R2.2 (nhV z.2.1) (nI R2.1))) rfl ?_
    rw [← he2]
    clear he2
    generalize tlH2 T (nhV z.2.1) y2 = y3 at *
    refine Tr.aload_n (i := 0) dX5_tellHouse_72 rfl rfl (Eq.refl 73) ?_
    refine Tr.getf dX5_tellHouse_73 fX5_12 rfl rfl (Eq.refl 76) ?_
    refine Tr.getf dX5_tellHouse_76 fX5_105 rfl rfl (Eq.refl 79) ?_
    refine Tr.iload_n (i := 1) dX5_tellHouse_79 rfl rfl (Eq.refl 80) ?_
    refine Tr.aload_n (i := 0) dX5_tellHouse_80 rfl rfl (Eq.refl 81) ?_
    refine Tr.iconst (v := nI 0) dX5_tellHouse_81 (icN 0) (Eq.refl 82) ?_
    refine Tr.bipush (v := nI 100) dX5_tellHouse_82 (by decide +kernel) (Eq.refl 84) ?_
    refine Tr.callVs (hN3) dX5_tellHouse_84 (kX5_98 (Nat.le_of_ble_eq_true rfl)) iX5_readNumber rfl rfl rfl rfl rfl (tlP_le) rfl rfl (Eq.refl 87) ?_
    have he3 := e3 (nhV z.2.1) y3
    generalize rdN T (nI 0) (nI 100) y3 = R3 at *
    refine Tr.iastN dX5_tellHouse_87 rfl (by omega) (by decide) (Eq.refl 88) ?_
    refine Tr.pic (w' := tlP E ad len T (sSt R3.2 (nhV z.2.1) (nI R3.1))) rfl ?_
    rw [← he3]
    clear he3
    generalize tlH3 T (nhV z.2.1) y3 = y4 at *
    refine Tr.aload_n (i := 0) dX5_tellHouse_88 rfl rfl (Eq.refl 89) ?_
    refine Tr.getf dX5_tellHouse_89 fX5_12 rfl rfl (Eq.refl 92) ?_
    refine Tr.dup dX5_tellHouse_92 rfl (Eq.refl 93) ?_
    refine Tr.getf dX5_tellHouse_93 fX5_83 rfl rfl (Eq.refl 96) ?_
    refine Tr.iconst (v := nI 1) dX5_tellHouse_96 (icN 1) (Eq.refl 97) ?_
    refine Tr.iaddN dX5_tellHouse_97 (Eq.refl 98) ?_
    refine Tr.putf dX5_tellHouse_98 pX5_83 rfl (rfl) (rfl) rfl (Eq.refl 101) ?_
    refine Tr.ret dX5_tellHouse_101 rfl rfl ?_
    · rfl
  · rw [if_neg (by omega)]
    refine Tr.aload_n (i := 0) dX5_tellHouse_13 rfl rfl (Eq.refl 14) ?_
    refine Tr.iconst (v := nI 4) dX5_tellHouse_14 (icN 4) (Eq.refl 15) ?_
    refine Tr.callVs ((show Md E _ ad _ (tlP E ad len T z) none (tlP E ad len T (blm T z 4)) from l_blame E ad len T z.1 z.2.1 z.2.2.1 z.2.2.2.1 z.2.2.2.2 4)) dX5_tellHouse_15 (kX5_73 (Nat.le_of_ble_eq_true rfl)) iX5_blame rfl rfl rfl rfl rfl (tlP_le) rfl rfl (Eq.refl 18) ?_
    refine Tr.ret dX5_tellHouse_18 rfl rfl ?_
    · rfl
/-- a person -/
def tlP0 (T : Nat → Nat) {len : Nat} (h : Nat) (z : Tlt len) : Tlt len := sPn (rdW T false (adv T z)) h (lN (tkM T len (adv T z).1.1))
def tlP1 (T : Nat → Nat) {len : Nat} (h : Nat) (z : Tlt len) : Tlt len := if z.2.2.2.1 = 0 ∧ wdP T len z.1.1 2 = true then tlHo T h (adv T z) else z
def tlPs (T : Nat → Nat) {len : Nat} (z : Tlt len) : Tlt len := if npV z.2.1 < 5 then sNp (tlP1 T (npV z.2.1) (tlP0 T (npV z.2.1) z)) else blm T z 4
set_option maxHeartbeats 4000000 in
set_option maxRecDepth 100000 in
theorem l_tellPerson (E : EnvT) (ad : Nat → Nat) (len : Nat) (T : Nat → Nat) (z : Tlt len) (hl : len ≤ 900) (hT : ∀ k, k < 900 → T k < 256) (hz : Ti z) : Md E mX5_tellPerson ad [.ref (ad 0)] (tlP E ad len T z) none (tlP E ad len T (tlPs T z)) := by
  have hn := hz.1.2
  have hz1 : Ti (adv T z) := hz
  have hW := l_readNewName E ad len T false (adv T z) hl hT hz1.1 hz1.2
  have hz2 : Ti (tlP0 T (npV z.2.1) z) := Ti_pn (rdW_i (b := false) hz1)
  have hx : tlPs T z = if npV z.2.1 < 5 then sNp (tlP1 T (npV z.2.1) (tlP0 T (npV z.2.1) z)) else blm T z 4 := rfl
  rw [hx]
  clear hx
  refine Md.of 1 (by decide) rfl rfl ?_
  refine Tr.aload_n (i := 0) dX5_tellPerson_0 rfl rfl (Eq.refl 1) ?_
  refine Tr.getf dX5_tellPerson_1 fX5_12 rfl rfl (Eq.refl 4) ?_
  refine Tr.getf dX5_tellPerson_4 fX5_108 rfl rfl (Eq.refl 7) ?_
  refine Tr.istore_n (i := 1) dX5_tellPerson_7 rfl rfl rfl (Eq.refl 8) ?_
  refine Tr.iload_n (i := 1) dX5_tellPerson_8 rfl rfl (Eq.refl 9) ?_
  refine Tr.iconst (v := nI 5) dX5_tellPerson_9 (icN 5) (Eq.refl 10) ?_
  refine Tr.icmp_ltN (tgt := 19) dX5_tellPerson_10 (by decide) (Eq.refl 13) (by omega) (by omega) (fun h10 => ?_) (fun h10 => ?_)
  · rw [if_pos (by omega)]
    refine Tr.aload_n (i := 0) dX5_tellPerson_19 rfl rfl (Eq.refl 20) ?_
    refine Tr.getf dX5_tellPerson_20 fX5_22 rfl rfl (Eq.refl 23) ?_
    refine Tr.callV (L := [1, 2]) (t_readToken E _ len (tkE T len z.1.1) (tkK T len z.1.1) (tkS T len z.1.1) (tkN T len z.1.1) (tkM T len z.1.1) T hl hT (tkE_le T (Nat.le_of_lt_succ z.1.2)).2) dX5_tellPerson_23 (kX5_80 (Nat.le_of_ble_eq_true rfl)) iX4_readToken rfl rfl rfl rfl rfl rfl rfl rfl rfl rfl (Eq.refl 26) ?_
    refine Tr.pic (w' := tlP E ad len T (adv T z)) (putB_eq (Lc := [0, 3, 4, 5, 6, 7, 8, 9, 10, 11, 12, 13]) 14 rfl rfl rfl rfl ⟨⟨_, rfl, rfl⟩, ⟨_, rfl, rfl⟩, ⟨_, rfl, rfl⟩, ⟨_, rfl, rfl⟩, ⟨_, rfl, rfl⟩, ⟨_, rfl, rfl⟩, ⟨_, rfl, rfl⟩, ⟨_, rfl, rfl⟩, ⟨_, rfl, rfl⟩, ⟨_, rfl, rfl⟩, ⟨_, rfl, rfl⟩, ⟨_, rfl, rfl⟩, trivial⟩ (by decide) rfl) ?_
    refine Tr.aload_n (i := 0) dX5_tellPerson_26 rfl rfl (Eq.refl 27) ?_
    refine Tr.getf dX5_tellPerson_27 fX5_12 rfl rfl (Eq.refl 30) ?_
    refine Tr.getf dX5_tellPerson_30 fX5_111 rfl rfl (Eq.refl 33) ?_
    refine Tr.iload_n (i := 1) dX5_tellPerson_33 rfl rfl (Eq.refl 34) ?_
    refine Tr.aload_n (i := 0) dX5_tellPerson_34 rfl rfl (Eq.refl 35) ?_
    refine Tr.iconst (v := nI 0) dX5_tellPerson_35 (icN 0) (Eq.refl 36) ?_
    refine Tr.callVs (hW) dX5_tellPerson_36 (kX5_90 (Nat.le_of_ble_eq_true rfl)) iX5_readNewName rfl rfl rfl rfl rfl (tlP_le) rfl rfl (Eq.refl 39) ?_
    refine Tr.lastN dX5_tellPerson_39 rfl (by omega) (by decide) (Eq.refl 40) ?_
    refine Tr.pic (w' := tlP E ad len T (tlP0 T (npV z.2.1) z)) rfl ?_
    generalize tlP0 T (npV z.2.1) z = y1 at *
    have hk := tkK_lt T len y1.1.1
    have hse := tkE_le T (Nat.le_of_lt_succ y1.1.2)
    have hp1 : tlP1 T (npV z.2.1) y1 = if y1.2.2.2.1 = 0 ∧ wdB T (tkS T len y1.1.1) (tkE T len y1.1.1) (tkK T len y1.1.1) 2 = true then tlHo T (npV z.2.1) (adv T y1) else y1 := rfl
    have hf1 := hz2.2
    refine Tr.aload_n (i := 0) dX5_tellPerson_40 rfl rfl (Eq.refl 41) ?_
    refine Tr.getf dX5_tellPerson_41 fX5_26 rfl rfl (Eq.refl 44) ?_
    refine Tr.if_ne (tgt := 71) dX5_tellPerson_44 (by decide) (Eq.refl 47) (fun h44 => ?_) (fun h44 => ?_)
    · rw [if_neg (fun z9 => h44 (show nI y1.2.2.2.1 = 0 by rw [z9.1]; rfl))] at hp1
      rw [hp1]
      skip
      refine Tr.aload_n (i := 0) dX5_tellPerson_71 rfl rfl (Eq.refl 72) ?_
      refine Tr.getf dX5_tellPerson_72 fX5_12 rfl rfl (Eq.refl 75) ?_
      refine Tr.dup dX5_tellPerson_75 rfl (Eq.refl 76) ?_
      refine Tr.getf dX5_tellPerson_76 fX5_108 rfl rfl (Eq.refl 79) ?_
      refine Tr.iconst (v := nI 1) dX5_tellPerson_79 (icN 1) (Eq.refl 80) ?_
      refine Tr.iaddN dX5_tellPerson_80 (Eq.refl 81) ?_
      refine Tr.putf dX5_tellPerson_81 pX5_108 rfl (rfl) (rfl) rfl (Eq.refl 84) ?_
      refine Tr.ret dX5_tellPerson_84 rfl rfl ?_
      · rfl
    · have h44 : y1.2.2.2.1 = 0 := (nI_eq_iff (b := 0) (by omega) (by decide)).mp h44
      refine Tr.aload_n (i := 0) dX5_tellPerson_47 rfl rfl (Eq.refl 48) ?_
      refine Tr.getf dX5_tellPerson_48 fX5_22 rfl rfl (Eq.refl 51) ?_
      refine Tr.ldcS dX5_tellPerson_51 (by decide +kernel : (RX5, 114, 2) ∈ strT) (Eq.refl 53) ?_
      refine Tr.callVr (L := [1, 2]) (t_reads E _ len (tkE T len y1.1.1) (tkK T len y1.1.1) (tkS T len y1.1.1) (tkN T len y1.1.1) (tkM T len y1.1.1) T 2 (by decide) hl hT hse.1 hse.2 (by omega)) dX5_tellPerson_53 (kX5_43 (Nat.le_of_ble_eq_true rfl)) iX4_reads rfl rfl rfl rfl rfl rfl rfl rfl rfl (Eq.refl 56) ?_
      refine Tr.if_eqB (tgt := 71) dX5_tellPerson_56 (by decide) (Eq.refl 59) (fun h56 => ?_) (fun h56 => ?_)
      · rw [if_neg (by rw [h56]; simp)] at hp1
        rw [hp1]
        skip
        refine Tr.aload_n (i := 0) dX5_tellPerson_71 rfl rfl (Eq.refl 72) ?_
        refine Tr.getf dX5_tellPerson_72 fX5_12 rfl rfl (Eq.refl 75) ?_
        refine Tr.dup dX5_tellPerson_75 rfl (Eq.refl 76) ?_
        refine Tr.getf dX5_tellPerson_76 fX5_108 rfl rfl (Eq.refl 79) ?_
        refine Tr.iconst (v := nI 1) dX5_tellPerson_79 (icN 1) (Eq.refl 80) ?_
        refine Tr.iaddN dX5_tellPerson_80 (Eq.refl 81) ?_
        refine Tr.putf dX5_tellPerson_81 pX5_108 rfl (rfl) (rfl) rfl (Eq.refl 84) ?_
        refine Tr.ret dX5_tellPerson_84 rfl rfl ?_
        · rfl
      · rw [if_pos ⟨h44, h56⟩] at hp1
        refine Tr.aload_n (i := 0) dX5_tellPerson_59 rfl rfl (Eq.refl 60) ?_
        refine Tr.getf dX5_tellPerson_60 fX5_22 rfl rfl (Eq.refl 63) ?_
        refine Tr.callV (L := [1, 2]) (t_readToken E _ len (tkE T len y1.1.1) (tkK T len y1.1.1) (tkS T len y1.1.1) (tkN T len y1.1.1) (tkM T len y1.1.1) T hl hT (tkE_le T (Nat.le_of_lt_succ y1.1.2)).2) dX5_tellPerson_63 (kX5_80 (Nat.le_of_ble_eq_true rfl)) iX4_readToken rfl rfl rfl rfl rfl rfl rfl rfl rfl rfl (Eq.refl 66) ?_
        refine Tr.pic (w' := tlP E ad len T (adv T y1)) (putB_eq (Lc := [0, 3, 4, 5, 6, 7, 8, 9, 10, 11, 12, 13]) 14 rfl rfl rfl rfl ⟨⟨_, rfl, rfl⟩, ⟨_, rfl, rfl⟩, ⟨_, rfl, rfl⟩, ⟨_, rfl, rfl⟩, ⟨_, rfl, rfl⟩, ⟨_, rfl, rfl⟩, ⟨_, rfl, rfl⟩, ⟨_, rfl, rfl⟩, ⟨_, rfl, rfl⟩, ⟨_, rfl, rfl⟩, ⟨_, rfl, rfl⟩, ⟨_, rfl, rfl⟩, trivial⟩ (by decide) rfl) ?_
        refine Tr.aload_n (i := 0) dX5_tellPerson_66 rfl rfl (Eq.refl 67) ?_
        refine Tr.iload_n (i := 1) dX5_tellPerson_67 rfl rfl (Eq.refl 68) ?_
        refine Tr.callVs (l_tellHome E ad len T (npV z.2.1) (adv T y1) hl hT hz2.1 hz2.2 (by omega)) dX5_tellPerson_68 (kX5_116 (Nat.le_of_ble_eq_true rfl)) iX5_tellHome rfl rfl rfl rfl rfl (tlP_le) rfl rfl (Eq.refl 71) ?_
        rw [← hp1]
        generalize tlP1 T (npV z.2.1) y1 = y2 at *
        skip
        refine Tr.aload_n (i := 0) dX5_tellPerson_71 rfl rfl (Eq.refl 72) ?_
        refine Tr.getf dX5_tellPerson_72 fX5_12 rfl rfl (Eq.refl 75) ?_
        refine Tr.dup dX5_tellPerson_75 rfl (Eq.refl 76) ?_
        refine Tr.getf dX5_tellPerson_76 fX5_108 rfl rfl (Eq.refl 79) ?_
        refine Tr.iconst (v := nI 1) dX5_tellPerson_79 (icN 1) (Eq.refl 80) ?_
        refine Tr.iaddN dX5_tellPerson_80 (Eq.refl 81) ?_
        refine Tr.putf dX5_tellPerson_81 pX5_108 rfl (rfl) (rfl) rfl (Eq.refl 84) ?_
        refine Tr.ret dX5_tellPerson_84 rfl rfl ?_
        · rfl
  · rw [if_neg (by omega)]
    refine Tr.aload_n (i := 0) dX5_tellPerson_13 rfl rfl (Eq.refl 14) ?_
    refine Tr.iconst (v := nI 4) dX5_tellPerson_14 (icN 4) (Eq.refl 15) ?_
    refine Tr.callVs ((show Md E _ ad _ (tlP E ad len T z) none (tlP E ad len T (blm T z 4)) from l_blame E ad len T z.1 z.2.1 z.2.2.1 z.2.2.2.1 z.2.2.2.2 4)) dX5_tellPerson_15 (kX5_73 (Nat.le_of_ble_eq_true rfl)) iX5_blame rfl rfl rfl rfl rfl (tlP_le) rfl rfl (Eq.refl 18) ?_
    refine Tr.ret dX5_tellPerson_18 rfl rfl ?_
    · rfl
