/-! LEDGER: what it reads -/
/-- a number of at most hi; 1000: none -/
def rnN (T : Nat → Nat) (len hi p : Nat) : Nat := if tkK T len p = 2 ∧ tkN T len p ≤ hi then tkN T len p else 1000
def rnP (T : Nat → Nat) {len : Nat} (hi : Nat) (p : Fin (len + 1)) : Fin (len + 1) := if tkK T len p.1 = 2 ∧ tkN T len p.1 ≤ hi then nxP T len p else p
def rnI (n : Nat) : Int32 := if n < 1000 then nI n else -1
theorem nuN_lt (T : Nat → Nat) (s : Nat) (h : ∀ k, T k < 256) : ∀ j, nuN T s j + 23 ≤ 23 * 10 ^ j := by
  intro j
  induction j with
  | zero => show 0 + 23 ≤ _; omega
  | succ j ih =>
    have hu : nuN T s (j + 1) = nuN T s j * 10 + (T (s + j) - 48) := rfl
    have h1 := h (s + j)
    rw [hu, Nat.pow_succ]
    omega
theorem tkN_lt {T : Nat → Nat} {len p : Nat} (h : ∀ k, T k < 256) (hk : tkK T len p = 2) : tkN T len p < 2 ^ 31 := by
  have hd : tkE T len p - tkS T len p ≤ 3 := by
    unfold tkK at hk
    split at hk
    · split at hk
      · split at hk <;> omega
      · split at hk
        · split at hk <;> omega
        · split at hk <;> omega
    · omega
  unfold tkN
  split
  · have := nuN_lt T (tkS T len p) h (tkE T len p - tkS T len p)
    have h2 : 10 ^ (tkE T len p - tkS T len p) ≤ 10 ^ 3 := Nat.pow_le_pow_right (by omega) hd
    omega
  · omega
set_option maxHeartbeats 4000000 in
set_option maxRecDepth 100000 in
theorem g_readNumber (E : EnvT) (ad : Nat → Nat) (len : Nat) (p : Fin (len + 1)) (T : Nat → Nat) (hi : Nat) (hl : len ≤ 900) (hTa : ∀ k, T k < 256) (hh : hi < 1000) : Md E mX2_readNumber ad [.ref (ad 0), .int (nI hi)] (tqC E ad len (tkE T len p.1) (tkK T len p.1) (tkS T len p.1) (tkN T len p.1) (tkM T len p.1) T) (some (.int (rnI (rnN T len hi p.1)))) (tqC E ad len (tkE T len (rnP T hi p).1) (tkK T len (rnP T hi p).1) (tkS T len (rnP T hi p).1) (tkN T len (rnP T hi p).1) (tkM T len (rnP T hi p).1) T) := by
  have hT : ∀ k, k < 900 → T k < 256 := fun k _ => hTa k
  have hk6 := tkK_lt T len p.1
  have hpe := tkE_le T (Nat.le_of_lt_succ p.2)
  refine Md.of 1 (by decide) rfl rfl ?_
  refine Tr.aload_n (i := 0) dX2_readNumber_0 rfl rfl (Eq.refl 1) ?_
  refine Tr.getf dX2_readNumber_1 fX2_40 rfl rfl (Eq.refl 4) ?_
  refine Tr.iconst (v := nI 2) dX2_readNumber_4 (icN 2) (Eq.refl 5) ?_
  refine Tr.icmp_neN (tgt := 16) dX2_readNumber_5 (by decide) (Eq.refl 8) (by omega) (by omega) (fun h5 => ?_) (fun h5 => ?_)
  · rw [show rnN T len hi p.1 = 1000 from if_neg (fun z9 => h5 z9.1), show rnP T hi p = p from if_neg (fun z9 => h5 z9.1)]
    refine Tr.iconst (v := (-1)) dX2_readNumber_16 (by decide +kernel) (Eq.refl 17) ?_
    refine Tr.iret dX2_readNumber_17 rfl (by first | rfl | exact bI_nar _) ?_ ?_
    · rfl
    · rfl
  · have hnl := tkN_lt hTa h5
    refine Tr.aload_n (i := 0) dX2_readNumber_8 rfl rfl (Eq.refl 9) ?_
    refine Tr.getf dX2_readNumber_9 fX2_54 rfl rfl (Eq.refl 12) ?_
    refine Tr.iload_n (i := 1) dX2_readNumber_12 rfl rfl (Eq.refl 13) ?_
    refine Tr.icmp_leN (tgt := 18) dX2_readNumber_13 (by decide) (Eq.refl 16) (by omega) (by omega) (fun h13 => ?_) (fun h13 => ?_)
    · have c9 : tkK T len p.1 = 2 ∧ tkN T len p.1 ≤ hi := ⟨h5, by omega⟩
      rw [show rnN T len hi p.1 = tkN T len p.1 from if_pos c9, show rnP T hi p = nxP T len p from if_pos c9, show rnI (tkN T len p.1) = nI (tkN T len p.1) from if_pos (by omega)]
      refine Tr.aload_n (i := 0) dX2_readNumber_18 rfl rfl (Eq.refl 19) ?_
      refine Tr.getf dX2_readNumber_19 fX2_54 rfl rfl (Eq.refl 22) ?_
      refine Tr.istore_n (i := 2) dX2_readNumber_22 rfl rfl rfl (Eq.refl 23) ?_
      refine Tr.aload_n (i := 0) dX2_readNumber_23 rfl rfl (Eq.refl 24) ?_
      refine Tr.callV (L := [0, 1]) (t_readToken E _ len (tkE T len p.1) _ _ _ _ T hl hT hpe.2) dX2_readNumber_24 (kX2_51 (Nat.le_of_ble_eq_true rfl)) iX4_readToken rfl rfl rfl rfl rfl rfl rfl rfl rfl rfl (Eq.refl 27) ?_
      refine Tr.pic (w' := (tqC E ad len (tkE T len (nxP T len p).1) (tkK T len (nxP T len p).1) (tkS T len (nxP T len p).1) (tkN T len (nxP T len p).1) (tkM T len (nxP T len p).1) T)) (putB_eq (Lc := []) 2 rfl rfl rfl rfl trivial (by decide) rfl) ?_
      refine Tr.iload_n (i := 2) dX2_readNumber_27 rfl rfl (Eq.refl 28) ?_
      refine Tr.iret dX2_readNumber_28 rfl (by first | rfl | exact bI_nar _) ?_ ?_
      · rfl
      · rfl
    · rw [show rnN T len hi p.1 = 1000 from if_neg (fun z9 => by have := z9.2; omega), show rnP T hi p = p from if_neg (fun z9 => by have := z9.2; omega)]
      refine Tr.iconst (v := (-1)) dX2_readNumber_16 (by decide +kernel) (Eq.refl 17) ?_
      refine Tr.iret dX2_readNumber_17 rfl (by first | rfl | exact bI_nar _) ?_ ?_
      · rfl
      · rfl
/-- ledger's object and rows, tape -/
def lkC (E : EnvT) (ad r : Nat → Nat) (sz : Nat) (bq bn bl : Nat → Nat) (len : Nat) (T : Nat → Nat) (p : Nat) : List va_E := [.inr (2, [.ref (ad 1), .ref (ad 2), .ref (ad 3), .int (nI sz), .ref (r 0), .ref (r 1)]), aI E 150 (fun k => nI (bq k)), aI E 150 (fun k => nI (bn k)), aI E 150 (fun k => cl (bl k))] ++ tpC E ad 4 len (nI (tkE T len p), nI (tkK T len p), nI (tkS T len p), nI (tkN T len p)) (lN (tkM T len p)) T
/-- a row: whether it is one, where it ends, the rows -/
def bkR (T : Nat → Nat) {len : Nat} (p : Fin (len + 1)) (b : Bki) : Bool × Fin (len + 1) × Bki :=
  if (rnN T len 99 p.1 < 1000 ∧ rnN T len 4 (rnP T 99 p).1 < 1000 ∧ rnN T len 5 (rnP T 4 (rnP T 99 p)).1 < 1000) ∧ tkK T len (rnP T 5 (rnP T 4 (rnP T 99 p))).1 = 3 then
    (true, nxP T len (rnP T 5 (rnP T 4 (rnP T 99 p))), b.1 + 1, upN b.2.1 b.1 (rnN T len 99 p.1), upN b.2.2.1 b.1 (rnN T len 4 (rnP T 99 p).1), upN b.2.2.2 b.1 (rnN T len 5 (rnP T 4 (rnP T 99 p)).1))
  else (false, rnP T 5 (rnP T 4 (rnP T 99 p)), b)
theorem rnN_h {T : Nat → Nat} {len hi p : Nat} (h : hi < 1000) : rnN T len hi p ≤ hi ∨ rnN T len hi p = 1000 := by
  unfold rnN
  split
  · rename_i c; exact Or.inl c.2
  · exact Or.inr rfl
theorem rnI_n {n : Nat} (h : n ≤ 1000) : rnI n = -1 ↔ n = 1000 := by
  unfold rnI
  split
  · rename_i c
    exact ⟨fun z => absurd z (nI_nm1 (by omega)), fun z => by omega⟩
  · exact ⟨fun _ => by omega, fun _ => rfl⟩
theorem rnI_l {n : Nat} (h : n < 1000) : rnI n = nI n := if_pos h
set_option maxHeartbeats 4000000 in
set_option maxRecDepth 100000 in
theorem g_readRow (E : EnvT) (ad r : Nat → Nat) (len : Nat) (p : Fin (len + 1)) (T : Nat → Nat) (b : Bki) (hl : len ≤ 900) (hTa : ∀ k, T k < 256) (hb : b.1 < 150) : Md E mX2_readRow ad [.ref (ad 0), .ref (ad 4)] (lkC E ad r b.1 b.2.1 b.2.2.1 b.2.2.2 len T p.1) (some (.int (bI (bkR T p b).1))) (lkC E ad r (bkR T p b).2.2.1 (bkR T p b).2.2.2.1 (bkR T p b).2.2.2.2.1 (bkR T p b).2.2.2.2.2 len T (bkR T p b).2.1.1) := by
  have hT : ∀ k, k < 900 → T k < 256 := fun k _ => hTa k
  have hk6 := tkK_lt T len (rnP T 5 (rnP T 4 (rnP T 99 p))).1
  have hpe := tkE_le T (Nat.le_of_lt_succ (rnP T 5 (rnP T 4 (rnP T 99 p))).2)
  unfold bkR
  refine Md.of 3 (by decide) rfl rfl ?_
  have a1 := rnN_h (T := T) (len := len) (hi := 99) (p := p.1) (by decide)
  have a2 := rnN_h (T := T) (len := len) (hi := 4) (p := (rnP T 99 p).1) (by decide)
  have a3 := rnN_h (T := T) (len := len) (hi := 5) (p := (rnP T 4 (rnP T 99 p)).1) (by decide)
  refine Tr.aload_n (i := 0) dX2_readRow_0 rfl rfl (Eq.refl 1) ?_
  refine Tr.getf dX2_readRow_1 fX2_31 rfl rfl (Eq.refl 4) ?_
  refine Tr.if_lt (tgt := 17) dX2_readRow_4 (by decide) (Eq.refl 7) (fun h4 => ?_) (fun h4 => ?_)
  · exact absurd h4 (nI_nneg (by omega))
  · refine Tr.aload_n (i := 0) dX2_readRow_7 rfl rfl (Eq.refl 8) ?_
    refine Tr.getf dX2_readRow_8 fX2_31 rfl rfl (Eq.refl 11) ?_
    refine Tr.sipush (v := nI 150) dX2_readRow_11 (by decide +kernel) (Eq.refl 14) ?_
    refine Tr.icmp_ltN (tgt := 19) dX2_readRow_14 (by decide) (Eq.refl 17) (by omega) (by omega) (fun h14 => ?_) (fun h14 => ?_)
    · refine Tr.aload_n (i := 1) dX2_readRow_19 rfl rfl (Eq.refl 20) ?_
      refine Tr.bipush (v := nI 99) dX2_readRow_20 (by decide +kernel) (Eq.refl 22) ?_
      refine Tr.callS (L := [4, 5]) (g_readNumber E _ len p T 99 hl hTa (by decide)) dX2_readRow_22 (kX2_47 (Nat.le_of_ble_eq_true rfl)) sX2_readNumber rfl rfl rfl rfl rfl rfl rfl rfl (Eq.refl 25) ?_
      refine Tr.pic (w' := (lkC E ad r b.1 b.2.1 b.2.2.1 b.2.2.2 len T (rnP T 99 p).1)) (putB_eq (Lc := [0, 1, 2, 3]) 6 rfl rfl rfl rfl ⟨⟨_, rfl, rfl⟩, ⟨_, rfl, rfl⟩, ⟨_, rfl, rfl⟩, ⟨_, rfl, rfl⟩, trivial⟩ (by decide) rfl) ?_
      refine Tr.istore_n (i := 2) dX2_readRow_25 rfl rfl rfl (Eq.refl 26) ?_
      refine Tr.aload_n (i := 1) dX2_readRow_26 rfl rfl (Eq.refl 27) ?_
      refine Tr.iconst (v := nI 4) dX2_readRow_27 (icN 4) (Eq.refl 28) ?_
      refine Tr.callS (L := [4, 5]) (g_readNumber E _ len (rnP T 99 p) T 4 hl hTa (by decide)) dX2_readRow_28 (kX2_47 (Nat.le_of_ble_eq_true rfl)) sX2_readNumber rfl rfl rfl rfl rfl rfl rfl rfl (Eq.refl 31) ?_
      refine Tr.pic (w' := (lkC E ad r b.1 b.2.1 b.2.2.1 b.2.2.2 len T (rnP T 4 (rnP T 99 p)).1)) (putB_eq (Lc := [0, 1, 2, 3]) 6 rfl rfl rfl rfl ⟨⟨_, rfl, rfl⟩, ⟨_, rfl, rfl⟩, ⟨_, rfl, rfl⟩, ⟨_, rfl, rfl⟩, trivial⟩ (by decide) rfl) ?_
      refine Tr.istore_n (i := 3) dX2_readRow_31 rfl rfl rfl (Eq.refl 32) ?_
      refine Tr.aload_n (i := 1) dX2_readRow_32 rfl rfl (Eq.refl 33) ?_
      refine Tr.iconst (v := nI 5) dX2_readRow_33 (icN 5) (Eq.refl 34) ?_
      refine Tr.callS (L := [4, 5]) (g_readNumber E _ len (rnP T 4 (rnP T 99 p)) T 5 hl hTa (by decide)) dX2_readRow_34 (kX2_47 (Nat.le_of_ble_eq_true rfl)) sX2_readNumber rfl rfl rfl rfl rfl rfl rfl rfl (Eq.refl 37) ?_
      refine Tr.pic (w' := (lkC E ad r b.1 b.2.1 b.2.2.1 b.2.2.2 len T (rnP T 5 (rnP T 4 (rnP T 99 p))).1)) (putB_eq (Lc := [0, 1, 2, 3]) 6 rfl rfl rfl rfl ⟨⟨_, rfl, rfl⟩, ⟨_, rfl, rfl⟩, ⟨_, rfl, rfl⟩, ⟨_, rfl, rfl⟩, trivial⟩ (by decide) rfl) ?_
      generalize (rnP T 5 (rnP T 4 (rnP T 99 p))) = p3 at *
      generalize rnN T len 99 p.1 = x1 at *
      generalize rnN T len 4 (rnP T 99 p).1 = x2 at *
      generalize rnN T len 5 (rnP T 4 (rnP T 99 p)).1 = x3 at *
      refine Tr.istore dX2_readRow_37 rfl rfl (Eq.refl 39) ?_
      refine Tr.iload_n (i := 2) dX2_readRow_39 rfl rfl (Eq.refl 40) ?_
      refine Tr.iconst (v := (-1)) dX2_readRow_40 (by decide +kernel) (Eq.refl 41) ?_
      refine Tr.icmp_eq (tgt := 63) dX2_readRow_41 (by decide) (Eq.refl 44) (fun h41 => ?_) (fun h41 => ?_)
      · rw [rnI_n (by omega)] at h41
        rw [if_neg (fun z9 => by have := z9.1.1; omega)]
        refine Tr.iconst (v := nI 0) dX2_readRow_63 (icN 0) (Eq.refl 64) ?_
        refine Tr.iret dX2_readRow_64 rfl (by first | rfl | exact bI_nar _) ?_ ?_
        · rfl
        · rfl
      · rw [rnI_n (by omega)] at h41
        rw [rnI_l (show x1 < 1000 by omega)]
        refine Tr.iload_n (i := 3) dX2_readRow_44 rfl rfl (Eq.refl 45) ?_
        refine Tr.iconst (v := (-1)) dX2_readRow_45 (by decide +kernel) (Eq.refl 46) ?_
        refine Tr.icmp_eq (tgt := 63) dX2_readRow_46 (by decide) (Eq.refl 49) (fun h46 => ?_) (fun h46 => ?_)
        · rw [rnI_n (by omega)] at h46
          rw [if_neg (fun z9 => by have := z9.1.2.1; omega)]
          refine Tr.iconst (v := nI 0) dX2_readRow_63 (icN 0) (Eq.refl 64) ?_
          refine Tr.iret dX2_readRow_64 rfl (by first | rfl | exact bI_nar _) ?_ ?_
          · rfl
          · rfl
        · rw [rnI_n (by omega)] at h46
          rw [rnI_l (show x2 < 1000 by omega)]
          refine Tr.iload dX2_readRow_49 rfl (Eq.refl 51) ?_
          refine Tr.iconst (v := (-1)) dX2_readRow_51 (by decide +kernel) (Eq.refl 52) ?_
          refine Tr.icmp_eq (tgt := 63) dX2_readRow_52 (by decide) (Eq.refl 55) (fun h52 => ?_) (fun h52 => ?_)
          · rw [rnI_n (by omega)] at h52
            rw [if_neg (fun z9 => by have := z9.1.2.2; omega)]
            refine Tr.iconst (v := nI 0) dX2_readRow_63 (icN 0) (Eq.refl 64) ?_
            refine Tr.iret dX2_readRow_64 rfl (by first | rfl | exact bI_nar _) ?_ ?_
            · rfl
            · rfl
          · rw [rnI_n (by omega)] at h52
            rw [rnI_l (show x3 < 1000 by omega)]
            refine Tr.aload_n (i := 1) dX2_readRow_55 rfl rfl (Eq.refl 56) ?_
            refine Tr.getf dX2_readRow_56 fX2_40 rfl rfl (Eq.refl 59) ?_
            refine Tr.iconst (v := nI 3) dX2_readRow_59 (icN 3) (Eq.refl 60) ?_
            refine Tr.icmp_eqN (tgt := 65) dX2_readRow_60 (by decide) (Eq.refl 63) (by omega) (by omega) (fun h60 => ?_) (fun h60 => ?_)
            · rw [if_pos ⟨⟨by omega, by omega, by omega⟩, h60⟩]
              skip
              refine Tr.aload_n (i := 1) dX2_readRow_65 rfl rfl (Eq.refl 66) ?_
              refine Tr.callV (L := [4, 5]) (t_readToken E _ len (tkE T len p3.1) _ _ _ _ T hl hT hpe.2) dX2_readRow_66 (kX2_51 (Nat.le_of_ble_eq_true rfl)) iX4_readToken rfl rfl rfl rfl rfl rfl rfl rfl rfl rfl (Eq.refl 69) ?_
              refine Tr.pic (w' := (lkC E ad r b.1 b.2.1 b.2.2.1 b.2.2.2 len T (nxP T len p3).1)) (putB_eq (Lc := [0, 1, 2, 3]) 6 rfl rfl rfl rfl ⟨⟨_, rfl, rfl⟩, ⟨_, rfl, rfl⟩, ⟨_, rfl, rfl⟩, ⟨_, rfl, rfl⟩, trivial⟩ (by decide) rfl) ?_
              refine Tr.aload_n (i := 0) dX2_readRow_69 rfl rfl (Eq.refl 70) ?_
              refine Tr.getf dX2_readRow_70 fX2_11 rfl rfl (Eq.refl 73) ?_
              refine Tr.aload_n (i := 0) dX2_readRow_73 rfl rfl (Eq.refl 74) ?_
              refine Tr.getf dX2_readRow_74 fX2_31 rfl rfl (Eq.refl 77) ?_
              refine Tr.iload_n (i := 2) dX2_readRow_77 rfl rfl (Eq.refl 78) ?_
              refine Tr.iastN dX2_readRow_78 rfl (by omega) (by decide) (Eq.refl 79) ?_
              refine Tr.pic (w' := (lkC E ad r b.1 (upN b.2.1 b.1 x1) b.2.2.1 b.2.2.2 len T (nxP T len p3).1)) (by unfold lkC; rw [nI_upN]; rfl) ?_
              refine Tr.aload_n (i := 0) dX2_readRow_79 rfl rfl (Eq.refl 80) ?_
              refine Tr.getf dX2_readRow_80 fX2_15 rfl rfl (Eq.refl 83) ?_
              refine Tr.aload_n (i := 0) dX2_readRow_83 rfl rfl (Eq.refl 84) ?_
              refine Tr.getf dX2_readRow_84 fX2_31 rfl rfl (Eq.refl 87) ?_
              refine Tr.iload_n (i := 3) dX2_readRow_87 rfl rfl (Eq.refl 88) ?_
              refine Tr.iastN dX2_readRow_88 rfl (by omega) (by decide) (Eq.refl 89) ?_
              refine Tr.pic (w' := (lkC E ad r b.1 (upN b.2.1 b.1 x1) (upN b.2.2.1 b.1 x2) b.2.2.2 len T (nxP T len p3).1)) (by unfold lkC; rw [nI_upN b.2.2.1]; rfl) ?_
              refine Tr.aload_n (i := 0) dX2_readRow_89 rfl rfl (Eq.refl 90) ?_
              refine Tr.getf dX2_readRow_90 fX2_18 rfl rfl (Eq.refl 93) ?_
              refine Tr.aload_n (i := 0) dX2_readRow_93 rfl rfl (Eq.refl 94) ?_
              refine Tr.getf dX2_readRow_94 fX2_31 rfl rfl (Eq.refl 97) ?_
              refine Tr.iload dX2_readRow_97 rfl (Eq.refl 99) ?_
              refine Tr.iconst (v := nI 5) dX2_readRow_99 (icN 5) (Eq.refl 100) ?_
              refine Tr.icmp_neN (tgt := 107) dX2_readRow_100 (by decide) (Eq.refl 103) (by omega) (by omega) (fun h100 => ?_) (fun h100 => ?_)
              · have e9 : cl x3 = nI x3 := cl_lt (by omega)
                refine Tr.iload dX2_readRow_107 rfl (Eq.refl 109) ?_
                skip
                rw [← e9]
                refine Tr.iastN dX2_readRow_109 rfl (by omega) (by decide) (Eq.refl 110) ?_
                refine Tr.pic (w' := (lkC E ad r b.1 (upN b.2.1 b.1 x1) (upN b.2.2.1 b.1 x2) (upN b.2.2.2 b.1 x3) len T (nxP T len p3).1)) (by unfold lkC; rw [cl_upN b.2.2.2]; rfl) ?_
                refine Tr.aload_n (i := 0) dX2_readRow_110 rfl rfl (Eq.refl 111) ?_
                refine Tr.dup dX2_readRow_111 rfl (Eq.refl 112) ?_
                refine Tr.getf dX2_readRow_112 fX2_31 rfl rfl (Eq.refl 115) ?_
                refine Tr.iconst (v := nI 1) dX2_readRow_115 (icN 1) (Eq.refl 116) ?_
                refine Tr.iaddN dX2_readRow_116 (Eq.refl 117) ?_
                refine Tr.putf dX2_readRow_117 pX2_31 rfl (rfl) (rfl) rfl (Eq.refl 120) ?_
                refine Tr.iconst (v := nI 1) dX2_readRow_120 (icN 1) (Eq.refl 121) ?_
                refine Tr.iret dX2_readRow_121 rfl (by first | rfl | exact bI_nar _) ?_ ?_
                · rfl
                · rfl
              · refine Tr.pic (w' := (lkC E ad r b.1 (upN b.2.1 b.1 x1) (upN b.2.2.1 b.1 x2) b.2.2.2 len T (nxP T len p3).1)) rfl ?_
                have e9 : cl x3 = -1 := by rw [h100]; rfl
                refine Tr.iconst (v := (-1)) dX2_readRow_103 (by decide +kernel) (Eq.refl 104) ?_
                refine Tr.goto (pc' := 109) dX2_readRow_104 (by decide) ?_
                skip
                rw [← e9]
                refine Tr.iastN dX2_readRow_109 rfl (by omega) (by decide) (Eq.refl 110) ?_
                refine Tr.pic (w' := (lkC E ad r b.1 (upN b.2.1 b.1 x1) (upN b.2.2.1 b.1 x2) (upN b.2.2.2 b.1 x3) len T (nxP T len p3).1)) (by unfold lkC; rw [cl_upN b.2.2.2]; rfl) ?_
                refine Tr.aload_n (i := 0) dX2_readRow_110 rfl rfl (Eq.refl 111) ?_
                refine Tr.dup dX2_readRow_111 rfl (Eq.refl 112) ?_
                refine Tr.getf dX2_readRow_112 fX2_31 rfl rfl (Eq.refl 115) ?_
                refine Tr.iconst (v := nI 1) dX2_readRow_115 (icN 1) (Eq.refl 116) ?_
                refine Tr.iaddN dX2_readRow_116 (Eq.refl 117) ?_
                refine Tr.putf dX2_readRow_117 pX2_31 rfl (rfl) (rfl) rfl (Eq.refl 120) ?_
                refine Tr.iconst (v := nI 1) dX2_readRow_120 (icN 1) (Eq.refl 121) ?_
                refine Tr.iret dX2_readRow_121 rfl (by first | rfl | exact bI_nar _) ?_ ?_
                · rfl
                · rfl
            · rw [if_neg (fun z9 => h60 z9.2)]
              refine Tr.iconst (v := nI 0) dX2_readRow_63 (icN 0) (Eq.refl 64) ?_
              refine Tr.iret dX2_readRow_64 rfl (by first | rfl | exact bI_nar _) ?_ ?_
              · rfl
              · rfl
    · exact absurd h14 (by omega)
/-- all rows -/
def bwF (T : Nat → Nat) {len : Nat} : Nat → Fin (len + 1) → Bki → Bool × Fin (len + 1) × Bki
  | 0, p, b => (true, p, b)
  | n + 1, p, b => if tkK T len p.1 = 0 then (true, p, b) else if (bkR T p b).1 then bwF T n (bkR T p b).2.1 (bkR T p b).2.2 else bkR T p b
theorem bkR_1 {T : Nat → Nat} {len : Nat} {p : Fin (len + 1)} {b : Bki} (h : (bkR T p b).1 = true) : (bkR T p b).2.2.1 = b.1 + 1 := by
  unfold bkR at h ⊢
  split at h
  · rename_i c; rw [if_pos c]
  · exact absurd (show false = true from h) nft
set_option maxHeartbeats 4000000 in
set_option maxRecDepth 100000 in
theorem g_readAllF (E : EnvT) (ad r : Nat → Nat) (len : Nat) (T : Nat → Nat) (p : Fin (len + 1)) (b : Bki) (n : Nat) (hn : n ≤ 150) : Tr (E, mX2_readAll, ad, some (.int (bI false)), (lkC E ad r b.1 b.2.1 b.2.2.1 b.2.2.2 len T p.1)) 0 0 13 [some (.ref (ad 0)), some (.ref (ad 4)), some (.int (bI false)), some (.int (nI n))] [] (lkC E ad r b.1 b.2.1 b.2.2.1 b.2.2.2 len T p.1) := by
  refine Tr.iload_n (i := 3) dX2_readAll_13 rfl rfl (Eq.refl 14) ?_
  refine Tr.sipush (v := nI 150) dX2_readAll_14 (by decide +kernel) (Eq.refl 17) ?_
  refine Tr.icmp_geN (tgt := 43) dX2_readAll_17 (by decide) (Eq.refl 20) (by omega) (by omega) (fun h17 => ?_) (fun h17 => ?_)
  · refine Tr.iload_n (i := 2) dX2_readAll_43 rfl rfl (Eq.refl 44) ?_
    refine Tr.if_eqB (tgt := 58) dX2_readAll_44 (by decide) (Eq.refl 47) (fun h44 => ?_) (fun h44 => ?_)
    · refine Tr.iconst (v := nI 0) dX2_readAll_58 (icN 0) (Eq.refl 59) ?_
      refine Tr.iret dX2_readAll_59 rfl (by first | rfl | exact bI_nar _) ?_ ?_
      · rfl
      · rfl
    · exact absurd h44 (by decide)
  · refine Tr.iload_n (i := 2) dX2_readAll_20 rfl rfl (Eq.refl 21) ?_
    refine Tr.if_eqB (tgt := 43) dX2_readAll_21 (by decide) (Eq.refl 24) (fun h21 => ?_) (fun h21 => ?_)
    · refine Tr.iload_n (i := 2) dX2_readAll_43 rfl rfl (Eq.refl 44) ?_
      refine Tr.if_eqB (tgt := 58) dX2_readAll_44 (by decide) (Eq.refl 47) (fun h44 => ?_) (fun h44 => ?_)
      · refine Tr.iconst (v := nI 0) dX2_readAll_58 (icN 0) (Eq.refl 59) ?_
        refine Tr.iret dX2_readAll_59 rfl (by first | rfl | exact bI_nar _) ?_ ?_
        · rfl
        · rfl
      · exact absurd h44 (by decide)
    · exact absurd h21 (by decide)
set_option maxHeartbeats 4000000 in
set_option maxRecDepth 100000 in
theorem g_readAllL (E : EnvT) (ad r : Nat → Nat) (len : Nat) (T : Nat → Nat) (hl : len ≤ 900) (hTa : ∀ k, T k < 256) : ∀ (n : Nat) (p : Fin (len + 1)) (b : Bki), b.1 + n = 150 → Tr (E, mX2_readAll, ad, some (.int (bI ((bwF T n p b).1 && decide (tkK T len (bwF T n p b).2.1.1 = 0)))), (lkC E ad r (bwF T n p b).2.2.1 (bwF T n p b).2.2.2.1 (bwF T n p b).2.2.2.2.1 (bwF T n p b).2.2.2.2.2 len T (bwF T n p b).2.1.1)) 0 0 13 [some (.ref (ad 0)), some (.ref (ad 4)), some (.int (bI true)), some (.int (nI b.1))] [] (lkC E ad r b.1 b.2.1 b.2.2.1 b.2.2.2 len T p.1) := by
  intro n
  induction n with
  | zero =>
    intro p b h
    have hk6 := tkK_lt T len p.1
    have hu : (bwF T 0 p b) = (true, p, b) := rfl
    rw [hu]
    refine Tr.iload_n (i := 3) dX2_readAll_13 rfl rfl (Eq.refl 14) ?_
    refine Tr.sipush (v := nI 150) dX2_readAll_14 (by decide +kernel) (Eq.refl 17) ?_
    refine Tr.icmp_geN (tgt := 43) dX2_readAll_17 (by decide) (Eq.refl 20) (by omega) (by omega) (fun h17 => ?_) (fun h17 => ?_)
    · refine Tr.iload_n (i := 2) dX2_readAll_43 rfl rfl (Eq.refl 44) ?_
      refine Tr.if_eqB (tgt := 58) dX2_readAll_44 (by decide) (Eq.refl 47) (fun h44 => ?_) (fun h44 => ?_)
      · exact absurd h44 (by decide)
      · refine Tr.aload_n (i := 1) dX2_readAll_47 rfl rfl (Eq.refl 48) ?_
        refine Tr.getf dX2_readAll_48 fX2_40 rfl rfl (Eq.refl 51) ?_
        refine Tr.if_ne (tgt := 58) dX2_readAll_51 (by decide) (Eq.refl 54) (fun h51 => ?_) (fun h51 => ?_)
        · have h51 : ¬ tkK T len p.1 = 0 := fun z9 => h51 (by rw [z9]; rfl)
          rw [decide_eq_false h51]
          refine Tr.iconst (v := nI 0) dX2_readAll_58 (icN 0) (Eq.refl 59) ?_
          refine Tr.iret dX2_readAll_59 rfl (by first | rfl | exact bI_nar _) ?_ ?_
          · rfl
          · rfl
        · have h51 := nI_inj (b := 0) (by omega) (by decide) h51
          rw [decide_eq_true h51]
          refine Tr.iconst (v := nI 1) dX2_readAll_54 (icN 1) (Eq.refl 55) ?_
          refine Tr.goto (pc' := 59) dX2_readAll_55 (by decide) ?_
          refine Tr.iret dX2_readAll_59 rfl (by first | rfl | exact bI_nar _) ?_ ?_
          · rfl
          · rfl
    · exact absurd h17 (by omega)
  | succ n ih =>
    intro p b h
    have hk6 := tkK_lt T len p.1
    have hu : (bwF T (n + 1) p b) = if tkK T len p.1 = 0 then (true, p, b) else if (bkR T p b).1 then bwF T n (bkR T p b).2.1 (bkR T p b).2.2 else bkR T p b := rfl
    rw [hu]
    clear hu
    have h1 := bkR_1 (T := T) (p := p) (b := b)
    refine Tr.iload_n (i := 3) dX2_readAll_13 rfl rfl (Eq.refl 14) ?_
    refine Tr.sipush (v := nI 150) dX2_readAll_14 (by decide +kernel) (Eq.refl 17) ?_
    refine Tr.icmp_geN (tgt := 43) dX2_readAll_17 (by decide) (Eq.refl 20) (by omega) (by omega) (fun h17 => ?_) (fun h17 => ?_)
    · exact absurd h17 (by omega)
    · refine Tr.iload_n (i := 2) dX2_readAll_20 rfl rfl (Eq.refl 21) ?_
      refine Tr.if_eqB (tgt := 43) dX2_readAll_21 (by decide) (Eq.refl 24) (fun h21 => ?_) (fun h21 => ?_)
      · exact absurd h21 (by decide)
      · refine Tr.aload_n (i := 1) dX2_readAll_24 rfl rfl (Eq.refl 25) ?_
        refine Tr.getf dX2_readAll_25 fX2_40 rfl rfl (Eq.refl 28) ?_
        refine Tr.if_eq (tgt := 43) dX2_readAll_28 (by decide) (Eq.refl 31) (fun h28 => ?_) (fun h28 => ?_)
        · have h28 := nI_inj (b := 0) (by omega) (by decide) h28
          rw [if_pos h28, decide_eq_true h28]
          refine Tr.iload_n (i := 2) dX2_readAll_43 rfl rfl (Eq.refl 44) ?_
          refine Tr.if_eqB (tgt := 58) dX2_readAll_44 (by decide) (Eq.refl 47) (fun h44 => ?_) (fun h44 => ?_)
          · exact absurd h44 (by decide)
          · refine Tr.aload_n (i := 1) dX2_readAll_47 rfl rfl (Eq.refl 48) ?_
            refine Tr.getf dX2_readAll_48 fX2_40 rfl rfl (Eq.refl 51) ?_
            refine Tr.if_ne (tgt := 58) dX2_readAll_51 (by decide) (Eq.refl 54) (fun h51 => ?_) (fun h51 => ?_)
            · exact absurd h28 (fun z9 => h51 (by rw [z9]; rfl))
            · skip
              refine Tr.iconst (v := nI 1) dX2_readAll_54 (icN 1) (Eq.refl 55) ?_
              refine Tr.goto (pc' := 59) dX2_readAll_55 (by decide) ?_
              refine Tr.iret dX2_readAll_59 rfl (by first | rfl | exact bI_nar _) ?_ ?_
              · rfl
              · rfl
        · have h28 : ¬ tkK T len p.1 = 0 := fun z9 => h28 (by rw [z9]; rfl)
          rw [if_neg h28]
          refine Tr.aload_n (i := 0) dX2_readAll_31 rfl rfl (Eq.refl 32) ?_
          refine Tr.aload_n (i := 1) dX2_readAll_32 rfl rfl (Eq.refl 33) ?_
          refine Tr.callV (L := [0, 1, 2, 3, 4, 5]) (g_readRow E _ r len p T b hl hTa (by omega)) dX2_readAll_33 (kX2_43 (Nat.le_of_ble_eq_true rfl)) iX2_readRow rfl rfl rfl rfl rfl rfl rfl rfl rfl rfl (Eq.refl 36) ?_
          refine Tr.pic (w' := (lkC E ad r (bkR T p b).2.2.1 (bkR T p b).2.2.2.1 (bkR T p b).2.2.2.2.1 (bkR T p b).2.2.2.2.2 len T (bkR T p b).2.1.1)) (putB_eq (Lc := []) 6 rfl rfl rfl rfl trivial (by decide) rfl) ?_
          refine Tr.istore_n (i := 2) dX2_readAll_36 rfl rfl rfl (Eq.refl 37) ?_
          refine Tr.iincN dX2_readAll_37 rfl rfl rfl (Eq.refl 40) ?_
          refine Tr.goto (pc' := 13) dX2_readAll_40 (by decide) ?_
          generalize bkR T p b = y at *
          obtain ⟨y1, y2, y3⟩ := y
          cases y1
          · rw [if_neg nft]
            exact Tr.eqs rfl rfl rfl (g_readAllF E ad r len T y2 y3 (b.1 + 1) (by omega))
          · have h1 := h1 rfl
            have ih := ih y2 y3 (by have : y3.1 = b.1 + 1 := h1; omega)
            rw [if_pos rfl]
            exact Tr.eqs (by rw [show y3.1 = b.1 + 1 from h1]; rfl) rfl rfl ih
def lpC (E : EnvT) (ad r : Nat → Nat) (sz : Nat) (bq bn bl : Nat → Nat) (len : Nat) (T : Nat → Nat) (q : Int32 × Int32 × Int32 × Int32) (nm : Int64) : List va_E := [.inr (2, [.ref (ad 1), .ref (ad 2), .ref (ad 3), .int (nI sz), .ref (r 0), .ref (r 1)]), aI E 150 (fun k => nI (bq k)), aI E 150 (fun k => nI (bn k)), aI E 150 (fun k => cl (bl k))] ++ tpC E ad 4 len q nm T
set_option maxHeartbeats 4000000 in
set_option maxRecDepth 100000 in
theorem g_readAll (E : EnvT) (ad r : Nat → Nat) (len : Nat) (T : Nat → Nat) (nx kk st nu nm : Nat) (b : Bki) (hl : len ≤ 900) (hTa : ∀ k, T k < 256) : Md E mX2_readAll ad [.ref (ad 0), .ref (ad 4)] (lpC E ad r b.1 b.2.1 b.2.2.1 b.2.2.2 len T (nI nx, nI kk, nI st, nI nu) (lN nm)) (some (.int (bI ((bwF T 150 (p0F len) (0, b.2)).1 && decide (tkK T len (bwF T 150 (p0F len) (0, b.2)).2.1.1 = 0))))) (lkC E ad r (bwF T 150 (p0F len) (0, b.2)).2.2.1 (bwF T 150 (p0F len) (0, b.2)).2.2.2.1 (bwF T 150 (p0F len) (0, b.2)).2.2.2.2.1 (bwF T 150 (p0F len) (0, b.2)).2.2.2.2.2 len T (bwF T 150 (p0F len) (0, b.2)).2.1.1) := by
  have hT : ∀ k, k < 900 → T k < 256 := fun k _ => hTa k
  have hL := g_readAllL E ad r len T hl hTa 150 (p0F len) (0, b.2) rfl
  generalize (bwF T 150 (p0F len) (0, b.2)) = y at *
  refine Md.of 2 (by decide) rfl rfl ?_
  refine Tr.aload_n (i := 0) dX2_readAll_0 rfl rfl (Eq.refl 1) ?_
  refine Tr.iconst (v := nI 0) dX2_readAll_1 (icN 0) (Eq.refl 2) ?_
  refine Tr.putf dX2_readAll_2 pX2_31 rfl (rfl) (rfl) rfl (Eq.refl 5) ?_
  refine Tr.aload_n (i := 1) dX2_readAll_5 rfl rfl (Eq.refl 6) ?_
  refine Tr.callV (L := [4, 5]) (t_readFirst E _ len nx kk st nu nm T hl hT) dX2_readAll_6 (kX2_35 (Nat.le_of_ble_eq_true rfl)) iX4_readFirst rfl rfl rfl rfl rfl rfl rfl rfl rfl rfl (Eq.refl 9) ?_
  refine Tr.pic (w' := (lkC E ad r 0 b.2.1 b.2.2.1 b.2.2.2 len T 0)) (putB_eq (Lc := [0, 1, 2, 3]) 6 rfl rfl rfl rfl ⟨⟨_, rfl, rfl⟩, ⟨_, rfl, rfl⟩, ⟨_, rfl, rfl⟩, ⟨_, rfl, rfl⟩, trivial⟩ (by decide) rfl) ?_
  refine Tr.iconst (v := nI 1) dX2_readAll_9 (icN 1) (Eq.refl 10) ?_
  refine Tr.istore_n (i := 2) dX2_readAll_10 rfl rfl rfl (Eq.refl 11) ?_
  refine Tr.iconst (v := nI 0) dX2_readAll_11 (icN 0) (Eq.refl 12) ?_
  refine Tr.istore_n (i := 3) dX2_readAll_12 rfl rfl rfl (Eq.refl 13) ?_
  exact Tr.eqs rfl rfl rfl hL
