/-! OWNEDBYGUESTS: a book -/
def ldC (E : EnvT) (ad : Nat → Nat) (c : Nat) (b : Bki) (S : Scn) (W : Nat → Nat) : List va_E := [.inr (2, [.ref (ad (c + 1)), .ref (ad (c + 2)), .ref (ad (c + 3)), .int (nI b.1), .ref (ad (c + 4)), .ref (ad (c + 11))]), aI E 150 (fun k => nI (b.2.1 k)), aI E 150 (fun k => nI (b.2.2.1 k)), aI E 150 (fun k => cl (b.2.2.2 k))] ++ (scC E ad (c + 4) S ++ [aI E 5 (fun k => cl (W k))])
def xbC (E : EnvT) (ad r : Nat → Nat) (hf : Int32) (len : Nat) (q : Int32 × Int32 × Int32 × Int32) (nm : Int64) (T : Nat → Nat) (b : Bki) (S : Scn) (W : Nat → Nat) (V : Vil) (X : Vix) (N : Crs) : List va_E := (.inr (9, [.ref (ad 1), .ref (r 1), .ref (ad 15), .ref (ad 26), .ref (r 4), .ref (r 5), .ref (ad 3), .ref (r 7), .int hf]) : va_E) :: (tpC E ad 1 len q nm T ++ (ldC E ad 3 b S W ++ (viC E ad 15 V X ++ coQ E ad 26 N)))
theorem bkR_ok {T : Nat → Nat} {len : Nat} {p : Fin (len + 1)} {b : Bki} (hb : ∀ k, b.2.1 k < 1000 ∧ b.2.2.1 k < 5 ∧ b.2.2.2 k ≤ 5) : ∀ k, (bkR T p b).2.2.2.1 k < 1000 ∧ (bkR T p b).2.2.2.2.1 k < 5 ∧ (bkR T p b).2.2.2.2.2 k ≤ 5 := by
  intro k
  have h0 := hb k
  have h1 := rnN_h (T := T) (len := len) (hi := 4) (p := (rnP T 99 p).1) (by decide)
  have h2 := rnN_h (T := T) (len := len) (hi := 5) (p := (rnP T 4 (rnP T 99 p)).1) (by decide)
  unfold bkR
  split
  · rename_i c
    show upN _ _ _ k < 1000 ∧ upN _ _ _ k < 5 ∧ upN _ _ _ k ≤ 5
    unfold upN
    have := c.1
    split
    · exact ⟨this.1, by omega, by omega⟩
    · exact h0
  · exact h0
theorem bwF_ok {T : Nat → Nat} {len : Nat} : ∀ n (p : Fin (len + 1)) (b : Bki), (∀ k, b.2.1 k < 1000 ∧ b.2.2.1 k < 5 ∧ b.2.2.2 k ≤ 5) → ∀ k, (bwF T n p b).2.2.2.1 k < 1000 ∧ (bwF T n p b).2.2.2.2.1 k < 5 ∧ (bwF T n p b).2.2.2.2.2 k ≤ 5 := by
  intro n
  induction n with
  | zero => intro p b hb; exact hb
  | succ n ih =>
    intro p b hb
    unfold bwF
    split
    · exact hb
    · split
      · exact ih _ _ (bkR_ok hb)
      · exact bkR_ok hb
theorem bwF_1 {T : Nat → Nat} {len : Nat} : ∀ n (p : Fin (len + 1)) (b : Bki), (bwF T n p b).2.2.1 ≤ b.1 + n := by
  intro n
  induction n with
  | zero => intro p b; exact Nat.le_refl _
  | succ n ih =>
    intro p b
    unfold bwF
    split
    · show b.1 ≤ _; omega
    · split
      · rename_i c
        have h1 := bkR_1 c
        have h2 := ih (bkR T p b).2.1 (bkR T p b).2.2
        omega
      · rename_i c
        unfold bkR at c ⊢
        split
        · show b.1 + 1 ≤ _; omega
        · show b.1 ≤ _; omega
theorem fcH_n {b : Bki} {g c : Nat} (h : ¬ fcA b g c = -1) : fcH b g c = -1 - fcA b g c := by
  unfold fcA at h ⊢
  unfold fcH
  by_cases h1 : c < 1000
  · rw [if_pos h1, if_pos h1]
  · rw [if_neg h1] at h ⊢
    rw [if_neg h1]
    by_cases h2 : g < b.1
    · rw [if_pos h2, if_pos h2]
    · rw [if_neg h2] at h; exact absurd rfl h
theorem fcH_y {b : Bki} {g c : Nat} (hs : b.1 ≤ 150) (h : fcA b g c = -1) : fcH b g c = nI b.1 := by
  unfold fcA at h
  unfold fcH
  by_cases h1 : c < 1000
  · rw [if_pos h1] at h; exact absurd h (nI_nm1 (by omega))
  · rw [if_neg h1] at h
    rw [if_neg h1]
    by_cases h2 : g < b.1
    · rw [if_pos h2] at h; exact absurd h (nI_nm1 (by omega))
    · rw [if_neg h2]
set_option maxHeartbeats 4000000 in
set_option maxRecDepth 100000 in
theorem x_bookN (E : EnvT) (ad r : Nat → Nat) (hf : Int32) (len nx kk st nu nm : Nat) (T : Nat → Nat) (b : Bki) (S : Scn) (W : Nat → Nat) (V : Vil) (X : Vix) (N : Crs) (hl : len ≤ 900) (hTa : ∀ k, T k < 256) (y : Bool × Fin (len + 1) × Bki) (hy : bwF T 150 (p0F len) (0, b.2) = y) (hk : (y.1 && decide (tkK T len y.2.1.1 = 0)) = false) : Md E mX9_book ad [.ref (ad 0)] (xbC E ad r hf len (nI nx, nI kk, nI st, nI nu) (lN nm) T b S W V X N) (some (.int (-1000))) (xbC E ad r hf 0 (nI (tkE T len y.2.1.1), nI (tkK T len y.2.1.1), nI (tkS T len y.2.1.1), nI (tkN T len y.2.1.1)) (lN (tkM T len y.2.1.1)) T y.2.2 S W V X N) := by
  have hR := fun ad r => g_readAll E ad r len T nx kk st nu nm b hl hTa
  rw [hy, hk] at hR
  refine Md.of 2 (by decide) rfl rfl ?_
  refine Tr.aload_n (i := 0) dX9_book_0 rfl rfl (Eq.refl 1) ?_
  refine Tr.getf dX9_book_1 fX9_53 rfl rfl (Eq.refl 4) ?_
  refine Tr.aload_n (i := 0) dX9_book_4 rfl rfl (Eq.refl 5) ?_
  refine Tr.getf dX9_book_5 fX9_10 rfl rfl (Eq.refl 8) ?_
  refine Tr.callV (L := [3, 4, 5, 6, 1, 2]) (hR _ (fun k => ad (7 + 7 * k))) dX9_book_8 (kX9_296 (Nat.le_of_ble_eq_true rfl)) iX2_readAll rfl rfl rfl rfl rfl rfl rfl rfl rfl rfl (Eq.refl 11) ?_
  refine Tr.pic (w' := (xbC E ad r hf len (nI (tkE T len y.2.1.1), nI (tkK T len y.2.1.1), nI (tkS T len y.2.1.1), nI (tkN T len y.2.1.1)) (lN (tkM T len y.2.1.1)) T y.2.2 S W V X N)) (putB_eq (Lc := [0, 7, 8, 9, 10, 11, 12, 13, 14, 15, 16, 17, 18, 19, 20, 21, 22, 23, 24, 25, 26, 27, 28, 29, 30, 31, 32, 33, 34, 35, 36, 37]) 38 rfl rfl rfl rfl ⟨⟨_, rfl, rfl⟩, ⟨_, rfl, rfl⟩, ⟨_, rfl, rfl⟩, ⟨_, rfl, rfl⟩, ⟨_, rfl, rfl⟩, ⟨_, rfl, rfl⟩, ⟨_, rfl, rfl⟩, ⟨_, rfl, rfl⟩, ⟨_, rfl, rfl⟩, ⟨_, rfl, rfl⟩, ⟨_, rfl, rfl⟩, ⟨_, rfl, rfl⟩, ⟨_, rfl, rfl⟩, ⟨_, rfl, rfl⟩, ⟨_, rfl, rfl⟩, ⟨_, rfl, rfl⟩, ⟨_, rfl, rfl⟩, ⟨_, rfl, rfl⟩, ⟨_, rfl, rfl⟩, ⟨_, rfl, rfl⟩, ⟨_, rfl, rfl⟩, ⟨_, rfl, rfl⟩, ⟨_, rfl, rfl⟩, ⟨_, rfl, rfl⟩, ⟨_, rfl, rfl⟩, ⟨_, rfl, rfl⟩, ⟨_, rfl, rfl⟩, ⟨_, rfl, rfl⟩, ⟨_, rfl, rfl⟩, ⟨_, rfl, rfl⟩, ⟨_, rfl, rfl⟩, ⟨_, rfl, rfl⟩, trivial⟩ (by decide) rfl) ?_
  refine Tr.istore_n (i := 1) dX9_book_11 rfl rfl rfl (Eq.refl 12) ?_
  refine Tr.aload_n (i := 0) dX9_book_12 rfl rfl (Eq.refl 13) ?_
  refine Tr.getf dX9_book_13 fX9_10 rfl rfl (Eq.refl 16) ?_
  refine Tr.iconst (v := nI 0) dX9_book_16 (icN 0) (Eq.refl 17) ?_
  refine Tr.putf dX9_book_17 pX9_68 rfl (rfl) (rfl) rfl (Eq.refl 20) ?_
  refine Tr.iload_n (i := 1) dX9_book_20 rfl rfl (Eq.refl 21) ?_
  refine Tr.if_neB (tgt := 28) dX9_book_21 (by decide) (Eq.refl 24) (fun h21 => ?_) (fun h21 => ?_)
  · exact absurd h21 nft
  · refine Tr.sipush (v := (-1000)) dX9_book_24 (by decide +kernel) (Eq.refl 27) ?_
    refine Tr.iret dX9_book_27 rfl (by first | rfl | exact bI_nar _) ?_ ?_
    · rfl
    · rfl
set_option maxHeartbeats 4000000 in
set_option maxRecDepth 100000 in
theorem x_bookY (E : EnvT) (ad r : Nat → Nat) (hf : Int32) (len nx kk st nu nm : Nat) (T : Nat → Nat) (b : Bki) (S : Scn) (W : Nat → Nat) (V : Vil) (X : Vix) (N : Crs) (hl : len ≤ 900) (hTa : ∀ k, T k < 256) (y : Bool × Fin (len + 1) × Bki) (hy : bwF T 150 (p0F len) (0, b.2) = y) (hk : (y.1 && decide (tkK T len y.2.1.1 = 0)) = true) (hb : ∀ k, b.2.1 k < 1000 ∧ b.2.2.1 k < 5 ∧ b.2.2.2 k ≤ 5) (hV : Vok V) (hW : ∀ k, W k ≤ 5) : Md E mX9_book ad [.ref (ad 0)] (xbC E ad r hf len (nI nx, nI kk, nI st, nI nu) (lN nm) T b S W V X N) (some (.int (fcH y.2.2 (gdF V y.2.2 y.2.2.1 0) (fcY V X N.2.2.1 y.2.2 W).1))) (xbC E ad r hf 0 (nI (tkE T len y.2.1.1), nI (tkK T len y.2.1.1), nI (tkS T len y.2.1.1), nI (tkN T len y.2.1.1)) (lN (tkM T len y.2.1.1)) T y.2.2 (fcY V X N.2.2.1 y.2.2 W).2.1 (fcY V X N.2.2.1 y.2.2 W).2.2 V X N) := by
  have hR := fun ad r => g_readAll E ad r len T nx kk st nu nm b hl hTa
  have hb2 := bwF_ok (T := T) 150 (p0F len) (0, b.2) hb
  have hs2 := bwF_1 (T := T) 150 (p0F len) (0, b.2)
  rw [hy, hk] at hR
  rw [hy] at hb2 hs2
  have hs3 : y.2.2.1 ≤ 150 := by have e : (0, b.2).1 = 0 := rfl; omega
  clear hy hs2
  have hF := fun ad S => g_first E ad y.2.2 V X N.2.2.1 S W hb2 hV hs3 hW
  generalize gdF V y.2.2 y.2.2.1 0 = g at *
  generalize (fcY V X N.2.2.1 y.2.2 W) = z at *
  refine Md.of 2 (by decide) rfl rfl ?_
  refine Tr.aload_n (i := 0) dX9_book_0 rfl rfl (Eq.refl 1) ?_
  refine Tr.getf dX9_book_1 fX9_53 rfl rfl (Eq.refl 4) ?_
  refine Tr.aload_n (i := 0) dX9_book_4 rfl rfl (Eq.refl 5) ?_
  refine Tr.getf dX9_book_5 fX9_10 rfl rfl (Eq.refl 8) ?_
  refine Tr.callV (L := [3, 4, 5, 6, 1, 2]) (hR _ (fun k => ad (7 + 7 * k))) dX9_book_8 (kX9_296 (Nat.le_of_ble_eq_true rfl)) iX2_readAll rfl rfl rfl rfl rfl rfl rfl rfl rfl rfl (Eq.refl 11) ?_
  refine Tr.pic (w' := (xbC E ad r hf len (nI (tkE T len y.2.1.1), nI (tkK T len y.2.1.1), nI (tkS T len y.2.1.1), nI (tkN T len y.2.1.1)) (lN (tkM T len y.2.1.1)) T y.2.2 S W V X N)) (putB_eq (Lc := [0, 7, 8, 9, 10, 11, 12, 13, 14, 15, 16, 17, 18, 19, 20, 21, 22, 23, 24, 25, 26, 27, 28, 29, 30, 31, 32, 33, 34, 35, 36, 37]) 38 rfl rfl rfl rfl ⟨⟨_, rfl, rfl⟩, ⟨_, rfl, rfl⟩, ⟨_, rfl, rfl⟩, ⟨_, rfl, rfl⟩, ⟨_, rfl, rfl⟩, ⟨_, rfl, rfl⟩, ⟨_, rfl, rfl⟩, ⟨_, rfl, rfl⟩, ⟨_, rfl, rfl⟩, ⟨_, rfl, rfl⟩, ⟨_, rfl, rfl⟩, ⟨_, rfl, rfl⟩, ⟨_, rfl, rfl⟩, ⟨_, rfl, rfl⟩, ⟨_, rfl, rfl⟩, ⟨_, rfl, rfl⟩, ⟨_, rfl, rfl⟩, ⟨_, rfl, rfl⟩, ⟨_, rfl, rfl⟩, ⟨_, rfl, rfl⟩, ⟨_, rfl, rfl⟩, ⟨_, rfl, rfl⟩, ⟨_, rfl, rfl⟩, ⟨_, rfl, rfl⟩, ⟨_, rfl, rfl⟩, ⟨_, rfl, rfl⟩, ⟨_, rfl, rfl⟩, ⟨_, rfl, rfl⟩, ⟨_, rfl, rfl⟩, ⟨_, rfl, rfl⟩, ⟨_, rfl, rfl⟩, ⟨_, rfl, rfl⟩, trivial⟩ (by decide) rfl) ?_
  refine Tr.istore_n (i := 1) dX9_book_11 rfl rfl rfl (Eq.refl 12) ?_
  refine Tr.aload_n (i := 0) dX9_book_12 rfl rfl (Eq.refl 13) ?_
  refine Tr.getf dX9_book_13 fX9_10 rfl rfl (Eq.refl 16) ?_
  refine Tr.iconst (v := nI 0) dX9_book_16 (icN 0) (Eq.refl 17) ?_
  refine Tr.putf dX9_book_17 pX9_68 rfl (rfl) (rfl) rfl (Eq.refl 20) ?_
  refine Tr.iload_n (i := 1) dX9_book_20 rfl rfl (Eq.refl 21) ?_
  refine Tr.if_neB (tgt := 28) dX9_book_21 (by decide) (Eq.refl 24) (fun h21 => ?_) (fun h21 => ?_)
  · refine Tr.pic (w' := (xbC E ad r hf 0 (nI (tkE T len y.2.1.1), nI (tkK T len y.2.1.1), nI (tkS T len y.2.1.1), nI (tkN T len y.2.1.1)) (lN (tkM T len y.2.1.1)) T y.2.2 S W V X N)) rfl ?_
    refine Tr.aload_n (i := 0) dX9_book_28 rfl rfl (Eq.refl 29) ?_
    refine Tr.getf dX9_book_29 fX9_53 rfl rfl (Eq.refl 32) ?_
    refine Tr.aload_n (i := 0) dX9_book_32 rfl rfl (Eq.refl 33) ?_
    refine Tr.getf dX9_book_33 fX9_28 rfl rfl (Eq.refl 36) ?_
    refine Tr.aload_n (i := 0) dX9_book_36 rfl rfl (Eq.refl 37) ?_
    refine Tr.getf dX9_book_37 fX9_35 rfl rfl (Eq.refl 40) ?_
    refine Tr.getf dX9_book_40 fX9_157 rfl rfl (Eq.refl 43) ?_
    refine Tr.getf dX9_book_43 fX9_166 rfl rfl (Eq.refl 46) ?_
    refine Tr.callV (L := [3, 4, 5, 6, 7, 8, 9, 10, 11, 12, 13, 14, 15, 16, 17, 18, 19, 20, 21, 22, 23, 24, 25, 36]) (hF _ S) dX9_book_46 (kX9_300 (Nat.le_of_ble_eq_true rfl)) iX2_firstThatCannot rfl rfl rfl rfl rfl rfl rfl rfl rfl rfl (Eq.refl 49) ?_
    refine Tr.pic (w' := (xbC E ad r hf 0 (nI (tkE T len y.2.1.1), nI (tkK T len y.2.1.1), nI (tkS T len y.2.1.1), nI (tkN T len y.2.1.1)) (lN (tkM T len y.2.1.1)) T y.2.2 z.2.1 z.2.2 V X N)) (putB_eq (Lc := [0, 1, 2, 26, 27, 28, 29, 30, 31, 32, 33, 34, 35, 37]) 38 rfl rfl rfl rfl ⟨⟨_, rfl, rfl⟩, ⟨_, rfl, rfl⟩, ⟨_, rfl, rfl⟩, ⟨_, rfl, rfl⟩, ⟨_, rfl, rfl⟩, ⟨_, rfl, rfl⟩, ⟨_, rfl, rfl⟩, ⟨_, rfl, rfl⟩, ⟨_, rfl, rfl⟩, ⟨_, rfl, rfl⟩, ⟨_, rfl, rfl⟩, ⟨_, rfl, rfl⟩, ⟨_, rfl, rfl⟩, ⟨_, rfl, rfl⟩, trivial⟩ (by decide) rfl) ?_
    refine Tr.istore_n (i := 2) dX9_book_49 rfl rfl rfl (Eq.refl 50) ?_
    refine Tr.iload_n (i := 2) dX9_book_50 rfl rfl (Eq.refl 51) ?_
    refine Tr.iconst (v := (-1)) dX9_book_51 (by decide +kernel) (Eq.refl 52) ?_
    refine Tr.icmp_ne (tgt := 65) dX9_book_52 (by decide) (Eq.refl 55) (fun h52 => ?_) (fun h52 => ?_)
    · rw [fcH_n h52]
      refine Tr.iconst (v := (-1)) dX9_book_65 (by decide +kernel) (Eq.refl 66) ?_
      refine Tr.iload_n (i := 2) dX9_book_66 rfl rfl (Eq.refl 67) ?_
      refine Tr.isub dX9_book_67 (Eq.refl 68) ?_
      refine Tr.iret dX9_book_68 rfl (by first | rfl | exact bI_nar _) ?_ ?_
      · rfl
      · rfl
    · rw [fcH_y hs3 h52]
      refine Tr.aload_n (i := 0) dX9_book_55 rfl rfl (Eq.refl 56) ?_
      refine Tr.getf dX9_book_56 fX9_53 rfl rfl (Eq.refl 59) ?_
      refine Tr.getf dX9_book_59 fX9_304 rfl rfl (Eq.refl 62) ?_
      refine Tr.goto (pc' := 68) dX9_book_62 (by decide) ?_
      refine Tr.iret dX9_book_68 rfl (by first | rfl | exact bI_nar _) ?_ ?_
      · rfl
      · rfl
  · exact absurd (show true = false from h21) (by decide)
