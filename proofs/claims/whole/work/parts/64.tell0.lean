/-! Village's names; Teller: what it reads -/
/-- the first of n names from k on that is x; 5: none -/
def fnd (g : Nat → Int64) (x : Int64) : Nat → Nat → Nat
  | 0, _ => 5
  | n + 1, k => if g k = x then k else fnd g x n (k + 1)
theorem fnd_lt (g : Nat → Int64) (x : Int64) : ∀ n k, k + n ≤ 5 → fnd g x n k < k + n ∨ fnd g x n k = 5 := by
  intro n
  induction n with
  | zero => intro k _; exact Or.inr rfl
  | succ n ih =>
    intro k h
    unfold fnd
    split
    · exact Or.inl (by omega)
    · rcases ih (k + 1) (by omega) with h | h
      · exact Or.inl (by omega)
      · exact Or.inr h
set_option maxHeartbeats 4000000 in
set_option maxRecDepth 100000 in
theorem v_find_loop (E : EnvT) (ad : Nat → Nat) (g : Nat → Int64) (x : Int64) (n : Nat) (hn : n ≤ 5) : ∀ (m k : Nat), k + m = n → Tr (E, mX7_find, ad, some (.int (cl (fnd g x m k))), [aJ E 5 g]) 0 0 3 [some (.ref (ad 0)), some (.int (nI n)), some (.long x), none, some (.int (nI k))] [] [aJ E 5 g] := by
  intro m
  induction m with
  | zero =>
    intro k hk
    refine Tr.iload dX7_find_3 rfl (Eq.refl 5) ?_
    refine Tr.iload_n (i := 1) dX7_find_5 rfl rfl (Eq.refl 6) ?_
    refine Tr.icmp_geN (tgt := 34) dX7_find_6 (by decide) (Eq.refl 9) (by omega) (by omega) (fun h6 => ?_) (fun h6 => ?_)
    · refine Tr.iconst (v := (-1)) dX7_find_34 (by decide +kernel) (Eq.refl 35) ?_
      refine Tr.iret dX7_find_35 rfl (by first | rfl | exact bI_nar _) ?_ ?_
      · rfl
      · rfl
    · exact absurd h6 (by omega)
  | succ m ih =>
    intro k hk
    have hu : fnd g x (m + 1) k = if g k = x then k else fnd g x m (k + 1) := rfl
    rw [hu]
    clear hu
    refine Tr.iload dX7_find_3 rfl (Eq.refl 5) ?_
    refine Tr.iload_n (i := 1) dX7_find_5 rfl rfl (Eq.refl 6) ?_
    refine Tr.icmp_geN (tgt := 34) dX7_find_6 (by decide) (Eq.refl 9) (by omega) (by omega) (fun h6 => ?_) (fun h6 => ?_)
    · exact absurd h6 (by omega)
    · refine Tr.iload dX7_find_9 rfl (Eq.refl 11) ?_
      refine Tr.aload_n (i := 0) dX7_find_11 rfl rfl (Eq.refl 12) ?_
      refine Tr.alen (t := 1) dX7_find_12 rfl rfl (Eq.refl 13) ?_
      refine Tr.icmp_geN (tgt := 34) dX7_find_13 (by decide) (Eq.refl 16) (by omega) (by omega) (fun h13 => ?_) (fun h13 => ?_)
      · exact absurd h13 (by omega)
      · refine Tr.aload_n (i := 0) dX7_find_16 rfl rfl (Eq.refl 17) ?_
        refine Tr.iload dX7_find_17 rfl (Eq.refl 19) ?_
        refine Tr.laldN dX7_find_19 rfl (by omega) (by decide) (Eq.refl 20) ?_
        refine Tr.lload_n (i := 2) dX7_find_20 rfl rfl (Eq.refl 21) ?_
        refine Tr.lcmp dX7_find_21 (Eq.refl 22) ?_
        refine Tr.if_ne (tgt := 28) dX7_find_22 (by decide) (Eq.refl 25) (fun h22 => ?_) (fun h22 => ?_)
        · rw [lg_cmp_eq] at h22
          rw [if_neg h22]
          refine Tr.iincN dX7_find_28 rfl rfl rfl (Eq.refl 31) ?_
          refine Tr.goto (pc' := 3) dX7_find_31 (by decide) ?_
          exact Tr.eqs rfl rfl rfl (ih (k + 1) (by omega))
        · rw [lg_cmp_eq] at h22
          rw [if_pos h22, cl_lt (by omega)]
          refine Tr.iload dX7_find_25 rfl (Eq.refl 27) ?_
          refine Tr.iret dX7_find_27 rfl (by first | rfl | exact bI_nar _) ?_ ?_
          · rfl
          · rfl
set_option maxHeartbeats 4000000 in
set_option maxRecDepth 100000 in
theorem v_find (E : EnvT) (ad : Nat → Nat) (g : Nat → Int64) (x : Int64) (n : Nat) (hn : n ≤ 5) : Md E mX7_find ad [.ref (ad 0), .int (nI n), .long x] [aJ E 5 g] (some (.int (cl (fnd g x n 0)))) [aJ E 5 g] := by
  have hL := v_find_loop E ad g x n hn n 0 (by omega)
  refine Md.of 1 (by decide) rfl rfl ?_
  refine Tr.iconst (v := nI 0) dX7_find_0 (icN 0) (Eq.refl 1) ?_
  refine Tr.istore dX7_find_1 rfl rfl (Eq.refl 3) ?_
  exact Tr.eqs rfl rfl rfl hL
set_option maxHeartbeats 4000000 in
set_option maxRecDepth 100000 in
theorem v_houseNamed (E : EnvT) (ad : Nat → Nat) (V : Vil) (X : Vix) (x : Int64) (hn : nhV V ≤ 5) : Md E mX7_houseNamed ad [.ref (ad 0), .long x] (viC E ad 0 V X) (some (.int (cl (fnd X.2.2.2.1 x (nhV V) 0)))) (viC E ad 0 V X) := by
  refine Md.of 0 (by decide) rfl rfl ?_
  refine Tr.aload_n (i := 0) dX7_houseNamed_0 rfl rfl (Eq.refl 1) ?_
  refine Tr.getf dX7_houseNamed_1 fX7_15 rfl rfl (Eq.refl 4) ?_
  refine Tr.aload_n (i := 0) dX7_houseNamed_4 rfl rfl (Eq.refl 5) ?_
  refine Tr.getf dX7_houseNamed_5 fX7_47 rfl rfl (Eq.refl 8) ?_
  refine Tr.lload_n (i := 1) dX7_houseNamed_8 rfl rfl (Eq.refl 9) ?_
  refine Tr.callSr (L := [2]) (v_find E _ X.2.2.2.1 x (nhV V) hn) dX7_houseNamed_9 (kX7_72 (Nat.le_of_ble_eq_true rfl)) sX7_find rfl rfl rfl rfl rfl rfl rfl (Eq.refl 12) ?_
  refine Tr.iret dX7_houseNamed_12 rfl (by first | rfl | exact bI_nar _) ?_ ?_
  · rfl
  · rfl
set_option maxHeartbeats 4000000 in
set_option maxRecDepth 100000 in
theorem v_personNamed (E : EnvT) (ad : Nat → Nat) (V : Vil) (X : Vix) (x : Int64) (hn : npV V ≤ 5) : Md E mX7_personNamed ad [.ref (ad 0), .long x] (viC E ad 0 V X) (some (.int (cl (fnd X.2.2.2.2.2.2 x (npV V) 0)))) (viC E ad 0 V X) := by
  refine Md.of 0 (by decide) rfl rfl ?_
  refine Tr.aload_n (i := 0) dX7_personNamed_0 rfl rfl (Eq.refl 1) ?_
  refine Tr.getf dX7_personNamed_1 fX7_31 rfl rfl (Eq.refl 4) ?_
  refine Tr.aload_n (i := 0) dX7_personNamed_4 rfl rfl (Eq.refl 5) ?_
  refine Tr.getf dX7_personNamed_5 fX7_50 rfl rfl (Eq.refl 8) ?_
  refine Tr.lload_n (i := 1) dX7_personNamed_8 rfl rfl (Eq.refl 9) ?_
  refine Tr.callSr (L := [7]) (v_find E _ X.2.2.2.2.2.2 x (npV V) hn) dX7_personNamed_9 (kX7_72 (Nat.le_of_ble_eq_true rfl)) sX7_find rfl rfl rfl rfl rfl rfl rfl (Eq.refl 12) ?_
  refine Tr.iret dX7_personNamed_12 rfl (by first | rfl | exact bI_nar _) ?_ ?_
  · rfl
  · rfl
/-- Teller, tape, village: the token from p on is in hand -/
def tlC (E : EnvT) (ad : Nat → Nat) (len : Nat) (T : Nat → Nat) (p : Nat) (V : Vil) (X : Vix) (f : Nat) (pl : Int32) : List va_E := (.inr (5, [.ref (ad 1), .ref (ad 3), .int (nI f), .int pl]) : va_E) :: (tpC E ad 1 len (nI (tkE T len p), nI (tkK T len p), nI (tkS T len p), nI (tkN T len p)) (lN (tkM T len p)) T ++ viC E ad 3 V X)
theorem tl_len {E E2 : EnvT} {ad ad2 : Nat → Nat} {len len2 : Nat} {T T2 : Nat → Nat} {p p2 : Nat} {V V2 : Vil} {X X2 : Vix} {f f2 : Nat} {pl pl2 : Int32} : (tlC E ad len T p V X f pl).length ≤ (tlC E2 ad2 len2 T2 p2 V2 X2 f2 pl2).length := Nat.le_refl 14
/-- the token's place, what was told, fault, its place -/
abbrev Tlt (len : Nat) : Type := Fin (len + 1) × Vil × Vix × Nat × Int32
def tlP (E : EnvT) (ad : Nat → Nat) (len : Nat) (T : Nat → Nat) (z : Tlt len) : List va_E := tlC E ad len T z.1.1 z.2.1 z.2.2.1 z.2.2.2.1 z.2.2.2.2
/-- the token behind -/
def nxP (T : Nat → Nat) (len : Nat) (p : Fin (len + 1)) : Fin (len + 1) := ⟨tkE T len p.1, Nat.lt_succ_of_le (tkE_le T (Nat.le_of_lt_succ p.2)).2⟩
def adv (T : Nat → Nat) {len : Nat} (z : Tlt len) : Tlt len := (nxP T len z.1, z.2)
def blm (T : Nat → Nat) {len : Nat} (z : Tlt len) (k : Nat) : Tlt len := (z.1, z.2.1, z.2.2.1, k, nI (tkS T len z.1.1))
theorem tkK_lt (T : Nat → Nat) (len p : Nat) : tkK T len p < 6 := by
  unfold tkK
  repeat' split
  all_goals omega
set_option maxHeartbeats 4000000 in
set_option maxRecDepth 100000 in
theorem l_blame (E : EnvT) (ad : Nat → Nat) (len : Nat) (T : Nat → Nat) (p : Fin (len + 1)) (V : Vil) (X : Vix) (f : Nat) (pl : Int32) (k : Nat) : Md E mX5_blame ad [.ref (ad 0), .int (nI k)] (tlC E ad len T p.1 V X f pl) none (tlC E ad len T p.1 V X k (nI (tkS T len p.1))) := by
  refine Md.of 0 (by decide) rfl rfl ?_
  refine Tr.aload_n (i := 0) dX5_blame_0 rfl rfl (Eq.refl 1) ?_
  refine Tr.iload_n (i := 1) dX5_blame_1 rfl rfl (Eq.refl 2) ?_
  refine Tr.putf dX5_blame_2 pX5_26 rfl (rfl) (rfl) rfl (Eq.refl 5) ?_
  refine Tr.aload_n (i := 0) dX5_blame_5 rfl rfl (Eq.refl 6) ?_
  refine Tr.aload_n (i := 0) dX5_blame_6 rfl rfl (Eq.refl 7) ?_
  refine Tr.getf dX5_blame_7 fX5_22 rfl rfl (Eq.refl 10) ?_
  refine Tr.getf dX5_blame_10 fX5_186 rfl rfl (Eq.refl 13) ?_
  refine Tr.putf dX5_blame_13 pX5_18 rfl (rfl) (rfl) rfl (Eq.refl 16) ?_
  refine Tr.ret dX5_blame_16 rfl rfl ?_
  · rfl
/-- a number -/
def rdN (T : Nat → Nat) {len : Nat} (lo hi : Int32) (z : Tlt len) : Nat × Tlt len :=
  if z.2.2.2.1 = 0 then (if tkK T len z.1.1 = 2 then (if nI (tkN T len z.1.1) < lo ∨ hi < nI (tkN T len z.1.1) then (tkN T len z.1.1, blm T z 2) else (tkN T len z.1.1, adv T z)) else (tkN T len z.1.1, blm T z 1)) else (0, z)
set_option maxHeartbeats 4000000 in
set_option maxRecDepth 100000 in
theorem l_readNumber (E : EnvT) (ad : Nat → Nat) (len : Nat) (T : Nat → Nat) (lo hi : Int32) (z : Tlt len) (hl : len ≤ 900) (hT : ∀ k, k < 900 → T k < 256) (hf : z.2.2.2.1 < 6) : Md E mX5_readNumber ad [.ref (ad 0), .int lo, .int hi] (tlP E ad len T z) (some (.int (nI (rdN T lo hi z).1))) (tlP E ad len T (rdN T lo hi z).2) := by
  obtain ⟨p, V, X, f, pl⟩ := z
  have hf : f < 6 := hf
  have hk := tkK_lt T len p.1
  have hx : rdN T lo hi (p, V, X, f, pl) = if f = 0 then (if tkK T len p.1 = 2 then (if nI (tkN T len p.1) < lo ∨ hi < nI (tkN T len p.1) then (tkN T len p.1, (p, V, X, 2, nI (tkS T len p.1))) else (tkN T len p.1, (nxP T len p, V, X, f, pl))) else (tkN T len p.1, (p, V, X, 1, nI (tkS T len p.1)))) else (0, (p, V, X, f, pl)) := rfl
  rw [hx]
  clear hx
  show Md E _ ad _ (tlC E ad len T p.1 V X f pl) _ _
  refine Md.of 1 (by decide) rfl rfl ?_
  refine Tr.aload_n (i := 0) dX5_readNumber_0 rfl rfl (Eq.refl 1) ?_
  refine Tr.getf dX5_readNumber_1 fX5_26 rfl rfl (Eq.refl 4) ?_
  refine Tr.if_eq (tgt := 9) dX5_readNumber_4 (by decide) (Eq.refl 7) (fun h4 => ?_) (fun h4 => ?_)
  · rw [if_pos ((nI_eq_iff (b := 0) (by omega) (by decide)).mp h4)]
    refine Tr.aload_n (i := 0) dX5_readNumber_9 rfl rfl (Eq.refl 10) ?_
    refine Tr.getf dX5_readNumber_10 fX5_22 rfl rfl (Eq.refl 13) ?_
    refine Tr.getf dX5_readNumber_13 fX5_183 rfl rfl (Eq.refl 16) ?_
    refine Tr.istore_n (i := 3) dX5_readNumber_16 rfl rfl rfl (Eq.refl 17) ?_
    refine Tr.aload_n (i := 0) dX5_readNumber_17 rfl rfl (Eq.refl 18) ?_
    refine Tr.getf dX5_readNumber_18 fX5_22 rfl rfl (Eq.refl 21) ?_
    refine Tr.getf dX5_readNumber_21 fX5_37 rfl rfl (Eq.refl 24) ?_
    refine Tr.iconst (v := nI 2) dX5_readNumber_24 (icN 2) (Eq.refl 25) ?_
    refine Tr.icmp_eqN (tgt := 36) dX5_readNumber_25 (by decide) (Eq.refl 28) (by omega) (by omega) (fun h25 => ?_) (fun h25 => ?_)
    · rw [if_pos h25]
      refine Tr.iload_n (i := 3) dX5_readNumber_36 rfl rfl (Eq.refl 37) ?_
      refine Tr.iload_n (i := 1) dX5_readNumber_37 rfl rfl (Eq.refl 38) ?_
      refine Tr.icmp_lt (tgt := 46) dX5_readNumber_38 (by decide) (Eq.refl 41) (fun h38 => ?_) (fun h38 => ?_)
      · have hbad : nI (tkN T len p.1) < lo ∨ hi < nI (tkN T len p.1) := Or.inl h38
        skip
        rw [if_pos hbad]
        refine Tr.aload_n (i := 0) dX5_readNumber_46 rfl rfl (Eq.refl 47) ?_
        refine Tr.iconst (v := nI 2) dX5_readNumber_47 (icN 2) (Eq.refl 48) ?_
        refine Tr.callVs (l_blame E ad len T p V X f pl 2) dX5_readNumber_48 (kX5_73 (Nat.le_of_ble_eq_true rfl)) iX5_blame rfl rfl rfl rfl rfl (tl_len) rfl rfl (Eq.refl 51) ?_
        refine Tr.goto (pc' := 61) dX5_readNumber_51 (by decide) ?_
        refine Tr.iload_n (i := 3) dX5_readNumber_61 rfl rfl (Eq.refl 62) ?_
        refine Tr.iret dX5_readNumber_62 rfl (by first | rfl | exact bI_nar _) ?_ ?_
        · rfl
        · rfl
      · refine Tr.iload_n (i := 3) dX5_readNumber_41 rfl rfl (Eq.refl 42) ?_
        refine Tr.iload_n (i := 2) dX5_readNumber_42 rfl rfl (Eq.refl 43) ?_
        refine Tr.icmp_leL (tgt := 54) dX5_readNumber_43 (by decide) (Eq.refl 46) (fun h43 => ?_) (fun h43 => ?_)
        · rw [if_neg (fun z9 => z9.elim h38 h43)]
          refine Tr.aload_n (i := 0) dX5_readNumber_54 rfl rfl (Eq.refl 55) ?_
          refine Tr.getf dX5_readNumber_55 fX5_22 rfl rfl (Eq.refl 58) ?_
          refine Tr.callV (L := [1, 2]) (t_readToken E _ len (tkE T len p.1) (tkK T len p.1) (tkS T len p.1) (tkN T len p.1) (tkM T len p.1) T hl hT (tkE_le T (Nat.le_of_lt_succ p.2)).2) dX5_readNumber_58 (kX5_80 (Nat.le_of_ble_eq_true rfl)) iX4_readToken rfl rfl rfl rfl rfl rfl rfl rfl rfl rfl (Eq.refl 61) ?_
          refine Tr.pic (w' := tlC E ad len T (nxP T len p).1 V X f pl) (putB_eq (Lc := [0, 3, 4, 5, 6, 7, 8, 9, 10, 11, 12, 13]) 14 rfl rfl rfl rfl ⟨⟨_, rfl, rfl⟩, ⟨_, rfl, rfl⟩, ⟨_, rfl, rfl⟩, ⟨_, rfl, rfl⟩, ⟨_, rfl, rfl⟩, ⟨_, rfl, rfl⟩, ⟨_, rfl, rfl⟩, ⟨_, rfl, rfl⟩, ⟨_, rfl, rfl⟩, ⟨_, rfl, rfl⟩, ⟨_, rfl, rfl⟩, ⟨_, rfl, rfl⟩, trivial⟩ (by decide) rfl) ?_
          refine Tr.iload_n (i := 3) dX5_readNumber_61 rfl rfl (Eq.refl 62) ?_
          refine Tr.iret dX5_readNumber_62 rfl (by first | rfl | exact bI_nar _) ?_ ?_
          · rfl
          · rfl
        · have hbad : nI (tkN T len p.1) < lo ∨ hi < nI (tkN T len p.1) := Or.inr h43
          skip
          rw [if_pos hbad]
          refine Tr.aload_n (i := 0) dX5_readNumber_46 rfl rfl (Eq.refl 47) ?_
          refine Tr.iconst (v := nI 2) dX5_readNumber_47 (icN 2) (Eq.refl 48) ?_
          refine Tr.callVs (l_blame E ad len T p V X f pl 2) dX5_readNumber_48 (kX5_73 (Nat.le_of_ble_eq_true rfl)) iX5_blame rfl rfl rfl rfl rfl (tl_len) rfl rfl (Eq.refl 51) ?_
          refine Tr.goto (pc' := 61) dX5_readNumber_51 (by decide) ?_
          refine Tr.iload_n (i := 3) dX5_readNumber_61 rfl rfl (Eq.refl 62) ?_
          refine Tr.iret dX5_readNumber_62 rfl (by first | rfl | exact bI_nar _) ?_ ?_
          · rfl
          · rfl
    · rw [if_neg h25]
      refine Tr.aload_n (i := 0) dX5_readNumber_28 rfl rfl (Eq.refl 29) ?_
      refine Tr.iconst (v := nI 1) dX5_readNumber_29 (icN 1) (Eq.refl 30) ?_
      refine Tr.callVs (l_blame E ad len T p V X f pl 1) dX5_readNumber_30 (kX5_73 (Nat.le_of_ble_eq_true rfl)) iX5_blame rfl rfl rfl rfl rfl (tl_len) rfl rfl (Eq.refl 33) ?_
      refine Tr.goto (pc' := 61) dX5_readNumber_33 (by decide) ?_
      refine Tr.iload_n (i := 3) dX5_readNumber_61 rfl rfl (Eq.refl 62) ?_
      refine Tr.iret dX5_readNumber_62 rfl (by first | rfl | exact bI_nar _) ?_ ?_
      · rfl
      · rfl
  · rw [if_neg (fun z9 => h4 (by rw [z9]; rfl))]
    refine Tr.iconst (v := nI 0) dX5_readNumber_7 (icN 0) (Eq.refl 8) ?_
    refine Tr.iret dX5_readNumber_8 rfl (by first | rfl | exact bI_nar _) ?_ ?_
    · rfl
    · rfl
/-- a person's name -/
def rdP (T : Nat → Nat) {len : Nat} (z : Tlt len) : Nat × Tlt len :=
  if z.2.2.2.1 = 0 then (if tkK T len z.1.1 = 1 then (if fnd z.2.2.1.2.2.2.2.2.2 (lN (tkM T len z.1.1)) (npV z.2.1) 0 = 5 then (5, blm T z 5) else (fnd z.2.2.1.2.2.2.2.2.2 (lN (tkM T len z.1.1)) (npV z.2.1) 0, adv T z)) else (fnd z.2.2.1.2.2.2.2.2.2 (lN (tkM T len z.1.1)) (npV z.2.1) 0, blm T z 1)) else (5, z)
set_option maxHeartbeats 4000000 in
set_option maxRecDepth 100000 in
theorem l_readPerson (E : EnvT) (ad : Nat → Nat) (len : Nat) (T : Nat → Nat) (z : Tlt len) (hl : len ≤ 900) (hT : ∀ k, k < 900 → T k < 256) (hI : nhV z.2.1 ≤ 5 ∧ npV z.2.1 ≤ 5) (hf : z.2.2.2.1 < 6) : Md E mX5_readPerson ad [.ref (ad 0)] (tlP E ad len T z) (some (.int (cl (rdP T z).1))) (tlP E ad len T (rdP T z).2) := by
  obtain ⟨p, V, X, f, pl⟩ := z
  have hf : f < 6 := hf
  have hn : npV V ≤ 5 := hI.2
  have hk := tkK_lt T len p.1
  have hx : rdP T (p, V, X, f, pl) = if f = 0 then (if tkK T len p.1 = 1 then (if fnd X.2.2.2.2.2.2 (lN (tkM T len p.1)) (npV V) 0 = 5 then (5, (p, V, X, 5, nI (tkS T len p.1))) else (fnd X.2.2.2.2.2.2 (lN (tkM T len p.1)) (npV V) 0, (nxP T len p, V, X, f, pl))) else (fnd X.2.2.2.2.2.2 (lN (tkM T len p.1)) (npV V) 0, (p, V, X, 1, nI (tkS T len p.1)))) else (5, (p, V, X, f, pl)) := rfl
  rw [hx]
  clear hx
  have hfl := fnd_lt X.2.2.2.2.2.2 (lN (tkM T len p.1)) (npV V) 0 (by omega)
  have hPN := v_personNamed E (adc ad [3, 4, 5, 6, 7, 8, 9, 10, 11, 12, 13] 14) V X (lN (tkM T len p.1)) hn
  generalize fnd X.2.2.2.2.2.2 (lN (tkM T len p.1)) (npV V) 0 = c at *
  show Md E _ ad _ (tlC E ad len T p.1 V X f pl) _ _
  refine Md.of 1 (by decide) rfl rfl ?_
  refine Tr.aload_n (i := 0) dX5_readPerson_0 rfl rfl (Eq.refl 1) ?_
  refine Tr.getf dX5_readPerson_1 fX5_26 rfl rfl (Eq.refl 4) ?_
  refine Tr.if_eq (tgt := 9) dX5_readPerson_4 (by decide) (Eq.refl 7) (fun h4 => ?_) (fun h4 => ?_)
  · rw [if_pos ((nI_eq_iff (b := 0) (by omega) (by decide)).mp h4)]
    refine Tr.aload_n (i := 0) dX5_readPerson_9 rfl rfl (Eq.refl 10) ?_
    refine Tr.getf dX5_readPerson_10 fX5_12 rfl rfl (Eq.refl 13) ?_
    refine Tr.aload_n (i := 0) dX5_readPerson_13 rfl rfl (Eq.refl 14) ?_
    refine Tr.getf dX5_readPerson_14 fX5_22 rfl rfl (Eq.refl 17) ?_
    refine Tr.getf dX5_readPerson_17 fX5_119 rfl rfl (Eq.refl 20) ?_
    refine Tr.callVr (L := [3, 4, 5, 6, 7, 8, 9, 10, 11, 12, 13]) (hPN) dX5_readPerson_20 (kX5_147 (Nat.le_of_ble_eq_true rfl)) iX7_personNamed rfl rfl rfl rfl rfl rfl rfl rfl rfl (Eq.refl 23) ?_
    refine Tr.istore_n (i := 1) dX5_readPerson_23 rfl rfl rfl (Eq.refl 24) ?_
    refine Tr.aload_n (i := 0) dX5_readPerson_24 rfl rfl (Eq.refl 25) ?_
    refine Tr.getf dX5_readPerson_25 fX5_22 rfl rfl (Eq.refl 28) ?_
    refine Tr.getf dX5_readPerson_28 fX5_37 rfl rfl (Eq.refl 31) ?_
    refine Tr.iconst (v := nI 1) dX5_readPerson_31 (icN 1) (Eq.refl 32) ?_
    refine Tr.icmp_eqN (tgt := 43) dX5_readPerson_32 (by decide) (Eq.refl 35) (by omega) (by omega) (fun h32 => ?_) (fun h32 => ?_)
    · rw [if_pos h32]
      refine Tr.iload_n (i := 1) dX5_readPerson_43 rfl rfl (Eq.refl 44) ?_
      refine Tr.iconst (v := (-1)) dX5_readPerson_44 (by decide +kernel) (Eq.refl 45) ?_
      refine Tr.icmp_ne (tgt := 56) dX5_readPerson_45 (by decide) (Eq.refl 48) (fun h45 => ?_) (fun h45 => ?_)
      · rw [cl_none] at h45
        rw [if_neg (by omega)]
        refine Tr.aload_n (i := 0) dX5_readPerson_56 rfl rfl (Eq.refl 57) ?_
        refine Tr.getf dX5_readPerson_57 fX5_22 rfl rfl (Eq.refl 60) ?_
        refine Tr.callV (L := [1, 2]) (t_readToken E _ len (tkE T len p.1) (tkK T len p.1) (tkS T len p.1) (tkN T len p.1) (tkM T len p.1) T hl hT (tkE_le T (Nat.le_of_lt_succ p.2)).2) dX5_readPerson_60 (kX5_80 (Nat.le_of_ble_eq_true rfl)) iX4_readToken rfl rfl rfl rfl rfl rfl rfl rfl rfl rfl (Eq.refl 63) ?_
        refine Tr.pic (w' := tlC E ad len T (nxP T len p).1 V X f pl) (putB_eq (Lc := [0, 3, 4, 5, 6, 7, 8, 9, 10, 11, 12, 13]) 14 rfl rfl rfl rfl ⟨⟨_, rfl, rfl⟩, ⟨_, rfl, rfl⟩, ⟨_, rfl, rfl⟩, ⟨_, rfl, rfl⟩, ⟨_, rfl, rfl⟩, ⟨_, rfl, rfl⟩, ⟨_, rfl, rfl⟩, ⟨_, rfl, rfl⟩, ⟨_, rfl, rfl⟩, ⟨_, rfl, rfl⟩, ⟨_, rfl, rfl⟩, ⟨_, rfl, rfl⟩, trivial⟩ (by decide) rfl) ?_
        refine Tr.iload_n (i := 1) dX5_readPerson_63 rfl rfl (Eq.refl 64) ?_
        refine Tr.iret dX5_readPerson_64 rfl (by first | rfl | exact bI_nar _) ?_ ?_
        · rfl
        · rfl
      · rw [cl_none] at h45
        have h45 : c = 5 := by omega
        rw [if_pos h45, h45]
        refine Tr.aload_n (i := 0) dX5_readPerson_48 rfl rfl (Eq.refl 49) ?_
        refine Tr.iconst (v := nI 5) dX5_readPerson_49 (icN 5) (Eq.refl 50) ?_
        refine Tr.callVs (l_blame E ad len T p V X f pl 5) dX5_readPerson_50 (kX5_73 (Nat.le_of_ble_eq_true rfl)) iX5_blame rfl rfl rfl rfl rfl (tl_len) rfl rfl (Eq.refl 53) ?_
        refine Tr.goto (pc' := 63) dX5_readPerson_53 (by decide) ?_
        refine Tr.iload_n (i := 1) dX5_readPerson_63 rfl rfl (Eq.refl 64) ?_
        refine Tr.iret dX5_readPerson_64 rfl (by first | rfl | exact bI_nar _) ?_ ?_
        · rfl
        · rfl
    · rw [if_neg h32]
      refine Tr.aload_n (i := 0) dX5_readPerson_35 rfl rfl (Eq.refl 36) ?_
      refine Tr.iconst (v := nI 1) dX5_readPerson_36 (icN 1) (Eq.refl 37) ?_
      refine Tr.callVs (l_blame E ad len T p V X f pl 1) dX5_readPerson_37 (kX5_73 (Nat.le_of_ble_eq_true rfl)) iX5_blame rfl rfl rfl rfl rfl (tl_len) rfl rfl (Eq.refl 40) ?_
      refine Tr.goto (pc' := 63) dX5_readPerson_40 (by decide) ?_
      refine Tr.iload_n (i := 1) dX5_readPerson_63 rfl rfl (Eq.refl 64) ?_
      refine Tr.iret dX5_readPerson_64 rfl (by first | rfl | exact bI_nar _) ?_ ?_
      · rfl
      · rfl
  · rw [if_neg (fun z9 => h4 (by rw [z9]; rfl))]
    refine Tr.iconst (v := (-1)) dX5_readPerson_7 (by decide +kernel) (Eq.refl 8) ?_
    refine Tr.iret dX5_readPerson_8 rfl (by first | rfl | exact bI_nar _) ?_ ?_
    · rfl
    · rfl
/-- a new name -/
def nwC (T : Nat → Nat) {len : Nat} (b : Bool) (z : Tlt len) : Nat := if b then fnd z.2.2.1.2.2.2.1 (lN (tkM T len z.1.1)) (nhV z.2.1) 0 else fnd z.2.2.1.2.2.2.2.2.2 (lN (tkM T len z.1.1)) (npV z.2.1) 0
def rdW (T : Nat → Nat) {len : Nat} (b : Bool) (z : Tlt len) : Tlt len :=
  if tkK T len z.1.1 = 1 then (if nwC T b z = 5 then adv T z else blm T z 3) else blm T z 1
theorem nwC_lt (T : Nat → Nat) {len : Nat} (b : Bool) (z : Tlt len) (hI : nhV z.2.1 ≤ 5 ∧ npV z.2.1 ≤ 5) : nwC T b z < 5 ∨ nwC T b z = 5 := by
  unfold nwC
  split
  · rcases fnd_lt z.2.2.1.2.2.2.1 (lN (tkM T len z.1.1)) (nhV z.2.1) 0 (by omega) with h | h
    · exact Or.inl (by omega)
    · exact Or.inr h
  · rcases fnd_lt z.2.2.1.2.2.2.2.2.2 (lN (tkM T len z.1.1)) (npV z.2.1) 0 (by omega) with h | h
    · exact Or.inl (by omega)
    · exact Or.inr h
set_option maxHeartbeats 4000000 in
set_option maxRecDepth 100000 in
theorem l_readNewName (E : EnvT) (ad : Nat → Nat) (len : Nat) (T : Nat → Nat) (b : Bool) (z : Tlt len) (hl : len ≤ 900) (hT : ∀ k, k < 900 → T k < 256) (hI : nhV z.2.1 ≤ 5 ∧ npV z.2.1 ≤ 5) (hf : z.2.2.2.1 < 6) : Md E mX5_readNewName ad [.ref (ad 0), .int (bI b)] (tlP E ad len T z) (some (.long (lN (tkM T len z.1.1)))) (tlP E ad len T (rdW T b z)) := by
  have hc := nwC_lt T b z hI
  obtain ⟨p, V, X, f, pl⟩ := z
  have hn : nhV V ≤ 5 ∧ npV V ≤ 5 := hI
  have hk := tkK_lt T len p.1
  have hnw : nwC T b (p, V, X, f, pl) = if b then fnd X.2.2.2.1 (lN (tkM T len p.1)) (nhV V) 0 else fnd X.2.2.2.2.2.2 (lN (tkM T len p.1)) (npV V) 0 := rfl
  have hx : rdW T b (p, V, X, f, pl) = if tkK T len p.1 = 1 then (if nwC T b (p, V, X, f, pl) = 5 then (nxP T len p, V, X, f, pl) else (p, V, X, 3, nI (tkS T len p.1))) else (p, V, X, 1, nI (tkS T len p.1)) := rfl
  rw [hx]
  clear hx
  generalize nwC T b (p, V, X, f, pl) = c at *
  show Md E _ ad _ (tlC E ad len T p.1 V X f pl) (some (.long (lN (tkM T len p.1)))) _
  refine Md.of 3 (by decide) rfl rfl ?_
  refine Tr.aload_n (i := 0) dX5_readNewName_0 rfl rfl (Eq.refl 1) ?_
  refine Tr.getf dX5_readNewName_1 fX5_22 rfl rfl (Eq.refl 4) ?_
  refine Tr.getf dX5_readNewName_4 fX5_119 rfl rfl (Eq.refl 7) ?_
  refine Tr.lstore_n (i := 2) dX5_readNewName_7 rfl rfl rfl (Eq.refl 8) ?_
  refine Tr.iload_n (i := 1) dX5_readNewName_8 rfl rfl (Eq.refl 9) ?_
  refine Tr.if_eqB (tgt := 23) dX5_readNewName_9 (by decide) (Eq.refl 12) (fun h9 => ?_) (fun h9 => ?_)
  · rw [if_neg (by rw [h9]; decide)] at hnw
    refine Tr.aload_n (i := 0) dX5_readNewName_23 rfl rfl (Eq.refl 24) ?_
    refine Tr.getf dX5_readNewName_24 fX5_12 rfl rfl (Eq.refl 27) ?_
    refine Tr.lload_n (i := 2) dX5_readNewName_27 rfl rfl (Eq.refl 28) ?_
    refine Tr.callVr (L := [3, 4, 5, 6, 7, 8, 9, 10, 11, 12, 13]) (v_personNamed E _ V X (lN (tkM T len p.1)) hn.2) dX5_readNewName_28 (kX5_147 (Nat.le_of_ble_eq_true rfl)) iX7_personNamed rfl rfl rfl rfl rfl rfl rfl rfl rfl (Eq.refl 31) ?_
    rw [← hnw]
    refine Tr.istore dX5_readNewName_31 rfl rfl (Eq.refl 33) ?_
    refine Tr.aload_n (i := 0) dX5_readNewName_33 rfl rfl (Eq.refl 34) ?_
    refine Tr.getf dX5_readNewName_34 fX5_22 rfl rfl (Eq.refl 37) ?_
    refine Tr.getf dX5_readNewName_37 fX5_37 rfl rfl (Eq.refl 40) ?_
    refine Tr.iconst (v := nI 1) dX5_readNewName_40 (icN 1) (Eq.refl 41) ?_
    refine Tr.icmp_eqN (tgt := 52) dX5_readNewName_41 (by decide) (Eq.refl 44) (by omega) (by omega) (fun h41 => ?_) (fun h41 => ?_)
    · rw [if_pos h41]
      refine Tr.iload dX5_readNewName_52 rfl (Eq.refl 54) ?_
      refine Tr.iconst (v := (-1)) dX5_readNewName_54 (by decide +kernel) (Eq.refl 55) ?_
      refine Tr.icmp_eq (tgt := 66) dX5_readNewName_55 (by decide) (Eq.refl 58) (fun h55 => ?_) (fun h55 => ?_)
      · rw [cl_none] at h55
        rw [if_pos (by omega)]
        refine Tr.aload_n (i := 0) dX5_readNewName_66 rfl rfl (Eq.refl 67) ?_
        refine Tr.getf dX5_readNewName_67 fX5_22 rfl rfl (Eq.refl 70) ?_
        refine Tr.callV (L := [1, 2]) (t_readToken E _ len (tkE T len p.1) (tkK T len p.1) (tkS T len p.1) (tkN T len p.1) (tkM T len p.1) T hl hT (tkE_le T (Nat.le_of_lt_succ p.2)).2) dX5_readNewName_70 (kX5_80 (Nat.le_of_ble_eq_true rfl)) iX4_readToken rfl rfl rfl rfl rfl rfl rfl rfl rfl rfl (Eq.refl 73) ?_
        refine Tr.pic (w' := tlC E ad len T (nxP T len p).1 V X f pl) (putB_eq (Lc := [0, 3, 4, 5, 6, 7, 8, 9, 10, 11, 12, 13]) 14 rfl rfl rfl rfl ⟨⟨_, rfl, rfl⟩, ⟨_, rfl, rfl⟩, ⟨_, rfl, rfl⟩, ⟨_, rfl, rfl⟩, ⟨_, rfl, rfl⟩, ⟨_, rfl, rfl⟩, ⟨_, rfl, rfl⟩, ⟨_, rfl, rfl⟩, ⟨_, rfl, rfl⟩, ⟨_, rfl, rfl⟩, ⟨_, rfl, rfl⟩, ⟨_, rfl, rfl⟩, trivial⟩ (by decide) rfl) ?_
        refine Tr.lload_n (i := 2) dX5_readNewName_73 rfl rfl (Eq.refl 74) ?_
        refine Tr.lret dX5_readNewName_74 rfl ?_ ?_
        · rfl
        · rfl
      · rw [cl_none] at h55
        rw [if_neg (by omega)]
        refine Tr.aload_n (i := 0) dX5_readNewName_58 rfl rfl (Eq.refl 59) ?_
        refine Tr.iconst (v := nI 3) dX5_readNewName_59 (icN 3) (Eq.refl 60) ?_
        refine Tr.callVs (l_blame E ad len T p V X f pl 3) dX5_readNewName_60 (kX5_73 (Nat.le_of_ble_eq_true rfl)) iX5_blame rfl rfl rfl rfl rfl (tl_len) rfl rfl (Eq.refl 63) ?_
        refine Tr.goto (pc' := 73) dX5_readNewName_63 (by decide) ?_
        refine Tr.lload_n (i := 2) dX5_readNewName_73 rfl rfl (Eq.refl 74) ?_
        refine Tr.lret dX5_readNewName_74 rfl ?_ ?_
        · rfl
        · rfl
    · rw [if_neg h41]
      refine Tr.aload_n (i := 0) dX5_readNewName_44 rfl rfl (Eq.refl 45) ?_
      refine Tr.iconst (v := nI 1) dX5_readNewName_45 (icN 1) (Eq.refl 46) ?_
      refine Tr.callVs (l_blame E ad len T p V X f pl 1) dX5_readNewName_46 (kX5_73 (Nat.le_of_ble_eq_true rfl)) iX5_blame rfl rfl rfl rfl rfl (tl_len) rfl rfl (Eq.refl 49) ?_
      refine Tr.goto (pc' := 73) dX5_readNewName_49 (by decide) ?_
      refine Tr.lload_n (i := 2) dX5_readNewName_73 rfl rfl (Eq.refl 74) ?_
      refine Tr.lret dX5_readNewName_74 rfl ?_ ?_
      · rfl
      · rfl
  · rw [if_pos h9] at hnw
    refine Tr.aload_n (i := 0) dX5_readNewName_12 rfl rfl (Eq.refl 13) ?_
    refine Tr.getf dX5_readNewName_13 fX5_12 rfl rfl (Eq.refl 16) ?_
    refine Tr.lload_n (i := 2) dX5_readNewName_16 rfl rfl (Eq.refl 17) ?_
    refine Tr.callVr (L := [3, 4, 5, 6, 7, 8, 9, 10, 11, 12, 13]) (v_houseNamed E _ V X (lN (tkM T len p.1)) hn.1) dX5_readNewName_17 (kX5_123 (Nat.le_of_ble_eq_true rfl)) iX7_houseNamed rfl rfl rfl rfl rfl rfl rfl rfl rfl (Eq.refl 20) ?_
    refine Tr.goto (pc' := 31) dX5_readNewName_20 (by decide) ?_
    rw [← hnw]
    refine Tr.istore dX5_readNewName_31 rfl rfl (Eq.refl 33) ?_
    refine Tr.aload_n (i := 0) dX5_readNewName_33 rfl rfl (Eq.refl 34) ?_
    refine Tr.getf dX5_readNewName_34 fX5_22 rfl rfl (Eq.refl 37) ?_
    refine Tr.getf dX5_readNewName_37 fX5_37 rfl rfl (Eq.refl 40) ?_
    refine Tr.iconst (v := nI 1) dX5_readNewName_40 (icN 1) (Eq.refl 41) ?_
    refine Tr.icmp_eqN (tgt := 52) dX5_readNewName_41 (by decide) (Eq.refl 44) (by omega) (by omega) (fun h41 => ?_) (fun h41 => ?_)
    · rw [if_pos h41]
      refine Tr.iload dX5_readNewName_52 rfl (Eq.refl 54) ?_
      refine Tr.iconst (v := (-1)) dX5_readNewName_54 (by decide +kernel) (Eq.refl 55) ?_
      refine Tr.icmp_eq (tgt := 66) dX5_readNewName_55 (by decide) (Eq.refl 58) (fun h55 => ?_) (fun h55 => ?_)
      · rw [cl_none] at h55
        rw [if_pos (by omega)]
        refine Tr.aload_n (i := 0) dX5_readNewName_66 rfl rfl (Eq.refl 67) ?_
        refine Tr.getf dX5_readNewName_67 fX5_22 rfl rfl (Eq.refl 70) ?_
        refine Tr.callV (L := [1, 2]) (t_readToken E _ len (tkE T len p.1) (tkK T len p.1) (tkS T len p.1) (tkN T len p.1) (tkM T len p.1) T hl hT (tkE_le T (Nat.le_of_lt_succ p.2)).2) dX5_readNewName_70 (kX5_80 (Nat.le_of_ble_eq_true rfl)) iX4_readToken rfl rfl rfl rfl rfl rfl rfl rfl rfl rfl (Eq.refl 73) ?_
        refine Tr.pic (w' := tlC E ad len T (nxP T len p).1 V X f pl) (putB_eq (Lc := [0, 3, 4, 5, 6, 7, 8, 9, 10, 11, 12, 13]) 14 rfl rfl rfl rfl ⟨⟨_, rfl, rfl⟩, ⟨_, rfl, rfl⟩, ⟨_, rfl, rfl⟩, ⟨_, rfl, rfl⟩, ⟨_, rfl, rfl⟩, ⟨_, rfl, rfl⟩, ⟨_, rfl, rfl⟩, ⟨_, rfl, rfl⟩, ⟨_, rfl, rfl⟩, ⟨_, rfl, rfl⟩, ⟨_, rfl, rfl⟩, ⟨_, rfl, rfl⟩, trivial⟩ (by decide) rfl) ?_
        refine Tr.lload_n (i := 2) dX5_readNewName_73 rfl rfl (Eq.refl 74) ?_
        refine Tr.lret dX5_readNewName_74 rfl ?_ ?_
        · rfl
        · rfl
      · rw [cl_none] at h55
        rw [if_neg (by omega)]
        refine Tr.aload_n (i := 0) dX5_readNewName_58 rfl rfl (Eq.refl 59) ?_
        refine Tr.iconst (v := nI 3) dX5_readNewName_59 (icN 3) (Eq.refl 60) ?_
        refine Tr.callVs (l_blame E ad len T p V X f pl 3) dX5_readNewName_60 (kX5_73 (Nat.le_of_ble_eq_true rfl)) iX5_blame rfl rfl rfl rfl rfl (tl_len) rfl rfl (Eq.refl 63) ?_
        refine Tr.goto (pc' := 73) dX5_readNewName_63 (by decide) ?_
        refine Tr.lload_n (i := 2) dX5_readNewName_73 rfl rfl (Eq.refl 74) ?_
        refine Tr.lret dX5_readNewName_74 rfl ?_ ?_
        · rfl
        · rfl
    · rw [if_neg h41]
      refine Tr.aload_n (i := 0) dX5_readNewName_44 rfl rfl (Eq.refl 45) ?_
      refine Tr.iconst (v := nI 1) dX5_readNewName_45 (icN 1) (Eq.refl 46) ?_
      refine Tr.callVs (l_blame E ad len T p V X f pl 1) dX5_readNewName_46 (kX5_73 (Nat.le_of_ble_eq_true rfl)) iX5_blame rfl rfl rfl rfl rfl (tl_len) rfl rfl (Eq.refl 49) ?_
      refine Tr.goto (pc' := 73) dX5_readNewName_49 (by decide) ?_
      refine Tr.lload_n (i := 2) dX5_readNewName_73 rfl rfl (Eq.refl 74) ?_
      refine Tr.lret dX5_readNewName_74 rfl ?_ ?_
      · rfl
      · rfl
