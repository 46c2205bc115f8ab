/-! Trial: gains of all rows, rests -/
/-- weights of a row of choices with most mo: u k = the product of mo over k .. n - 1 -/
def Wts (mo K : Nat → Nat) (n : Nat) (u : Nat → Nat) : Prop := u n = 1 ∧ (∀ k, k < n → u k = mo k * u (k + 1)) ∧ (∀ k, k < n → K k = u (k + 1))
def rvF (K ch : Nat → Nat) : Nat → Nat
  | 0 => 0
  | p + 1 => rvF K ch p + ch p * K p
theorem rvF_at (K ch : Nat → Nat) : ∀ {n k : Nat}, k < n → ch k * K k ≤ rvF K ch n := by
  intro n
  induction n with
  | zero => intro k h; omega
  | succ n ih =>
    intro k h
    show _ ≤ rvF K ch n + ch n * K n
    by_cases e : k = n
    · rw [e]; omega
    · have := ih (show k < n by omega); omega
theorem rvF_congr {K ch ch2 : Nat → Nat} : ∀ {n : Nat}, (∀ k, k < n → ch k = ch2 k) → rvF K ch n = rvF K ch2 n := by
  intro n
  induction n with
  | zero => intro _; rfl
  | succ n ih =>
    intro h
    show rvF K ch n + ch n * K n = rvF K ch2 n + ch2 n * K n
    rw [ih (fun k hk => h k (by omega)), h n (by omega)]
theorem gcF_ge (mo : Nat → Nat) : ∀ (n : Nat) (ch : Nat → Nat) {k : Nat}, n ≤ k → (gcF mo n ch).1 k = ch k := by
  intro n
  induction n with
  | zero => intro ch k _; rfl
  | succ n ih =>
    intro ch k h
    unfold gcF
    split
    · exact upN_ne _ _ (by omega)
    · rw [ih _ (by omega)]; exact upN_ne _ _ (by omega)
theorem gcF_ltm (mo : Nat → Nat) (N : Nat) (hm : ∀ k, k < N → 0 < mo k) : ∀ (n : Nat) (ch : Nat → Nat), n ≤ N → (∀ k, k < N → ch k < mo k) → ∀ k, k < N → (gcF mo n ch).1 k < mo k := by
  intro n
  induction n with
  | zero => intro ch _ h; exact h
  | succ n ih =>
    intro ch hn h
    unfold gcF
    split
    · rename_i h9
      intro k hk
      by_cases e : k = n
      · subst e; show upN ch k _ k < _; rw [upN_self]; exact h9
      · show upN ch n _ k < _; rw [upN_ne _ _ e]; exact h k hk
    · exact ih (upN ch n 0) (by omega) (fun k hk => by
        by_cases e : k = n
        · subst e; rw [upN_self]; exact hm k hk
        · rw [upN_ne _ _ e]; exact h k hk)
theorem gcF_val {mo K u : Nat → Nat} {N : Nat} (hu : Wts mo K N u) : ∀ (n : Nat) (ch : Nat → Nat), n ≤ N → (∀ k, k < N → ch k < mo k) → (gcF mo n ch).2 < 5 → rvF K (gcF mo n ch).1 n = rvF K ch n + u n := by
  intro n
  induction n with
  | zero => intro ch _ _ h; exact absurd (show (5 : Nat) < 5 from h) (by decide)
  | succ n ih =>
    intro ch hn hc h
    have h3 := hc n (by omega)
    have h4 := hu.2.1 n (by omega)
    have h5 := hu.2.2 n (by omega)
    have h0 : ∀ x, rvF K (upN ch n x) n = rvF K ch n := fun x => rvF_congr (fun k hk => upN_ne _ _ (by omega))
    unfold gcF at h ⊢
    split at h
    · rename_i h9
      rw [if_pos h9]
      show rvF K (upN ch n (ch n + 1)) n + upN ch n (ch n + 1) n * K n = rvF K ch n + ch n * K n + u (n + 1)
      rw [upN_self, h0, h5, Nat.add_mul]
      omega
    · rename_i h9
      rw [if_neg h9]
      show rvF K (gcF mo n (upN ch n 0)).1 n + (gcF mo n (upN ch n 0)).1 n * K n = rvF K ch n + ch n * K n + u (n + 1)
      by_cases hm : 0 < n ∨ n = 0
      · have h6 : ∀ k, k < N → upN ch n 0 k < mo k := fun k hk => by
          by_cases e : k = n
          · subst e; rw [upN_self]; have := hc k hk; omega
          · rw [upN_ne _ _ e]; exact hc k hk
        rw [ih (upN ch n 0) (by omega) h6 h, gcF_ge mo n _ (Nat.le_refl n), upN_self, h0, h4, h5]
        have h7 : mo n = ch n + 1 := by omega
        rw [h7, Nat.add_mul]
        omega
      · omega
theorem brF_mo (V : Vil) (t : Nat) : ∀ (n : Nat) (q : (Nat → Nat) × (Nat → Nat) × Nat), (∀ k, k < n → (brF V t n q).1 k = if wkB V k t then 1 else q.1 k) ∧ (∀ k, n ≤ k → (brF V t n q).1 k = q.1 k) ∧ (∀ k, n ≤ k → (brF V t n q).2.1 k = q.2.1 k) := by
  intro n
  induction n with
  | zero => intro q; exact ⟨fun k hk => absurd hk (by omega), fun _ _ => rfl, fun _ _ => rfl⟩
  | succ n ih =>
    intro q
    have e : brF V t (n + 1) q = brF V t n (brS V t q n) := rfl
    obtain ⟨i1, i2, i3⟩ := ih (brS V t q n)
    have b1 : ∀ k, (brS V t q n).1 k = if k = n then (if wkB V n t then 1 else q.1 n) else q.1 k := by
      intro k
      show (if wkB V n t then upN q.1 n 1 else q.1) k = _
      by_cases h : k = n
      · subst h
        rw [if_pos rfl]
        split
        · exact upN_self _ _ _
        · rfl
      · rw [if_neg h]
        split
        · exact upN_ne _ _ h
        · rfl
    rw [e]
    refine ⟨fun k hk => ?_, fun k hk => ?_, fun k hk => ?_⟩
    · by_cases h : k = n
      · subst h; rw [i2 k (Nat.le_refl k), b1, if_pos rfl]
      · rw [i1 k (by omega), b1, if_neg h]
    · rw [i2 k (by omega), b1, if_neg (by omega)]
    · rw [i3 k (by omega)]; exact upN_ne _ _ (by omega)
theorem brF_w (V : Vil) (t : Nat) (u : Nat → Nat) : ∀ (n : Nat) (q : (Nat → Nat) × (Nat → Nat) × Nat), u n = q.2.2 → (∀ k, k < n → u k = (brF V t n q).1 k * u (k + 1)) → ∀ k, k < n → (brF V t n q).2.1 k = u (k + 1) := by
  intro n
  induction n with
  | zero => intro q _ _ k hk; omega
  | succ n ih =>
    intro q h1 h2 k hk
    have e : brF V t (n + 1) q = brF V t n (brS V t q n) := rfl
    rw [e] at h2 ⊢
    have h3 := h2 n (by omega)
    rw [(brF_mo V t n (brS V t q n)).2.1 n (Nat.le_refl n)] at h3
    have h4 : u n = (brS V t q n).2.2 := by
      show u n = q.2.2 * (brS V t q n).1 n
      rw [h3, ← h1, Nat.mul_comm]
    by_cases h : k = n
    · subst h
      rw [(brF_mo V t k (brS V t q k)).2.2 k (Nat.le_refl k)]
      show upN q.2.1 k q.2.2 k = _
      rw [upN_self, ← h1]
    · exact ih (brS V t q n) h4 (fun j hj => h2 j (by omega)) k (by omega)
/-- the product of m over a .. a + k - 1 -/
def uPr (m : Nat → Nat) : Nat → Nat → Nat
  | _, 0 => 1
  | a, k + 1 => m a * uPr m (a + 1) k
theorem uPr_le (m : Nat → Nat) : ∀ (k a : Nat), (∀ j, a ≤ j → j < a + k → m j ≤ 6) → uPr m a k ≤ 6 ^ k := by
  intro k
  induction k with
  | zero => intro a _; exact Nat.le_refl 1
  | succ k ih =>
    intro a h
    have h1 := ih (a + 1) (fun j h1 h2 => h j (by omega) (by omega))
    have h2 := h a (Nat.le_refl a) (by omega)
    have h3 := Nat.mul_le_mul h2 h1
    show m a * uPr m (a + 1) k ≤ _
    rw [Nat.pow_succ, Nat.mul_comm (6 ^ k) 6]
    exact h3
theorem bg_W (V : Vil) (t : Nat) (mo K : Nat → Nat) (N : Nat) : Wts (brF V t N (mo, K, 1)).1 (brF V t N (mo, K, 1)).2.1 N (fun k => uPr (brF V t N (mo, K, 1)).1 k (N - k)) := by
  have h1 : uPr (brF V t N (mo, K, 1)).1 N (N - N) = 1 := by rw [Nat.sub_self]; rfl
  have h2 : ∀ k, k < N → uPr (brF V t N (mo, K, 1)).1 k (N - k) = (brF V t N (mo, K, 1)).1 k * uPr (brF V t N (mo, K, 1)).1 (k + 1) (N - (k + 1)) := by
    intro k hk
    have e : N - k = (N - (k + 1)) + 1 := by omega
    rw [e]
    rfl
  exact ⟨h1, h2, brF_w V t (fun k => uPr (brF V t N (mo, K, 1)).1 k (N - k)) N (mo, K, 1) h1 h2⟩
/-- what a row of choices' begin gives: most, strides -/
def Rok (mo K : Nat → Nat) (N : Nat) : Prop := (∀ k, k < N → 0 < mo k ∧ mo k ≤ 6 ∧ K k ≤ 7776) ∧ ∃ u, Wts mo K N u
theorem bg_ok {V : Vil} (t : Nat) (mo K : Nat → Nat) (hV : Vok V) : Rok (brF V t (npV V) (pre (fun _ => nhV V + 1) mo (npV V), K, 1)).1 (brF V t (npV V) (pre (fun _ => nhV V + 1) mo (npV V), K, 1)).2.1 (npV V) := by
  have v1 := hV.1
  have v2 := hV.2.1
  have hW := bg_W V t (pre (fun _ => nhV V + 1) mo (npV V)) K (npV V)
  have h1 : ∀ k, k < npV V → (brF V t (npV V) (pre (fun _ => nhV V + 1) mo (npV V), K, 1)).1 k = if wkB V k t then 1 else nhV V + 1 := fun k hk => by
    rw [(brF_mo V t (npV V) _).1 k hk]
    show (if wkB V k t then 1 else pre (fun _ => nhV V + 1) mo (npV V) k) = _
    rw [pre_n hk]
  refine ⟨fun k hk => ?_, _, hW⟩
  have h2 : ∀ j, j < npV V → 0 < (brF V t (npV V) (pre (fun _ => nhV V + 1) mo (npV V), K, 1)).1 j ∧ (brF V t (npV V) (pre (fun _ => nhV V + 1) mo (npV V), K, 1)).1 j ≤ 6 := fun j hj => by
    rw [h1 j hj]
    split <;> omega
  refine ⟨(h2 k hk).1, (h2 k hk).2, ?_⟩
  rw [hW.2.2 k hk]
  have h3 := uPr_le (brF V t (npV V) (pre (fun _ => nhV V + 1) mo (npV V), K, 1)).1 (npV V - (k + 1)) (k + 1) (fun j g1 g2 => (h2 j (by omega)).2)
  have h4 : 6 ^ (npV V - (k + 1)) ≤ 6 ^ 5 := Nat.pow_le_pow_right (by decide) (by omega)
  exact Nat.le_trans h3 (Nat.le_trans h4 (by decide))
theorem wrF_le {V : Vil} (hV : Vok V) {t : Nat} {ch W : Nat → Nat} : Wle V (wrF V t ch W (npV V)) := by
  have h : ∀ n p, p < n → wrF V t ch W n p ≤ 5 := by
    intro n
    induction n with
    | zero => intro p hp; omega
    | succ n ih =>
      intro p hp
      show upN (wrF V t ch W n) n _ p ≤ 5
      by_cases e : p = n
      · rw [e, upN_self]
        split
        · exact Nat.le_refl 5
        · exact plc_le hV _
      · rw [upN_ne _ _ e]; exact ih p (by omega)
  exact fun p hp => h _ p hp
theorem rvF_zero (K : Nat → Nat) {ch : Nat → Nat} : ∀ {n : Nat}, (∀ k, k < n → ch k = 0) → rvF K ch n = 0 := by
  intro n
  induction n with
  | zero => intro _; rfl
  | succ n ih =>
    intro h
    show rvF K ch n + ch n * K n = 0
    rw [ih (fun k hk => h k (by omega)), h n (by omega), Nat.zero_mul]
/-- the gains of all rows: chosen, wishes, scene, gains -/
def fgF (V : Vil) (L : Nat → Int32) (O : Scn) (mo : Nat → Nat) : Nat → Nat → Nat → (Nat → Nat) → (Nat → Nat) × Scn × (Nat → Int64) → (Nat → Nat) × (Nat → Nat) × Scn × (Nat → Int64)
  | 0, _, _, ch, q => (ch, q)
  | n + 1, i, c, ch, q => if c < 5 then fgF V L O mo n (i + 1) (gcF mo (npV V) ch).2 (gcF mo (npV V) ch).1 (wrF V (psS O) ch q.1 (npV V), gon V L (wrF V (psS O) ch q.1 (npV V)) O, vp_updL q.2.2 i (pkF (ltS (gon V L (wrF V (psS O) ch q.1 (npV V)) O)) (npV V) 0)) else (ch, q)
theorem trCX_le {E E2 : EnvT} {ad ad2 : Nat → Nat} {b b2 : Nat} {V : Vil} {X : Vix} {P : Nat → Nat} {L : Nat → Int32} {O S : Scn} {W ch mo : Nat → Nat} {z : Nat} {G : Nat → Int64} {K : Nat → Nat} {bs br rg lr : Int32} {D0 D1 D2 D3 D4 : Scn} {T : Tst} : (trC E2 ad2 b2 T).length ≤ (trX E ad b V X P L O S W ch mo z G K bs br rg lr D0 D1 D2 D3 D4).length := Nat.le_refl 71
theorem trXX_le {E E2 : EnvT} {ad ad2 : Nat → Nat} {b b2 : Nat} {V V2 : Vil} {X X2 : Vix} {P P2 : Nat → Nat} {L L2 : Nat → Int32} {O S O2 S2 : Scn} {W ch mo W2 ch2 mo2 : Nat → Nat} {z z2 : Nat} {G G2 : Nat → Int64} {K K2 : Nat → Nat} {bs br rg lr bs2 br2 rg2 lr2 : Int32} {D0 D1 D2 D3 D4 F0 F1 F2 F3 F4 : Scn} : (trX E2 ad2 b2 V2 X2 P2 L2 O2 S2 W2 ch2 mo2 z2 G2 K2 bs2 br2 rg2 lr2 F0 F1 F2 F3 F4).length ≤ (trX E ad b V X P L O S W ch mo z G K bs br rg lr D0 D1 D2 D3 D4).length := Nat.le_refl 71
set_option maxHeartbeats 4000000 in
set_option maxRecDepth 100000 in
theorem c_packedGains_loop (E : EnvT) (ad : Nat → Nat) (T : Tst) (v2 : npV (vT T) ≤ 5) : ∀ (n : Nat) (a : Int64), n ≤ npV (vT T) → Tr (E, mX6_packedGains, ad, some (.long (pkF (ltS (sT T)) n a)), trC E ad 0 T) 0 0 12 [some (.ref (ad 0)), some (.long a), none, some (.int (dnI n))] [] (trC E ad 0 T) := by
  intro n
  induction n with
  | zero =>
    intro a hn
    refine Tr.iload_n (i := 3) dX6_packedGains_12 rfl rfl (Eq.refl 13) ?_
    refine Tr.if_lt (tgt := 46) dX6_packedGains_13 (by decide) (Eq.refl 16) (fun h13 => ?_) (fun h13 => ?_)
    · refine Tr.lload_n (i := 1) dX6_packedGains_46 rfl rfl (Eq.refl 47) ?_
      refine Tr.lret dX6_packedGains_47 rfl ?_ ?_
      · rfl
      · rfl
    · exact absurd h13 (by decide)
  | succ n ih =>
    intro a hn
    have ih2 := ih ((a <<< ((nI 8).toInt64 &&& 63)) ||| ((ltS (sT T) n + nI 128) &&& nI 255).toInt64) (by omega)
    have hu : pkF (ltS (sT T)) (n + 1) a = pkF (ltS (sT T)) n ((a <<< ((nI 8).toInt64 &&& 63)) ||| ((ltS (sT T) n + nI 128) &&& nI 255).toInt64) := rfl
    rw [hu]
    clear hu ih
    show Tr _ 0 0 12 [some (.ref (ad 0)), some (.long a), none, some (.int (nI n))] [] _
    refine Tr.iload_n (i := 3) dX6_packedGains_12 rfl rfl (Eq.refl 13) ?_
    refine Tr.if_lt (tgt := 46) dX6_packedGains_13 (by decide) (Eq.refl 16) (fun h13 => ?_) (fun h13 => ?_)
    · exact absurd h13 (nI_nneg (by omega))
    · refine Tr.lload_n (i := 1) dX6_packedGains_16 rfl rfl (Eq.refl 17) ?_
      refine Tr.bipush (v := nI 8) dX6_packedGains_17 (by decide +kernel) (Eq.refl 19) ?_
      refine Tr.lshl dX6_packedGains_19 rfl (Eq.refl 20) ?_
      refine Tr.aload_n (i := 0) dX6_packedGains_20 rfl rfl (Eq.refl 21) ?_
      refine Tr.getf dX6_packedGains_21 fX6_32 rfl rfl (Eq.refl 24) ?_
      refine Tr.getf dX6_packedGains_24 fX6_161 rfl rfl (Eq.refl 27) ?_
      refine Tr.iload_n (i := 3) dX6_packedGains_27 rfl rfl (Eq.refl 28) ?_
      refine Tr.ialdN dX6_packedGains_28 rfl (by omega) (by decide) (Eq.refl 29) ?_
      refine Tr.sipush (v := nI 128) dX6_packedGains_29 (by decide +kernel) (Eq.refl 32) ?_
      refine Tr.iadd dX6_packedGains_32 (Eq.refl 33) ?_
      refine Tr.sipush (v := nI 255) dX6_packedGains_33 (by decide +kernel) (Eq.refl 36) ?_
      refine Tr.iand dX6_packedGains_36 (Eq.refl 37) ?_
      refine Tr.i2l dX6_packedGains_37 rfl (Eq.refl 38) ?_
      refine Tr.lor dX6_packedGains_38 (Eq.refl 39) ?_
      refine Tr.lstore_n (i := 1) dX6_packedGains_39 rfl rfl rfl (Eq.refl 40) ?_
      refine Tr.iinc (v := dnI n) dX6_packedGains_40 rfl (dnI_add n) rfl rfl (Eq.refl 43) ?_
      refine Tr.goto (pc' := 12) dX6_packedGains_43 (by decide) ?_
      exact Tr.eqs rfl rfl rfl ih2
set_option maxHeartbeats 4000000 in
set_option maxRecDepth 100000 in
theorem c_packedGains (E : EnvT) (ad : Nat → Nat) (T : Tst) (v2 : npV (vT T) ≤ 5) : Md E mX6_packedGains ad [.ref (ad 0)] (trC E ad 0 T) (some (.long (pkF (ltS (sT T)) (npV (vT T)) 0))) (trC E ad 0 T) := by
  refine Md.of 3 (by decide) rfl rfl ?_
  refine Tr.lconst (v := 0) dX6_packedGains_0 (by decide +kernel) (Eq.refl 1) ?_
  refine Tr.lstore_n (i := 1) dX6_packedGains_1 rfl rfl rfl (Eq.refl 2) ?_
  refine Tr.aload_n (i := 0) dX6_packedGains_2 rfl rfl (Eq.refl 3) ?_
  refine Tr.getf dX6_packedGains_3 fX6_12 rfl rfl (Eq.refl 6) ?_
  refine Tr.getf dX6_packedGains_6 fX6_127 rfl rfl (Eq.refl 9) ?_
  refine Tr.iconst (v := nI 1) dX6_packedGains_9 (icN 1) (Eq.refl 10) ?_
  refine Tr.isub dX6_packedGains_10 (Eq.refl 11) ?_
  rw [dnI_sub]
  refine Tr.istore_n (i := 3) dX6_packedGains_11 rfl rfl rfl (Eq.refl 12) ?_
  exact Tr.eqs rfl rfl rfl (c_packedGains_loop E ad T v2 (npV (vT T)) 0 (Nat.le_refl _))
set_option maxHeartbeats 4000000 in
set_option maxRecDepth 100000 in
theorem c_fillGains_loop (E : EnvT) (ad : Nat → Nat) (V : Vil) (X : Vix) (P : Nat → Nat) (L : Nat → Int32) (O : Scn) (mo K : Nat → Nat) (bs br rg lr : Int32) (D : Nat → Scn) (hV : Vok V) (hP : Ple P) (hO : Sle V O) (ht : psS O < 2 ^ 30) (hm : ∀ k, k < npV V → 0 < mo k ∧ mo k ≤ 6) : ∀ (n i c : Nat) (ch : Nat → Nat) (q : (Nat → Nat) × Scn × (Nat → Int64)), i + n = 7776 → (∀ k, k < npV V → ch k < mo k) → Tr (E, mX6_fillGains, ad, none, trX E ad 0 V X P L O (fgF V L O mo n i c ch q).2.2.1 (fgF V L O mo n i c ch q).2.1 (fgF V L O mo n i c ch q).1 mo (npV V) (fgF V L O mo n i c ch q).2.2.2 K bs br rg lr (D 0) (D 1) (D 2) (D 3) (D 4)) 0 0 8 [some (.ref (ad 0)), some (.int (cl c)), some (.int (nI i))] [] (trX E ad 0 V X P L O q.2.1 q.1 ch mo (npV V) q.2.2 K bs br rg lr (D 0) (D 1) (D 2) (D 3) (D 4)) := by
  intro n
  have v1 := hV.1
  have v2 := hV.2.1
  induction n with
  | zero =>
    intro i c ch q hi hc
    refine Tr.iload_n (i := 2) dX6_fillGains_8 rfl rfl (Eq.refl 9) ?_
    refine Tr.sipush (v := nI 7776) dX6_fillGains_9 (by decide +kernel) (Eq.refl 12) ?_
    refine Tr.icmp_geN (tgt := 81) dX6_fillGains_12 (by decide) (Eq.refl 15) (by omega) (by omega) (fun h12 => ?_) (fun h12 => ?_)
    · refine Tr.ret dX6_fillGains_81 rfl rfl ?_
      · rfl
    · exact absurd h12 (by omega)
  | succ n ih =>
    intro i c ch q hi hc
    obtain ⟨W, S, G⟩ := q
    have hc9 : ∀ k, k < npV V → ch k < 100 := fun k hk => Nat.lt_of_lt_of_le (hc k hk) (Nat.le_trans (hm k hk).2 (by decide))
    have hW : Wle V (wrF V (psS O) ch W (npV V)) := wrF_le hV
    have ih2 := ih (i + 1) (gcF mo (npV V) ch).2 (gcF mo (npV V) ch).1 (wrF V (psS O) ch W (npV V), gon V L (wrF V (psS O) ch W (npV V)) O, vp_updL G i (pkF (ltS (gon V L (wrF V (psS O) ch W (npV V)) O)) (npV V) 0)) (by omega) (gcF_ltm mo (npV V) (fun k hk => (hm k hk).1) (npV V) ch (Nat.le_refl _) hc)
    have hst : fgF V L O mo (n + 1) i c ch (W, S, G) = if c < 5 then fgF V L O mo n (i + 1) (gcF mo (npV V) ch).2 (gcF mo (npV V) ch).1 (wrF V (psS O) ch W (npV V), gon V L (wrF V (psS O) ch W (npV V)) O, vp_updL G i (pkF (ltS (gon V L (wrF V (psS O) ch W (npV V)) O)) (npV V) 0)) else (ch, W, S, G) := rfl
    have hK : Tok (V, X, P, L, O, S, W, ch, mo, npV V, G, K, bs, br, rg, lr, D) := ⟨hV, hP, hO, ht⟩
    show Tr _ 0 0 8 _ _ (trX E ad 0 V X P L O S W ch mo (npV V) G K bs br rg lr (D 0) (D 1) (D 2) (D 3) (D 4))
    refine Tr.iload_n (i := 2) dX6_fillGains_8 rfl rfl (Eq.refl 9) ?_
    refine Tr.sipush (v := nI 7776) dX6_fillGains_9 (by decide +kernel) (Eq.refl 12) ?_
    refine Tr.icmp_geN (tgt := 81) dX6_fillGains_12 (by decide) (Eq.refl 15) (by omega) (by omega) (fun h12 => ?_) (fun h12 => ?_)
    · exact absurd h12 (by omega)
    · refine Tr.iload_n (i := 1) dX6_fillGains_15 rfl rfl (Eq.refl 16) ?_
      refine Tr.iconst (v := (-1)) dX6_fillGains_16 (by decide +kernel) (Eq.refl 17) ?_
      refine Tr.icmp_eq (tgt := 81) dX6_fillGains_17 (by decide) (Eq.refl 20) (fun h17 => ?_) (fun h17 => ?_)
      · rw [cl_none] at h17
        rw [if_neg h17] at hst
        refine Tr.ret dX6_fillGains_81 rfl rfl ?_
        · rw [hst]; first | done | rfl
      · rw [cl_none] at h17
        rw [if_pos (by omega)] at hst
        rw [hst]
        clear hst ih
        refine Tr.aload_n (i := 0) dX6_fillGains_20 rfl rfl (Eq.refl 21) ?_
        refine Tr.callVs (c_wishRow E ad (V, X, P, L, O, S, W, ch, mo, npV V, G, K, bs, br, rg, lr, D) hK hc9) dX6_fillGains_21 (kX6_155 (Nat.le_of_ble_eq_true rfl)) iX6_wishRow rfl rfl rfl rfl rfl (trXC_le) rfl rfl (Eq.refl 24) ?_
        refine Tr.pic (w' := trX E ad 0 V X P L O S (wrF V (psS O) ch W (npV V)) ch mo (npV V) G K bs br rg lr (D 0) (D 1) (D 2) (D 3) (D 4)) rfl ?_
        generalize wrF V (psS O) ch W (npV V) = W2 at *
        refine Tr.aload_n (i := 0) dX6_fillGains_24 rfl rfl (Eq.refl 25) ?_
        refine Tr.getf dX6_fillGains_25 fX6_32 rfl rfl (Eq.refl 28) ?_
        refine Tr.aload_n (i := 0) dX6_fillGains_28 rfl rfl (Eq.refl 29) ?_
        refine Tr.getf dX6_fillGains_29 fX6_28 rfl rfl (Eq.refl 32) ?_
        refine Tr.callV (L := [22, 23, 24, 25, 26, 27, 28, 15, 16, 17, 18, 19, 20, 21]) (c_scCopy E _ S O) dX6_fillGains_32 (kX6_68 (Nat.le_of_ble_eq_true rfl)) iX3_copyFrom rfl rfl rfl rfl rfl rfl rfl rfl rfl rfl (Eq.refl 35) ?_
        refine Tr.pic (w' := trX E ad 0 V X P L O O W2 ch mo (npV V) G K bs br rg lr (D 0) (D 1) (D 2) (D 3) (D 4)) (putB_eq (Lc := [0, 1, 2, 3, 4, 5, 6, 7, 8, 9, 10, 11, 12, 13, 14, 29, 30, 31, 32, 33, 34, 35, 36, 37, 38, 39, 40, 41, 42, 43, 44, 45, 46, 47, 48, 49, 50, 51, 52, 53, 54, 55, 56, 57, 58, 59, 60, 61, 62, 63, 64, 65, 66, 67, 68, 69, 70]) 71 rfl rfl rfl rfl ⟨⟨_, rfl, rfl⟩, ⟨_, rfl, rfl⟩, ⟨_, rfl, rfl⟩, ⟨_, rfl, rfl⟩, ⟨_, rfl, rfl⟩, ⟨_, rfl, rfl⟩, ⟨_, rfl, rfl⟩, ⟨_, rfl, rfl⟩, ⟨_, rfl, rfl⟩, ⟨_, rfl, rfl⟩, ⟨_, rfl, rfl⟩, ⟨_, rfl, rfl⟩, ⟨_, rfl, rfl⟩, ⟨_, rfl, rfl⟩, ⟨_, rfl, rfl⟩, ⟨_, rfl, rfl⟩, ⟨_, rfl, rfl⟩, ⟨_, rfl, rfl⟩, ⟨_, rfl, rfl⟩, ⟨_, rfl, rfl⟩, ⟨_, rfl, rfl⟩, ⟨_, rfl, rfl⟩, ⟨_, rfl, rfl⟩, ⟨_, rfl, rfl⟩, ⟨_, rfl, rfl⟩, ⟨_, rfl, rfl⟩, ⟨_, rfl, rfl⟩, ⟨_, rfl, rfl⟩, ⟨_, rfl, rfl⟩, ⟨_, rfl, rfl⟩, ⟨_, rfl, rfl⟩, ⟨_, rfl, rfl⟩, ⟨_, rfl, rfl⟩, ⟨_, rfl, rfl⟩, ⟨_, rfl, rfl⟩, ⟨_, rfl, rfl⟩, ⟨_, rfl, rfl⟩, ⟨_, rfl, rfl⟩, ⟨_, rfl, rfl⟩, ⟨_, rfl, rfl⟩, ⟨_, rfl, rfl⟩, ⟨_, rfl, rfl⟩, ⟨_, rfl, rfl⟩, ⟨_, rfl, rfl⟩, ⟨_, rfl, rfl⟩, ⟨_, rfl, rfl⟩, ⟨_, rfl, rfl⟩, ⟨_, rfl, rfl⟩, ⟨_, rfl, rfl⟩, ⟨_, rfl, rfl⟩, ⟨_, rfl, rfl⟩, ⟨_, rfl, rfl⟩, ⟨_, rfl, rfl⟩, ⟨_, rfl, rfl⟩, ⟨_, rfl, rfl⟩, ⟨_, rfl, rfl⟩, ⟨_, rfl, rfl⟩, trivial⟩ (by decide) rfl) ?_
        refine Tr.aload_n (i := 0) dX6_fillGains_35 rfl rfl (Eq.refl 36) ?_
        refine Tr.getf dX6_fillGains_36 fX6_32 rfl rfl (Eq.refl 39) ?_
        refine Tr.aload_n (i := 0) dX6_fillGains_39 rfl rfl (Eq.refl 40) ?_
        refine Tr.getf dX6_fillGains_40 fX6_12 rfl rfl (Eq.refl 43) ?_
        refine Tr.aload_n (i := 0) dX6_fillGains_43 rfl rfl (Eq.refl 44) ?_
        refine Tr.getf dX6_fillGains_44 fX6_21 rfl rfl (Eq.refl 47) ?_
        refine Tr.getf dX6_fillGains_47 fX6_82 rfl rfl (Eq.refl 50) ?_
        refine Tr.aload_n (i := 0) dX6_fillGains_50 rfl rfl (Eq.refl 51) ?_
        refine Tr.getf dX6_fillGains_51 fX6_39 rfl rfl (Eq.refl 54) ?_
        refine Tr.callV (L := l_go) (c_goOn E _ V X O L W2 hV hO hW) dX6_fillGains_54 (kX6_85 (Nat.le_of_ble_eq_true rfl)) iX3_goOn rfl rfl rfl rfl rfl rfl rfl rfl rfl rfl (Eq.refl 57) ?_
        refine Tr.pic (w' := trX E ad 0 V X P L O (gon V L W2 O) W2 ch mo (npV V) G K bs br rg lr (D 0) (D 1) (D 2) (D 3) (D 4)) (putB_eq (Lc := [0, 12, 13, 15, 16, 17, 18, 19, 20, 21, 29, 31, 32, 33, 34, 35, 36, 37, 38, 39, 40, 41, 42, 43, 44, 45, 46, 47, 48, 49, 50, 51, 52, 53, 54, 55, 56, 57, 58, 59, 60, 61, 62, 63, 64, 65, 66, 67, 68, 69, 70]) 71 rfl rfl rfl rfl ⟨⟨_, rfl, rfl⟩, ⟨_, rfl, rfl⟩, ⟨_, rfl, rfl⟩, ⟨_, rfl, rfl⟩, ⟨_, rfl, rfl⟩, ⟨_, rfl, rfl⟩, ⟨_, rfl, rfl⟩, ⟨_, rfl, rfl⟩, ⟨_, rfl, rfl⟩, ⟨_, rfl, rfl⟩, ⟨_, rfl, rfl⟩, ⟨_, rfl, rfl⟩, ⟨_, rfl, rfl⟩, ⟨_, rfl, rfl⟩, ⟨_, rfl, rfl⟩, ⟨_, rfl, rfl⟩, ⟨_, rfl, rfl⟩, ⟨_, rfl, rfl⟩, ⟨_, rfl, rfl⟩, ⟨_, rfl, rfl⟩, ⟨_, rfl, rfl⟩, ⟨_, rfl, rfl⟩, ⟨_, rfl, rfl⟩, ⟨_, rfl, rfl⟩, ⟨_, rfl, rfl⟩, ⟨_, rfl, rfl⟩, ⟨_, rfl, rfl⟩, ⟨_, rfl, rfl⟩, ⟨_, rfl, rfl⟩, ⟨_, rfl, rfl⟩, ⟨_, rfl, rfl⟩, ⟨_, rfl, rfl⟩, ⟨_, rfl, rfl⟩, ⟨_, rfl, rfl⟩, ⟨_, rfl, rfl⟩, ⟨_, rfl, rfl⟩, ⟨_, rfl, rfl⟩, ⟨_, rfl, rfl⟩, ⟨_, rfl, rfl⟩, ⟨_, rfl, rfl⟩, ⟨_, rfl, rfl⟩, ⟨_, rfl, rfl⟩, ⟨_, rfl, rfl⟩, ⟨_, rfl, rfl⟩, ⟨_, rfl, rfl⟩, ⟨_, rfl, rfl⟩, ⟨_, rfl, rfl⟩, ⟨_, rfl, rfl⟩, ⟨_, rfl, rfl⟩, ⟨_, rfl, rfl⟩, ⟨_, rfl, rfl⟩, trivial⟩ (by decide) rfl) ?_
        generalize gon V L W2 O = S2 at *
        refine Tr.aload_n (i := 0) dX6_fillGains_57 rfl rfl (Eq.refl 58) ?_
        refine Tr.getf dX6_fillGains_58 fX6_50 rfl rfl (Eq.refl 61) ?_
        refine Tr.iload_n (i := 2) dX6_fillGains_61 rfl rfl (Eq.refl 62) ?_
        refine Tr.aload_n (i := 0) dX6_fillGains_62 rfl rfl (Eq.refl 63) ?_
        refine Tr.callVs (c_packedGains E ad (V, X, P, L, O, S2, W2, ch, mo, npV V, G, K, bs, br, rg, lr, D) v2) dX6_fillGains_63 (kX6_164 (Nat.le_of_ble_eq_true rfl)) iX6_packedGains rfl rfl rfl rfl rfl (trXC_le) rfl rfl (Eq.refl 66) ?_
        refine Tr.topJ (y := pkF (ltS S2) (npV V) 0) rfl ?_
        refine Tr.pic (w' := trX E ad 0 V X P L O S2 W2 ch mo (npV V) G K bs br rg lr (D 0) (D 1) (D 2) (D 3) (D 4)) rfl ?_
        refine Tr.lastN dX6_fillGains_66 rfl (by omega) (by decide) (Eq.refl 67) ?_
        refine Tr.pic (w' := trX E ad 0 V X P L O S2 W2 ch mo (npV V) (vp_updL G i (pkF (ltS S2) (npV V) 0)) K bs br rg lr (D 0) (D 1) (D 2) (D 3) (D 4)) rfl ?_
        generalize vp_updL G i (pkF (ltS S2) (npV V) 0) = G2 at *
        refine Tr.aload_n (i := 0) dX6_fillGains_67 rfl rfl (Eq.refl 68) ?_
        refine Tr.getf dX6_fillGains_68 fX6_46 rfl rfl (Eq.refl 71) ?_
        refine Tr.callV (L := [31, 32, 33]) (c_chGoOn E _ ch mo (npV V) v2 (fun k hk => ⟨hc9 k hk, Nat.lt_of_le_of_lt (hm k hk).2 (by decide)⟩)) dX6_fillGains_71 (kX6_113 (Nat.le_of_ble_eq_true rfl)) iX0_goOn rfl rfl rfl rfl rfl rfl rfl rfl rfl rfl (Eq.refl 74) ?_
        refine Tr.pic (w' := trX E ad 0 V X P L O S2 W2 (gcF mo (npV V) ch).1 mo (npV V) G2 K bs br rg lr (D 0) (D 1) (D 2) (D 3) (D 4)) (putB_eq (Lc := [0, 1, 2, 3, 4, 5, 6, 7, 8, 9, 10, 11, 12, 13, 14, 15, 16, 17, 18, 19, 20, 21, 22, 23, 24, 25, 26, 27, 28, 29, 30, 34, 35, 36, 37, 38, 39, 40, 41, 42, 43, 44, 45, 46, 47, 48, 49, 50, 51, 52, 53, 54, 55, 56, 57, 58, 59, 60, 61, 62, 63, 64, 65, 66, 67, 68, 69, 70]) 71 rfl rfl rfl rfl ⟨⟨_, rfl, rfl⟩, ⟨_, rfl, rfl⟩, ⟨_, rfl, rfl⟩, ⟨_, rfl, rfl⟩, ⟨_, rfl, rfl⟩, ⟨_, rfl, rfl⟩, ⟨_, rfl, rfl⟩, ⟨_, rfl, rfl⟩, ⟨_, rfl, rfl⟩, ⟨_, rfl, rfl⟩, ⟨_, rfl, rfl⟩, ⟨_, rfl, rfl⟩, ⟨_, rfl, rfl⟩, ⟨_, rfl, rfl⟩, ⟨_, rfl, rfl⟩, ⟨_, rfl, rfl⟩, ⟨_, rfl, rfl⟩, ⟨_, rfl, rfl⟩, ⟨_, rfl, rfl⟩, ⟨_, rfl, rfl⟩, ⟨_, rfl, rfl⟩, ⟨_, rfl, rfl⟩, ⟨_, rfl, rfl⟩, ⟨_, rfl, rfl⟩, ⟨_, rfl, rfl⟩, ⟨_, rfl, rfl⟩, ⟨_, rfl, rfl⟩, ⟨_, rfl, rfl⟩, ⟨_, rfl, rfl⟩, ⟨_, rfl, rfl⟩, ⟨_, rfl, rfl⟩, ⟨_, rfl, rfl⟩, ⟨_, rfl, rfl⟩, ⟨_, rfl, rfl⟩, ⟨_, rfl, rfl⟩, ⟨_, rfl, rfl⟩, ⟨_, rfl, rfl⟩, ⟨_, rfl, rfl⟩, ⟨_, rfl, rfl⟩, ⟨_, rfl, rfl⟩, ⟨_, rfl, rfl⟩, ⟨_, rfl, rfl⟩, ⟨_, rfl, rfl⟩, ⟨_, rfl, rfl⟩, ⟨_, rfl, rfl⟩, ⟨_, rfl, rfl⟩, ⟨_, rfl, rfl⟩, ⟨_, rfl, rfl⟩, ⟨_, rfl, rfl⟩, ⟨_, rfl, rfl⟩, ⟨_, rfl, rfl⟩, ⟨_, rfl, rfl⟩, ⟨_, rfl, rfl⟩, ⟨_, rfl, rfl⟩, ⟨_, rfl, rfl⟩, ⟨_, rfl, rfl⟩, ⟨_, rfl, rfl⟩, ⟨_, rfl, rfl⟩, ⟨_, rfl, rfl⟩, ⟨_, rfl, rfl⟩, ⟨_, rfl, rfl⟩, ⟨_, rfl, rfl⟩, ⟨_, rfl, rfl⟩, ⟨_, rfl, rfl⟩, ⟨_, rfl, rfl⟩, ⟨_, rfl, rfl⟩, ⟨_, rfl, rfl⟩, ⟨_, rfl, rfl⟩, trivial⟩ (by decide) rfl) ?_
        refine Tr.istore_n (i := 1) dX6_fillGains_74 rfl rfl rfl (Eq.refl 75) ?_
        refine Tr.iincN dX6_fillGains_75 rfl rfl rfl (Eq.refl 78) ?_
        refine Tr.goto (pc' := 8) dX6_fillGains_78 (by decide) ?_
        exact Tr.eqs rfl rfl rfl ih2
def fgR (N : Nat) (T : Tst) : (Nat → Nat) × (Nat → Nat) × Scn × (Nat → Int64) := fgF (vT T) (lT T) (oT T) (bgR T).1 N 0 0 (pre (fun _ => 0) (cT T) (npV (vT T))) (wT T, sT T, gT T)
def fgT (N : Nat) (T : Tst) : Tst := (vT T, xT T, pT T, lT T, oT T, (fgR N T).2.2.1, (fgR N T).2.1, (fgR N T).1, (bgR T).1, npV (vT T), (fgR N T).2.2.2, (bgR T).2.1, bsT T, brT T, rgT T, lrT T, dT T)
set_option maxHeartbeats 4000000 in
set_option maxRecDepth 100000 in
theorem c_fillGains (E : EnvT) (ad : Nat → Nat) (N : Nat) (hN : N = 7776) (T : Tst) (hT : Tok T) : Md E mX6_fillGains ad [.ref (ad 0)] (trC E ad 0 T) none (trC E ad 0 (fgT N T)) := by
  obtain ⟨V, X, P, L, O, S, W, ch, mo, z, G, K, bs, br, rg, lr, D⟩ := T
  have hV : Vok V := hT.1
  have hP : Ple P := hT.2.1
  have hO : Sle V O := hT.2.2.1
  have ht : psS O < 2 ^ 30 := hT.2.2.2
  have v2 := hV.2.1
  have hB : Rok (bgR (V, X, P, L, O, S, W, ch, mo, z, G, K, bs, br, rg, lr, D)).1 (bgR (V, X, P, L, O, S, W, ch, mo, z, G, K, bs, br, rg, lr, D)).2.1 (npV V) := bg_ok (psS O) mo K hV
  have hL := c_fillGains_loop E ad V X P L O (bgR (V, X, P, L, O, S, W, ch, mo, z, G, K, bs, br, rg, lr, D)).1 (bgR (V, X, P, L, O, S, W, ch, mo, z, G, K, bs, br, rg, lr, D)).2.1 bs br rg lr D hV hP hO ht (fun k hk => ⟨(hB.1 k hk).1, (hB.1 k hk).2.1⟩) N 0 0 (pre (fun _ => 0) ch (npV V)) (W, S, G) (by omega) (fun k hk => by rw [pre_n hk]; exact (hB.1 k hk).1)
  have hR : (fgR N (V, X, P, L, O, S, W, ch, mo, z, G, K, bs, br, rg, lr, D)) = fgF V L O (bgR (V, X, P, L, O, S, W, ch, mo, z, G, K, bs, br, rg, lr, D)).1 N 0 0 (pre (fun _ => 0) ch (npV V)) (W, S, G) := rfl
  rw [← hR] at hL
  clear hR
  show Md E _ ad _ (trC E ad 0 (V, X, P, L, O, S, W, ch, mo, z, G, K, bs, br, rg, lr, D)) none (trX E ad 0 V X P L O (fgR N (V, X, P, L, O, S, W, ch, mo, z, G, K, bs, br, rg, lr, D)).2.2.1 (fgR N (V, X, P, L, O, S, W, ch, mo, z, G, K, bs, br, rg, lr, D)).2.1 (fgR N (V, X, P, L, O, S, W, ch, mo, z, G, K, bs, br, rg, lr, D)).1 (bgR (V, X, P, L, O, S, W, ch, mo, z, G, K, bs, br, rg, lr, D)).1 (npV V) (fgR N (V, X, P, L, O, S, W, ch, mo, z, G, K, bs, br, rg, lr, D)).2.2.2 (bgR (V, X, P, L, O, S, W, ch, mo, z, G, K, bs, br, rg, lr, D)).2.1 bs br rg lr (D 0) (D 1) (D 2) (D 3) (D 4))
  have hbg : trC E ad 0 (bgT (V, X, P, L, O, S, W, ch, mo, z, G, K, bs, br, rg, lr, D)) = trX E ad 0 V X P L O S W (pre (fun _ => 0) ch (npV V)) (bgR (V, X, P, L, O, S, W, ch, mo, z, G, K, bs, br, rg, lr, D)).1 (npV V) G (bgR (V, X, P, L, O, S, W, ch, mo, z, G, K, bs, br, rg, lr, D)).2.1 bs br rg lr (D 0) (D 1) (D 2) (D 3) (D 4) := rfl
  have hc := c_beginRows E ad (V, X, P, L, O, S, W, ch, mo, z, G, K, bs, br, rg, lr, D) hT
  rw [hbg] at hc
  clear hbg
  generalize (bgR (V, X, P, L, O, S, W, ch, mo, z, G, K, bs, br, rg, lr, D)) = b at *
  generalize (fgR N (V, X, P, L, O, S, W, ch, mo, z, G, K, bs, br, rg, lr, D)) = r at *
  refine Md.of 2 (by decide) rfl rfl ?_
  refine Tr.aload_n (i := 0) dX6_fillGains_0 rfl rfl (Eq.refl 1) ?_
  refine Tr.callVs (hc) dX6_fillGains_1 (kX6_148 (Nat.le_of_ble_eq_true rfl)) iX6_beginRows rfl rfl rfl rfl rfl (trCX_le) rfl rfl (Eq.refl 4) ?_
  refine Tr.iconst (v := nI 0) dX6_fillGains_4 (icN 0) (Eq.refl 5) ?_
  refine Tr.istore_n (i := 1) dX6_fillGains_5 rfl rfl rfl (Eq.refl 6) ?_
  refine Tr.iconst (v := nI 0) dX6_fillGains_6 (icN 0) (Eq.refl 7) ?_
  refine Tr.istore_n (i := 2) dX6_fillGains_7 rfl rfl rfl (Eq.refl 8) ?_
  exact Tr.eqs rfl rfl rfl hL
/-- no other choice of p's is better in the row r: the first so many choices -/
def rcS (G : Nat → Int64) (f k r p c : Nat) (_ : Unit) : Bool × Unit := (!decide (gaN G r p < gaN G (f + c * k) p), ())
def rsS (G : Nat → Int64) (ch mo K : Nat → Nat) (r p : Nat) (_ : Unit) : Bool × Unit := itB (rcS G (r - ch p * K p) (K p) r p) () (mo p)
def rsB (G : Nat → Int64) (ch mo K : Nat → Nat) (r n : Nat) : Bool := (itB (rsS G ch mo K r) () n).1
set_option maxHeartbeats 4000000 in
set_option maxRecDepth 100000 in
theorem c_isRest (E : EnvT) (ad : Nat → Nat) (T : Tst) (r : Nat) (hT : Tok T) (hr : r < 7776) (hK : ∀ k, k < npV (vT T) → mT T k ≤ 6 ∧ kT T k ≤ 7776 ∧ cT T k < 100 ∧ cT T k * kT T k ≤ r) : Md E mX6_isRest ad [.ref (ad 0), .int (nI r)] (trC E ad 0 T) (some (.int (bI (rsB (gT T) (cT T) (mT T) (kT T) r (npV (vT T)))))) (trC E ad 0 T) := by
  obtain ⟨V, X, P, L, O, S, W, ch, mo, z, G, K, bs, br, rg, lr, D⟩ := T
  have hV : Vok V := hT.1
  have v2 := hV.2.1
  have hK : ∀ k, k < npV V → mo k ≤ 6 ∧ K k ≤ 7776 ∧ ch k < 100 ∧ ch k * K k ≤ r := hK
  show Md E _ ad _ (trX E ad 0 V X P L O S W ch mo z G K bs br rg lr (D 0) (D 1) (D 2) (D 3) (D 4)) (some (.int (bI (itB (rsS G ch mo K r) () (npV V)).1))) (trX E ad 0 V X P L O S W ch mo z G K bs br rg lr (D 0) (D 1) (D 2) (D 3) (D 4))
  generalize hR : itB (rsS G ch mo K r) () (npV V) = R
  refine Md.of 3 (by decide) rfl rfl ?_
  refine Tr.iconst (v := nI 0) dX6_isRest_0 (icN 0) (Eq.refl 1) ?_
  refine Tr.istore_n (i := 2) dX6_isRest_1 rfl rfl rfl (Eq.refl 2) ?_
  refine Tr.mask [true, true, true, true, true] (lv' := [some (.ref (ad 0)), some (.int (nI r)), some (.int (nI 0)), none, none]) rfl ?_
  refine loopD (P := fun i => (itB (rsS G ch mo K r) () i).1 = true → Tr _ 0 0 2 [some (.ref (ad 0)), some (.int (nI r)), some (.int (nI i)), none, none] [] (trX E ad 0 V X P L O S W ch mo z G K bs br rg lr (D 0) (D 1) (D 2) (D 3) (D 4))) (npV V) (fun hn => ?_) (fun i hi ih hn => ?_) rfl
  · rw [hR] at hn
    refine Tr.iload_n (i := 2) dX6_isRest_2 rfl rfl (Eq.refl 3) ?_
    refine Tr.aload_n (i := 0) dX6_isRest_3 rfl rfl (Eq.refl 4) ?_
    refine Tr.getf dX6_isRest_4 fX6_12 rfl rfl (Eq.refl 7) ?_
    refine Tr.getf dX6_isRest_7 fX6_127 rfl rfl (Eq.refl 10) ?_
    refine Tr.icmp_geN (tgt := 88) dX6_isRest_10 (by decide) (Eq.refl 13) (by omega) (by omega) (fun h10 => ?_) (fun h10 => ?_)
    · refine Tr.iconst (v := nI 1) dX6_isRest_88 (icN 1) (Eq.refl 89) ?_
      refine Tr.iret dX6_isRest_89 rfl (by first | rfl | exact bI_nar _) ?_ ?_
      · rw [hn]; rfl
      · rfl
    · exact absurd h10 (by omega)
  · have hs := itB_s hn
    have hf : (itB (rsS G ch mo K r) () (i + 1)).1 = false → R = itB (rsS G ch mo K r) () (i + 1) := fun z9 => by rw [← hR]; exact itB_fr (Nat.succ_le_of_lt hi) z9
    rw [hs] at ih hf
    obtain ⟨k1, k2, k3, k4⟩ := hK i hi
    have k5 : ∀ c, c ≤ 6 → r - ch i * K i + c * K i < 2 ^ 31 := fun c hc => by
      have := Nat.mul_le_mul hc k2
      omega
    have k6 : nI r - nI (ch i * K i) = nI (r - ch i * K i) := pk_sub k4
    have hu : rsS G ch mo K r i (itB (rsS G ch mo K r) () i).2 = itB (rcS G (r - ch i * K i) (K i) r i) () (mo i) := rfl
    rw [hu] at ih hf
    clear hu hs
    generalize r - ch i * K i = f at *
    refine Tr.iload_n (i := 2) dX6_isRest_2 rfl rfl (Eq.refl 3) ?_
    refine Tr.aload_n (i := 0) dX6_isRest_3 rfl rfl (Eq.refl 4) ?_
    refine Tr.getf dX6_isRest_4 fX6_12 rfl rfl (Eq.refl 7) ?_
    refine Tr.getf dX6_isRest_7 fX6_127 rfl rfl (Eq.refl 10) ?_
    refine Tr.icmp_geN (tgt := 88) dX6_isRest_10 (by decide) (Eq.refl 13) (by omega) (by omega) (fun h10 => ?_) (fun h10 => ?_)
    · exact absurd h10 (by omega)
    · refine Tr.iload_n (i := 1) dX6_isRest_13 rfl rfl (Eq.refl 14) ?_
      refine Tr.aload_n (i := 0) dX6_isRest_14 rfl rfl (Eq.refl 15) ?_
      refine Tr.getf dX6_isRest_15 fX6_46 rfl rfl (Eq.refl 18) ?_
      refine Tr.getf dX6_isRest_18 fX6_120 rfl rfl (Eq.refl 21) ?_
      refine Tr.iload_n (i := 2) dX6_isRest_21 rfl rfl (Eq.refl 22) ?_
      refine Tr.ialdN dX6_isRest_22 rfl (by omega) (by decide) (Eq.refl 23) ?_
      refine Tr.aload_n (i := 0) dX6_isRest_23 rfl rfl (Eq.refl 24) ?_
      refine Tr.getf dX6_isRest_24 fX6_54 rfl rfl (Eq.refl 27) ?_
      refine Tr.iload_n (i := 2) dX6_isRest_27 rfl rfl (Eq.refl 28) ?_
      refine Tr.ialdN dX6_isRest_28 rfl (by omega) (by decide) (Eq.refl 29) ?_
      refine Tr.imulN dX6_isRest_29 (Eq.refl 30) ?_
      refine Tr.isub dX6_isRest_30 (Eq.refl 31) ?_
      rw [k6]
      refine Tr.istore_n (i := 3) dX6_isRest_31 rfl rfl rfl (Eq.refl 32) ?_
      refine Tr.iconst (v := nI 0) dX6_isRest_32 (icN 0) (Eq.refl 33) ?_
      refine Tr.istore dX6_isRest_33 rfl rfl (Eq.refl 35) ?_
      skip
      refine Tr.mask [true, true, true, true, true] (lv' := [some (.ref (ad 0)), some (.int (nI r)), some (.int (nI i)), some (.int (nI f)), some (.int (nI 0))]) rfl ?_
      refine loopD (P := fun c => (itB (rcS G f (K i) r i) () c).1 = true → Tr _ 0 0 35 [some (.ref (ad 0)), some (.int (nI r)), some (.int (nI i)), some (.int (nI f)), some (.int (nI c))] [] (trX E ad 0 V X P L O S W ch mo z G K bs br rg lr (D 0) (D 1) (D 2) (D 3) (D 4))) (mo i) (fun hm => ?_) (fun c hcc ih2 hm => ?_) rfl
      · refine Tr.iload dX6_isRest_35 rfl (Eq.refl 37) ?_
        refine Tr.aload_n (i := 0) dX6_isRest_37 rfl rfl (Eq.refl 38) ?_
        refine Tr.getf dX6_isRest_38 fX6_46 rfl rfl (Eq.refl 41) ?_
        refine Tr.getf dX6_isRest_41 fX6_158 rfl rfl (Eq.refl 44) ?_
        refine Tr.iload_n (i := 2) dX6_isRest_44 rfl rfl (Eq.refl 45) ?_
        refine Tr.ialdN dX6_isRest_45 rfl (by omega) (by decide) (Eq.refl 46) ?_
        refine Tr.icmp_geN (tgt := 82) dX6_isRest_46 (by decide) (Eq.refl 49) (by omega) (by omega) (fun h46 => ?_) (fun h46 => ?_)
        · refine Tr.iincN dX6_isRest_82 rfl rfl rfl (Eq.refl 85) ?_
          refine Tr.goto (pc' := 2) dX6_isRest_85 (by decide) ?_
          exact Tr.mask [true, true, true, false, false] rfl (ih hm)
        · exact absurd h46 (by omega)
      · have hs2 := itB_s hm
        have hf2 : (itB (rcS G f (K i) r i) () (c + 1)).1 = false → R.1 = false := fun z9 => by
          have hz := itB_fr (Nat.succ_le_of_lt hcc) z9
          rw [hf (by rw [hz]; exact z9), hz]
          exact z9
        rw [hs2] at ih2 hf2
        have hu2 : rcS G f (K i) r i c (itB (rcS G f (K i) r i) () c).2 = (!decide (gaN G r i < gaN G (f + c * K i) i), ()) := rfl
        rw [hu2] at ih2 hf2
        clear hu2 hs2
        refine Tr.iload dX6_isRest_35 rfl (Eq.refl 37) ?_
        refine Tr.aload_n (i := 0) dX6_isRest_37 rfl rfl (Eq.refl 38) ?_
        refine Tr.getf dX6_isRest_38 fX6_46 rfl rfl (Eq.refl 41) ?_
        refine Tr.getf dX6_isRest_41 fX6_158 rfl rfl (Eq.refl 44) ?_
        refine Tr.iload_n (i := 2) dX6_isRest_44 rfl rfl (Eq.refl 45) ?_
        refine Tr.ialdN dX6_isRest_45 rfl (by omega) (by decide) (Eq.refl 46) ?_
        refine Tr.icmp_geN (tgt := 82) dX6_isRest_46 (by decide) (Eq.refl 49) (by omega) (by omega) (fun h46 => ?_) (fun h46 => ?_)
        · exact absurd h46 (by omega)
        · refine Tr.aload_n (i := 0) dX6_isRest_49 rfl rfl (Eq.refl 50) ?_
          refine Tr.iload_n (i := 3) dX6_isRest_50 rfl rfl (Eq.refl 51) ?_
          refine Tr.iload dX6_isRest_51 rfl (Eq.refl 53) ?_
          refine Tr.aload_n (i := 0) dX6_isRest_53 rfl rfl (Eq.refl 54) ?_
          refine Tr.getf dX6_isRest_54 fX6_54 rfl rfl (Eq.refl 57) ?_
          refine Tr.iload_n (i := 2) dX6_isRest_57 rfl rfl (Eq.refl 58) ?_
          refine Tr.ialdN dX6_isRest_58 rfl (by omega) (by decide) (Eq.refl 59) ?_
          refine Tr.imulN dX6_isRest_59 (Eq.refl 60) ?_
          refine Tr.iaddN dX6_isRest_60 (Eq.refl 61) ?_
          refine Tr.iload_n (i := 2) dX6_isRest_61 rfl rfl (Eq.refl 62) ?_
          refine Tr.callVs (c_gainAt E ad (V, X, P, L, O, S, W, ch, mo, z, G, K, bs, br, rg, lr, D) (f + c * K i) i (k5 c (by omega)) (by omega)) dX6_isRest_62 (kX6_168 (Nat.le_of_ble_eq_true rfl)) iX6_gainAt rfl rfl rfl rfl rfl (trXC_le) rfl rfl (Eq.refl 65) ?_
          refine Tr.top (y := gaN G (f + c * K i) i) rfl ?_
          refine Tr.pic (w' := trX E ad 0 V X P L O S W ch mo z G K bs br rg lr (D 0) (D 1) (D 2) (D 3) (D 4)) rfl ?_
          refine Tr.aload_n (i := 0) dX6_isRest_65 rfl rfl (Eq.refl 66) ?_
          refine Tr.iload_n (i := 1) dX6_isRest_66 rfl rfl (Eq.refl 67) ?_
          refine Tr.iload_n (i := 2) dX6_isRest_67 rfl rfl (Eq.refl 68) ?_
          refine Tr.callVs (c_gainAt E ad (V, X, P, L, O, S, W, ch, mo, z, G, K, bs, br, rg, lr, D) r i (by omega) (by omega)) dX6_isRest_68 (kX6_168 (Nat.le_of_ble_eq_true rfl)) iX6_gainAt rfl rfl rfl rfl rfl (trXC_le) rfl rfl (Eq.refl 71) ?_
          refine Tr.top (y := gaN G r i) rfl ?_
          refine Tr.pic (w' := trX E ad 0 V X P L O S W ch mo z G K bs br rg lr (D 0) (D 1) (D 2) (D 3) (D 4)) rfl ?_
          refine Tr.icmp_leL (tgt := 76) dX6_isRest_71 (by decide) (Eq.refl 74) (fun h71 => ?_) (fun h71 => ?_)
          · refine Tr.iincN dX6_isRest_76 rfl rfl rfl (Eq.refl 79) ?_
            refine Tr.goto (pc' := 35) dX6_isRest_79 (by decide) ?_
            exact ih2 (by have h9 := h71; simp; first | exact h9 | omega | exact Int32.not_lt.mp h9)
          · refine Tr.iconst (v := nI 0) dX6_isRest_74 (icN 0) (Eq.refl 75) ?_
            refine Tr.iret dX6_isRest_75 rfl (by first | rfl | exact bI_nar _) ?_ ?_
            · rw [hf2 (by have h9 := h71; simp; first | exact h9 | exact Int32.not_le.mp h9)]; rfl
            · rfl
/-- rests by rows: found, chosen, wishes -/
def fsF (V : Vil) (t : Nat) (G : Nat → Int64) (mo K : Nat → Nat) (k : Int32) : Nat → Nat → Nat → (Nat → Nat) → Nat → (Nat → Nat) → Nat × (Nat → Nat) × (Nat → Nat)
  | 0, _, _, ch, f, W => (f, ch, W)
  | n + 1, r, c, ch, f, W => if c < 5 then (if rsB G ch mo K r (npV V) then (if nI (f + 1) = k + nI 1 then (f + 1, ch, wrF V t ch W (npV V)) else fsF V t G mo K k n (r + 1) (gcF mo (npV V) ch).2 (gcF mo (npV V) ch).1 (f + 1) W) else fsF V t G mo K k n (r + 1) (gcF mo (npV V) ch).2 (gcF mo (npV V) ch).1 f W) else (f, ch, W)
set_option maxHeartbeats 4000000 in
set_option maxRecDepth 100000 in
theorem c_findRest_loop (E : EnvT) (ad : Nat → Nat) (V : Vil) (X : Vix) (P : Nat → Nat) (L : Nat → Int32) (O S : Scn) (mo K : Nat → Nat) (G : Nat → Int64) (bs br rg lr : Int32) (D : Nat → Scn) (x : Int32) (hV : Vok V) (hP : Ple P) (hO : Sle V O) (ht : psS O < 2 ^ 30) (hB : Rok mo K (npV V)) : ∀ (n i c : Nat) (ch : Nat → Nat) (f : Nat) (W : Nat → Nat), i + n = 7776 → (∀ k, k < npV V → ch k < mo k) → (c < 5 → rvF K ch (npV V) = i) → Tr (E, mX6_findRest, ad, some (.int (nI (fsF V (psS O) G mo K x n i c ch f W).1)), trX E ad 0 V X P L O S (fsF V (psS O) G mo K x n i c ch f W).2.2 (fsF V (psS O) G mo K x n i c ch f W).2.1 mo (npV V) G K bs br rg lr (D 0) (D 1) (D 2) (D 3) (D 4)) 0 0 15 [some (.ref (ad 0)), some (.int x), some (.int (nI f)), some (.int (cl c)), some (.int (nI i))] [] (trX E ad 0 V X P L O S W ch mo (npV V) G K bs br rg lr (D 0) (D 1) (D 2) (D 3) (D 4)) := by
  intro n
  have v1 := hV.1
  have v2 := hV.2.1
  induction n with
  | zero =>
    intro i c ch f W hi hc hv
    refine Tr.iload dX6_findRest_15 rfl (Eq.refl 17) ?_
    refine Tr.sipush (v := nI 7776) dX6_findRest_17 (by decide +kernel) (Eq.refl 20) ?_
    refine Tr.icmp_geN (tgt := 67) dX6_findRest_20 (by decide) (Eq.refl 23) (by omega) (by omega) (fun h20 => ?_) (fun h20 => ?_)
    · refine Tr.iload_n (i := 2) dX6_findRest_67 rfl rfl (Eq.refl 68) ?_
      refine Tr.iret dX6_findRest_68 rfl (by first | rfl | exact bI_nar _) ?_ ?_
      · rfl
      · rfl
    · exact absurd h20 (by omega)
  | succ n ih =>
    intro i c ch f W hi hc hv
    have hc9 : ∀ k, k < npV V → ch k < 100 := fun k hk => Nat.lt_of_lt_of_le (hc k hk) (Nat.le_trans (hB.1 k hk).2.1 (by decide))
    have hc2 := gcF_ltm mo (npV V) (fun k hk => (hB.1 k hk).1) (npV V) ch (Nat.le_refl _) hc
    have hst : fsF V (psS O) G mo K x (n + 1) i c ch f W = if c < 5 then (if rsB G ch mo K i (npV V) then (if nI (f + 1) = x + nI 1 then (f + 1, ch, wrF V (psS O) ch W (npV V)) else fsF V (psS O) G mo K x n (i + 1) (gcF mo (npV V) ch).2 (gcF mo (npV V) ch).1 (f + 1) W) else fsF V (psS O) G mo K x n (i + 1) (gcF mo (npV V) ch).2 (gcF mo (npV V) ch).1 f W) else (f, ch, W) := rfl
    have hK : Tok (V, X, P, L, O, S, W, ch, mo, npV V, G, K, bs, br, rg, lr, D) := ⟨hV, hP, hO, ht⟩
    have hv2 : c < 5 → (gcF mo (npV V) ch).2 < 5 → rvF K (gcF mo (npV V) ch).1 (npV V) = i + 1 := fun h1 h2 => by
      obtain ⟨u, hu⟩ := hB.2
      rw [gcF_val hu (npV V) ch (Nat.le_refl _) hc h2, hv h1, hu.1]
    have ih2 : c < 5 → ∀ f2, Tr _ 0 0 15 [some (.ref (ad 0)), some (.int x), some (.int (nI f2)), some (.int (cl (gcF mo (npV V) ch).2)), some (.int (nI (i + 1)))] [] _ := fun h1 f2 => ih (i + 1) (gcF mo (npV V) ch).2 (gcF mo (npV V) ch).1 f2 W (by omega) hc2 (hv2 h1)
    refine Tr.iload dX6_findRest_15 rfl (Eq.refl 17) ?_
    refine Tr.sipush (v := nI 7776) dX6_findRest_17 (by decide +kernel) (Eq.refl 20) ?_
    refine Tr.icmp_geN (tgt := 67) dX6_findRest_20 (by decide) (Eq.refl 23) (by omega) (by omega) (fun h20 => ?_) (fun h20 => ?_)
    · exact absurd h20 (by omega)
    · refine Tr.iload_n (i := 3) dX6_findRest_23 rfl rfl (Eq.refl 24) ?_
      refine Tr.iconst (v := (-1)) dX6_findRest_24 (by decide +kernel) (Eq.refl 25) ?_
      refine Tr.icmp_eq (tgt := 67) dX6_findRest_25 (by decide) (Eq.refl 28) (fun h25 => ?_) (fun h25 => ?_)
      · rw [cl_none] at h25
        rw [if_neg h25] at hst
        refine Tr.iload_n (i := 2) dX6_findRest_67 rfl rfl (Eq.refl 68) ?_
        refine Tr.iret dX6_findRest_68 rfl (by first | rfl | exact bI_nar _) ?_ ?_
        · rw [hst]
        · rw [hst]
      · rw [cl_none] at h25
        rw [if_pos (by omega)] at hst
        refine Tr.aload_n (i := 0) dX6_findRest_28 rfl rfl (Eq.refl 29) ?_
        refine Tr.iload dX6_findRest_29 rfl (Eq.refl 31) ?_
        refine Tr.callVs (c_isRest E ad (V, X, P, L, O, S, W, ch, mo, npV V, G, K, bs, br, rg, lr, D) i hK (by omega) (fun k hk => ⟨(hB.1 k hk).2.1, (hB.1 k hk).2.2, hc9 k hk, by have h9 : ch k * K k ≤ rvF K ch (npV V) := rvF_at K ch hk; rw [hv (by omega)] at h9; exact h9⟩)) dX6_findRest_31 (kX6_151 (Nat.le_of_ble_eq_true rfl)) iX6_isRest rfl rfl rfl rfl rfl (trXC_le) rfl rfl (Eq.refl 34) ?_
        refine Tr.top (y := bI (rsB G ch mo K i (npV V))) rfl ?_
        refine Tr.pic (w' := trX E ad 0 V X P L O S W ch mo (npV V) G K bs br rg lr (D 0) (D 1) (D 2) (D 3) (D 4)) rfl ?_
        refine Tr.if_eqB (tgt := 53) dX6_findRest_34 (by decide) (Eq.refl 37) (fun h34 => ?_) (fun h34 => ?_)
        · rw [if_neg (by rw [h34]; decide)] at hst
          rw [hst]
          refine Tr.aload_n (i := 0) dX6_findRest_53 rfl rfl (Eq.refl 54) ?_
          refine Tr.getf dX6_findRest_54 fX6_46 rfl rfl (Eq.refl 57) ?_
          refine Tr.callV (L := [31, 32, 33]) (c_chGoOn E _ ch mo (npV V) v2 (fun k hk => ⟨hc9 k hk, Nat.lt_of_le_of_lt (hB.1 k hk).2.1 (by decide)⟩)) dX6_findRest_57 (kX6_113 (Nat.le_of_ble_eq_true rfl)) iX0_goOn rfl rfl rfl rfl rfl rfl rfl rfl rfl rfl (Eq.refl 60) ?_
          refine Tr.pic (w' := trX E ad 0 V X P L O S W (gcF mo (npV V) ch).1 mo (npV V) G K bs br rg lr (D 0) (D 1) (D 2) (D 3) (D 4)) (putB_eq (Lc := [0, 1, 2, 3, 4, 5, 6, 7, 8, 9, 10, 11, 12, 13, 14, 15, 16, 17, 18, 19, 20, 21, 22, 23, 24, 25, 26, 27, 28, 29, 30, 34, 35, 36, 37, 38, 39, 40, 41, 42, 43, 44, 45, 46, 47, 48, 49, 50, 51, 52, 53, 54, 55, 56, 57, 58, 59, 60, 61, 62, 63, 64, 65, 66, 67, 68, 69, 70]) 71 rfl rfl rfl rfl ⟨⟨_, rfl, rfl⟩, ⟨_, rfl, rfl⟩, ⟨_, rfl, rfl⟩, ⟨_, rfl, rfl⟩, ⟨_, rfl, rfl⟩, ⟨_, rfl, rfl⟩, ⟨_, rfl, rfl⟩, ⟨_, rfl, rfl⟩, ⟨_, rfl, rfl⟩, ⟨_, rfl, rfl⟩, ⟨_, rfl, rfl⟩, ⟨_, rfl, rfl⟩, ⟨_, rfl, rfl⟩, ⟨_, rfl, rfl⟩, ⟨_, rfl, rfl⟩, ⟨_, rfl, rfl⟩, ⟨_, rfl, rfl⟩, ⟨_, rfl, rfl⟩, ⟨_, rfl, rfl⟩, ⟨_, rfl, rfl⟩, ⟨_, rfl, rfl⟩, ⟨_, rfl, rfl⟩, ⟨_, rfl, rfl⟩, ⟨_, rfl, rfl⟩, ⟨_, rfl, rfl⟩, ⟨_, rfl, rfl⟩, ⟨_, rfl, rfl⟩, ⟨_, rfl, rfl⟩, ⟨_, rfl, rfl⟩, ⟨_, rfl, rfl⟩, ⟨_, rfl, rfl⟩, ⟨_, rfl, rfl⟩, ⟨_, rfl, rfl⟩, ⟨_, rfl, rfl⟩, ⟨_, rfl, rfl⟩, ⟨_, rfl, rfl⟩, ⟨_, rfl, rfl⟩, ⟨_, rfl, rfl⟩, ⟨_, rfl, rfl⟩, ⟨_, rfl, rfl⟩, ⟨_, rfl, rfl⟩, ⟨_, rfl, rfl⟩, ⟨_, rfl, rfl⟩, ⟨_, rfl, rfl⟩, ⟨_, rfl, rfl⟩, ⟨_, rfl, rfl⟩, ⟨_, rfl, rfl⟩, ⟨_, rfl, rfl⟩, ⟨_, rfl, rfl⟩, ⟨_, rfl, rfl⟩, ⟨_, rfl, rfl⟩, ⟨_, rfl, rfl⟩, ⟨_, rfl, rfl⟩, ⟨_, rfl, rfl⟩, ⟨_, rfl, rfl⟩, ⟨_, rfl, rfl⟩, ⟨_, rfl, rfl⟩, ⟨_, rfl, rfl⟩, ⟨_, rfl, rfl⟩, ⟨_, rfl, rfl⟩, ⟨_, rfl, rfl⟩, ⟨_, rfl, rfl⟩, ⟨_, rfl, rfl⟩, ⟨_, rfl, rfl⟩, ⟨_, rfl, rfl⟩, ⟨_, rfl, rfl⟩, ⟨_, rfl, rfl⟩, ⟨_, rfl, rfl⟩, trivial⟩ (by decide) rfl) ?_
          refine Tr.istore_n (i := 3) dX6_findRest_60 rfl rfl rfl (Eq.refl 61) ?_
          refine Tr.iincN dX6_findRest_61 rfl rfl rfl (Eq.refl 64) ?_
          refine Tr.goto (pc' := 15) dX6_findRest_64 (by decide) ?_
          exact Tr.eqs rfl rfl rfl (ih2 (by omega) _)
        · rw [if_pos h34] at hst
          refine Tr.iincN dX6_findRest_37 rfl rfl rfl (Eq.refl 40) ?_
          refine Tr.iload_n (i := 2) dX6_findRest_40 rfl rfl (Eq.refl 41) ?_
          refine Tr.iload_n (i := 1) dX6_findRest_41 rfl rfl (Eq.refl 42) ?_
          refine Tr.iconst (v := nI 1) dX6_findRest_42 (icN 1) (Eq.refl 43) ?_
          refine Tr.iadd dX6_findRest_43 (Eq.refl 44) ?_
          refine Tr.icmp_ne (tgt := 53) dX6_findRest_44 (by decide) (Eq.refl 47) (fun h44 => ?_) (fun h44 => ?_)
          · rw [if_neg h44] at hst
            rw [hst]
            refine Tr.aload_n (i := 0) dX6_findRest_53 rfl rfl (Eq.refl 54) ?_
            refine Tr.getf dX6_findRest_54 fX6_46 rfl rfl (Eq.refl 57) ?_
            refine Tr.callV (L := [31, 32, 33]) (c_chGoOn E _ ch mo (npV V) v2 (fun k hk => ⟨hc9 k hk, Nat.lt_of_le_of_lt (hB.1 k hk).2.1 (by decide)⟩)) dX6_findRest_57 (kX6_113 (Nat.le_of_ble_eq_true rfl)) iX0_goOn rfl rfl rfl rfl rfl rfl rfl rfl rfl rfl (Eq.refl 60) ?_
            refine Tr.pic (w' := trX E ad 0 V X P L O S W (gcF mo (npV V) ch).1 mo (npV V) G K bs br rg lr (D 0) (D 1) (D 2) (D 3) (D 4)) (putB_eq (Lc := [0, 1, 2, 3, 4, 5, 6, 7, 8, 9, 10, 11, 12, 13, 14, 15, 16, 17, 18, 19, 20, 21, 22, 23, 24, 25, 26, 27, 28, 29, 30, 34, 35, 36, 37, 38, 39, 40, 41, 42, 43, 44, 45, 46, 47, 48, 49, 50, 51, 52, 53, 54, 55, 56, 57, 58, 59, 60, 61, 62, 63, 64, 65, 66, 67, 68, 69, 70]) 71 rfl rfl rfl rfl ⟨⟨_, rfl, rfl⟩, ⟨_, rfl, rfl⟩, ⟨_, rfl, rfl⟩, ⟨_, rfl, rfl⟩, ⟨_, rfl, rfl⟩, ⟨_, rfl, rfl⟩, ⟨_, rfl, rfl⟩, ⟨_, rfl, rfl⟩, ⟨_, rfl, rfl⟩, ⟨_, rfl, rfl⟩, ⟨_, rfl, rfl⟩, ⟨_, rfl, rfl⟩, ⟨_, rfl, rfl⟩, ⟨_, rfl, rfl⟩, ⟨_, rfl, rfl⟩, ⟨_, rfl, rfl⟩, ⟨_, rfl, rfl⟩, ⟨_, rfl, rfl⟩, ⟨_, rfl, rfl⟩, ⟨_, rfl, rfl⟩, ⟨_, rfl, rfl⟩, ⟨_, rfl, rfl⟩, ⟨_, rfl, rfl⟩, ⟨_, rfl, rfl⟩, ⟨_, rfl, rfl⟩, ⟨_, rfl, rfl⟩, ⟨_, rfl, rfl⟩, ⟨_, rfl, rfl⟩, ⟨_, rfl, rfl⟩, ⟨_, rfl, rfl⟩, ⟨_, rfl, rfl⟩, ⟨_, rfl, rfl⟩, ⟨_, rfl, rfl⟩, ⟨_, rfl, rfl⟩, ⟨_, rfl, rfl⟩, ⟨_, rfl, rfl⟩, ⟨_, rfl, rfl⟩, ⟨_, rfl, rfl⟩, ⟨_, rfl, rfl⟩, ⟨_, rfl, rfl⟩, ⟨_, rfl, rfl⟩, ⟨_, rfl, rfl⟩, ⟨_, rfl, rfl⟩, ⟨_, rfl, rfl⟩, ⟨_, rfl, rfl⟩, ⟨_, rfl, rfl⟩, ⟨_, rfl, rfl⟩, ⟨_, rfl, rfl⟩, ⟨_, rfl, rfl⟩, ⟨_, rfl, rfl⟩, ⟨_, rfl, rfl⟩, ⟨_, rfl, rfl⟩, ⟨_, rfl, rfl⟩, ⟨_, rfl, rfl⟩, ⟨_, rfl, rfl⟩, ⟨_, rfl, rfl⟩, ⟨_, rfl, rfl⟩, ⟨_, rfl, rfl⟩, ⟨_, rfl, rfl⟩, ⟨_, rfl, rfl⟩, ⟨_, rfl, rfl⟩, ⟨_, rfl, rfl⟩, ⟨_, rfl, rfl⟩, ⟨_, rfl, rfl⟩, ⟨_, rfl, rfl⟩, ⟨_, rfl, rfl⟩, ⟨_, rfl, rfl⟩, ⟨_, rfl, rfl⟩, trivial⟩ (by decide) rfl) ?_
            refine Tr.istore_n (i := 3) dX6_findRest_60 rfl rfl rfl (Eq.refl 61) ?_
            refine Tr.iincN dX6_findRest_61 rfl rfl rfl (Eq.refl 64) ?_
            refine Tr.goto (pc' := 15) dX6_findRest_64 (by decide) ?_
            exact Tr.eqs rfl rfl rfl (ih2 (by omega) _)
          · rw [if_pos h44] at hst
            rw [hst]
            refine Tr.aload_n (i := 0) dX6_findRest_47 rfl rfl (Eq.refl 48) ?_
            refine Tr.callVs (c_wishRow E ad (V, X, P, L, O, S, W, ch, mo, npV V, G, K, bs, br, rg, lr, D) hK hc9) dX6_findRest_48 (kX6_155 (Nat.le_of_ble_eq_true rfl)) iX6_wishRow rfl rfl rfl rfl rfl (trXC_le) rfl rfl (Eq.refl 51) ?_
            refine Tr.iload_n (i := 2) dX6_findRest_51 rfl rfl (Eq.refl 52) ?_
            refine Tr.iret dX6_findRest_52 rfl (by first | rfl | exact bI_nar _) ?_ ?_
            · rfl
            · rfl
/-- findRest's answer, chosen, wishes -/
def rtF (N : Nat) (T : Tst) (x : Int32) : Nat × (Nat → Nat) × (Nat → Nat) := fsF (vT T) (psS (oT T)) (gT (fgT N T)) (bgR (fgT N T)).1 (bgR (fgT N T)).2.1 x N 0 0 (pre (fun _ => 0) (cT (fgT N T)) (npV (vT T))) 0 (wT (fgT N T))
def rtT (N : Nat) (T : Tst) (x : Int32) : Tst := (vT T, xT T, pT T, lT T, oT T, sT (fgT N T), (rtF N T x).2.2, (rtF N T x).2.1, (bgR (fgT N T)).1, npV (vT T), gT (fgT N T), (bgR (fgT N T)).2.1, bsT T, brT T, rgT T, lrT T, dT T)
set_option maxHeartbeats 4000000 in
set_option maxRecDepth 100000 in
theorem c_findRest (E : EnvT) (ad : Nat → Nat) (N : Nat) (hN : N = 7776) (T : Tst) (x : Int32) (hT : Tok T) : Md E mX6_findRest ad [.ref (ad 0), .int x] (trC E ad 0 T) (some (.int (nI (rtF N T x).1))) (trC E ad 0 (rtT N T x)) := by
  obtain ⟨V, X, P, L, O, S, W, ch, mo, z, G, K, bs, br, rg, lr, D⟩ := T
  have hV : Vok V := hT.1
  have hP : Ple P := hT.2.1
  have hO : Sle V O := hT.2.2.1
  have ht : psS O < 2 ^ 30 := hT.2.2.2
  have v2 := hV.2.1
  have hF := c_fillGains E ad N hN (V, X, P, L, O, S, W, ch, mo, z, G, K, bs, br, rg, lr, D) hT
  have hT2 : Tok (fgT N (V, X, P, L, O, S, W, ch, mo, z, G, K, bs, br, rg, lr, D)) := hT
  have hB := c_beginRows E ad (fgT N (V, X, P, L, O, S, W, ch, mo, z, G, K, bs, br, rg, lr, D)) hT2
  have hbg : trC E ad 0 (bgT (fgT N (V, X, P, L, O, S, W, ch, mo, z, G, K, bs, br, rg, lr, D))) = trX E ad 0 V X P L O (sT (fgT N (V, X, P, L, O, S, W, ch, mo, z, G, K, bs, br, rg, lr, D))) (wT (fgT N (V, X, P, L, O, S, W, ch, mo, z, G, K, bs, br, rg, lr, D))) (pre (fun _ => 0) (cT (fgT N (V, X, P, L, O, S, W, ch, mo, z, G, K, bs, br, rg, lr, D))) (npV V)) (bgR (fgT N (V, X, P, L, O, S, W, ch, mo, z, G, K, bs, br, rg, lr, D))).1 (npV V) (gT (fgT N (V, X, P, L, O, S, W, ch, mo, z, G, K, bs, br, rg, lr, D))) (bgR (fgT N (V, X, P, L, O, S, W, ch, mo, z, G, K, bs, br, rg, lr, D))).2.1 bs br rg lr (D 0) (D 1) (D 2) (D 3) (D 4) := rfl
  rw [hbg] at hB
  clear hbg
  have hR : Rok (bgR (fgT N (V, X, P, L, O, S, W, ch, mo, z, G, K, bs, br, rg, lr, D))).1 (bgR (fgT N (V, X, P, L, O, S, W, ch, mo, z, G, K, bs, br, rg, lr, D))).2.1 (npV V) := bg_ok (psS O) (mT (fgT N (V, X, P, L, O, S, W, ch, mo, z, G, K, bs, br, rg, lr, D))) (kT (fgT N (V, X, P, L, O, S, W, ch, mo, z, G, K, bs, br, rg, lr, D))) hV
  have hL := c_findRest_loop E ad V X P L O (sT (fgT N (V, X, P, L, O, S, W, ch, mo, z, G, K, bs, br, rg, lr, D))) (bgR (fgT N (V, X, P, L, O, S, W, ch, mo, z, G, K, bs, br, rg, lr, D))).1 (bgR (fgT N (V, X, P, L, O, S, W, ch, mo, z, G, K, bs, br, rg, lr, D))).2.1 (gT (fgT N (V, X, P, L, O, S, W, ch, mo, z, G, K, bs, br, rg, lr, D))) bs br rg lr D x hV hP hO ht hR N 0 0 (pre (fun _ => 0) (cT (fgT N (V, X, P, L, O, S, W, ch, mo, z, G, K, bs, br, rg, lr, D))) (npV V)) 0 (wT (fgT N (V, X, P, L, O, S, W, ch, mo, z, G, K, bs, br, rg, lr, D))) (by omega) (fun k hk => by rw [pre_n hk]; exact (hR.1 k hk).1) (fun _ => rvF_zero _ (fun k hk => pre_n hk))
  have hQ : rtF N (V, X, P, L, O, S, W, ch, mo, z, G, K, bs, br, rg, lr, D) x = fsF V (psS O) (gT (fgT N (V, X, P, L, O, S, W, ch, mo, z, G, K, bs, br, rg, lr, D))) (bgR (fgT N (V, X, P, L, O, S, W, ch, mo, z, G, K, bs, br, rg, lr, D))).1 (bgR (fgT N (V, X, P, L, O, S, W, ch, mo, z, G, K, bs, br, rg, lr, D))).2.1 x N 0 0 (pre (fun _ => 0) (cT (fgT N (V, X, P, L, O, S, W, ch, mo, z, G, K, bs, br, rg, lr, D))) (npV V)) 0 (wT (fgT N (V, X, P, L, O, S, W, ch, mo, z, G, K, bs, br, rg, lr, D))) := rfl
  rw [← hQ] at hL
  clear hQ
  show Md E _ ad _ (trC E ad 0 (V, X, P, L, O, S, W, ch, mo, z, G, K, bs, br, rg, lr, D)) (some (.int (nI (rtF N (V, X, P, L, O, S, W, ch, mo, z, G, K, bs, br, rg, lr, D) x).1))) (trX E ad 0 V X P L O (sT (fgT N (V, X, P, L, O, S, W, ch, mo, z, G, K, bs, br, rg, lr, D))) (rtF N (V, X, P, L, O, S, W, ch, mo, z, G, K, bs, br, rg, lr, D) x).2.2 (rtF N (V, X, P, L, O, S, W, ch, mo, z, G, K, bs, br, rg, lr, D) x).2.1 (bgR (fgT N (V, X, P, L, O, S, W, ch, mo, z, G, K, bs, br, rg, lr, D))).1 (npV V) (gT (fgT N (V, X, P, L, O, S, W, ch, mo, z, G, K, bs, br, rg, lr, D))) (bgR (fgT N (V, X, P, L, O, S, W, ch, mo, z, G, K, bs, br, rg, lr, D))).2.1 bs br rg lr (D 0) (D 1) (D 2) (D 3) (D 4))
  generalize rtF N (V, X, P, L, O, S, W, ch, mo, z, G, K, bs, br, rg, lr, D) x = r at *
  generalize (bgR (fgT N (V, X, P, L, O, S, W, ch, mo, z, G, K, bs, br, rg, lr, D))) = b at *
  generalize fgT N (V, X, P, L, O, S, W, ch, mo, z, G, K, bs, br, rg, lr, D) = T2 at *
  refine Md.of 3 (by decide) rfl rfl ?_
  refine Tr.aload_n (i := 0) dX6_findRest_0 rfl rfl (Eq.refl 1) ?_
  refine Tr.callVs (hF) dX6_findRest_1 (kX6_145 (Nat.le_of_ble_eq_true rfl)) iX6_fillGains rfl rfl rfl rfl rfl (trC_le _ _ _ _ _) rfl rfl (Eq.refl 4) ?_
  refine Tr.aload_n (i := 0) dX6_findRest_4 rfl rfl (Eq.refl 5) ?_
  refine Tr.callVs (hB) dX6_findRest_5 (kX6_148 (Nat.le_of_ble_eq_true rfl)) iX6_beginRows rfl rfl rfl rfl rfl (trCX_le) rfl rfl (Eq.refl 8) ?_
  refine Tr.iconst (v := nI 0) dX6_findRest_8 (icN 0) (Eq.refl 9) ?_
  refine Tr.istore_n (i := 2) dX6_findRest_9 rfl rfl rfl (Eq.refl 10) ?_
  refine Tr.iconst (v := nI 0) dX6_findRest_10 (icN 0) (Eq.refl 11) ?_
  refine Tr.istore_n (i := 3) dX6_findRest_11 rfl rfl rfl (Eq.refl 12) ?_
  refine Tr.iconst (v := nI 0) dX6_findRest_12 (icN 0) (Eq.refl 13) ?_
  refine Tr.istore dX6_findRest_13 rfl rfl (Eq.refl 15) ?_
  exact Tr.eqs rfl rfl rfl hL
