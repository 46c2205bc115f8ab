/-! Trial: findBest -/
theorem c_passOfDay (E : EnvT) (ad : Nat → Nat) (T : Tst) (k p : Nat) (hk : k < 4) (hV : Vok (vT T)) (hP : Ple (pT T)) (hp : p < npV (vT T)) (hS : Sle (vT T) (dT T k)) (ht : psS (dT T k) < 2 ^ 31) (hc : cT T k < 2 ^ 31) : Md E mX6_passOfDay ad [.ref (ad 0), .int (nI k), .int (nI p)] (trC E ad 0 T) none (trC E ad 0 (pdT T k p)) := by
  rcases (show k = 0 ∨ k = 1 ∨ k = 2 ∨ k = 3 by omega) with rfl | rfl | rfl | rfl
  · exact c_passOfDay_0 E ad T p hV hP hp hS ht hc
  · exact c_passOfDay_1 E ad T p hV hP hp hS ht hc
  · exact c_passOfDay_2 E ad T p hV hP hp hS ht hc
  · exact c_passOfDay_3 E ad T p hV hP hp hS ht hc
/-- the quarters of a day from c on, so many -/
def dyF (T : Tst) (p c : Nat) : Nat → Tst
  | 0 => T
  | n + 1 => pdT (dyF T p c n) (c + n) p
/-- the day's k-th scene can be -/
def DV (T : Tst) (k : Nat) : Prop := Sle (vT T) (dT T k) ∧ psS (dT T k) = psS (oT T) + k
theorem dyF_same (T : Tst) (p c : Nat) : ∀ n, vT (dyF T p c n) = vT T ∧ xT (dyF T p c n) = xT T ∧ pT (dyF T p c n) = pT T ∧ lT (dyF T p c n) = lT T ∧ oT (dyF T p c n) = oT T ∧ sT (dyF T p c n) = sT T ∧ cT (dyF T p c n) = cT T ∧ mT (dyF T p c n) = mT T ∧ zT (dyF T p c n) = zT T ∧ bsT (dyF T p c n) = bsT T ∧ brT (dyF T p c n) = brT T := by
  intro n
  induction n with
  | zero => exact ⟨rfl, rfl, rfl, rfl, rfl, rfl, rfl, rfl, rfl, rfl, rfl⟩
  | succ n ih => exact ih
theorem dyF_DV {T : Tst} {p c : Nat} (hV : Vok (vT T)) (hP : Ple (pT T)) (h : ∀ k, k ≤ c → DV T k) : ∀ n, ∀ k, k ≤ c + n → DV (dyF T p c n) k := by
  intro n
  induction n with
  | zero => intro k hk; exact h k hk
  | succ n ih =>
    intro k hk
    obtain ⟨e1, e2, e3, e4, e5, -⟩ := dyF_same T p c n
    show DV (pdT (dyF T p c n) (c + n) p) k
    by_cases hk2 : k = c + n + 1
    · have h0 := ih (c + n) (Nat.le_refl _)
      subst hk2
      have hd : dT (pdT (dyF T p c n) (c + n) p) (c + n + 1) = gon (vT (dyF T p c n)) (lT (dyF T p c n)) (pdW (vT (dyF T p c n)) (pT (dyF T p c n)) (cT (dyF T p c n)) (wT (dyF T p c n)) (psS (dT (dyF T p c n) (c + n))) (c + n) p) (dT (dyF T p c n) (c + n)) := if_pos rfl
      refine ⟨?_, ?_⟩
      · rw [hd]
        show Sle (vT (dyF T p c n)) _
        exact gon_le h0.1 (pdW_le (by rw [e1]; exact hV) (by rw [e3]; exact hP))
      · rw [hd, gon_ps, h0.2]
        show _ = psS (oT (dyF T p c n)) + _
        omega
    · have hd : dT (pdT (dyF T p c n) (c + n) p) k = dT (dyF T p c n) k := if_neg hk2
      have h0 := ih k (by omega)
      exact ⟨by rw [hd]; exact h0.1, by rw [hd]; exact h0.2⟩
theorem gcF_lt (mo : Nat → Nat) : ∀ (n : Nat) (ch : Nat → Nat), (∀ k, k < n → mo k < 100) → (∀ k, ch k < 100) ∨ True → ∀ (N : Nat), (∀ k, k < N → ch k < 100) → n ≤ N → (∀ k, k < N → (gcF mo n ch).1 k < 100) ∧ ((gcF mo n ch).2 < n ∨ (gcF mo n ch).2 = 5) := by
  intro n
  induction n with
  | zero => intro ch _ _ N hN _; exact ⟨hN, Or.inr rfl⟩
  | succ n ih =>
    intro ch hm _ N hN hle
    unfold gcF
    split
    · refine ⟨fun k hk => ?_, Or.inl (Nat.lt_succ_self n)⟩
      have h9 := hm n (Nat.lt_succ_self n)
      by_cases h : k = n
      · subst h; show upN ch k _ k < 100; rw [upN_self]; omega
      · show upN ch n _ k < 100; rw [upN_ne _ _ h]; exact hN k hk
    · have := ih (upN ch n 0) (fun k hk => hm k (by omega)) (Or.inr trivial) N (fun k hk => by
        by_cases h : k = n
        · subst h; rw [upN_self]; omega
        · rw [upN_ne _ _ h]; exact hN k hk) (by omega)
      exact ⟨this.1, by omega⟩
/-- rows of plans, one by one -/
def fbF (p : Nat) : Nat → Tst → Nat → Tst
  | 0, T, _ => T
  | n + 1, T, c => if c = 5 then T else fbF p n (uC (jdT (dyF T p c (4 - c)) p) (gcF (mT T) (zT T) (cT T)).1) (gcF (mT T) (zT T) (cT T)).2
/-- what holds between two rows -/
def FI (T : Tst) (p c : Nat) : Prop := Vok (vT T) ∧ Ple (pT T) ∧ p < npV (vT T) ∧ psS (oT T) < 2 ^ 30 ∧ zT T = 4 ∧ (∀ k, k < 4 → cT T k < 100 ∧ mT T k < 100) ∧ (c = 5 ∨ c < 4) ∧ ∀ k, k ≤ c → k ≤ 4 → DV T k
theorem jdT_same (T : Tst) (p : Nat) : vT (jdT T p) = vT T ∧ xT (jdT T p) = xT T ∧ pT (jdT T p) = pT T ∧ lT (jdT T p) = lT T ∧ oT (jdT T p) = oT T ∧ sT (jdT T p) = sT T ∧ cT (jdT T p) = cT T ∧ mT (jdT T p) = mT T ∧ zT (jdT T p) = zT T ∧ dT (jdT T p) = dT T := by
  unfold jdT
  split <;> exact ⟨rfl, rfl, rfl, rfl, rfl, rfl, rfl, rfl, rfl, rfl⟩
theorem FI_next {T : Tst} {p c : Nat} (h : FI T p c) (hc : ¬ c = 5) : FI (uC (jdT (dyF T p c (4 - c)) p) (gcF (mT T) (zT T) (cT T)).1) p (gcF (mT T) (zT T) (cT T)).2 := by
  obtain ⟨h1, h2, h3, h4, h5, h6, h7, h8⟩ := h
  obtain ⟨e1, e2, e3, e4, e5, e6, e7, e8, e9, -, -⟩ := dyF_same T p c (4 - c)
  obtain ⟨j1, j2, j3, j4, j5, j6, j7, j8, j9, j10⟩ := jdT_same (dyF T p c (4 - c)) p
  have hd := dyF_DV (p := p) h1 h2 (fun k hk => h8 k hk (by omega)) (4 - c)
  obtain ⟨g1, g2⟩ := gcF_lt (mT T) 4 (cT T) (fun k hk => (h6 k hk).2) (Or.inr trivial) 4 (fun k hk => (h6 k hk).1) (Nat.le_refl 4)
  have k1 := j1.trans e1
  have k3 := j3.trans e3
  have k5 := j5.trans e5
  have k8 := j8.trans e8
  have k9 := j9.trans e9
  have kd : ∀ k, k ≤ 4 → Sle (vT T) (dT (jdT (dyF T p c (4 - c)) p) k) ∧ psS (dT (jdT (dyF T p c (4 - c)) p) k) = psS (oT T) + k := by
    intro k hk
    have hx := hd k (by omega)
    rw [j10]
    exact ⟨e1 ▸ hx.1, by rw [hx.2, e5]⟩
  clear hd j1 j2 j3 j4 j5 j6 j7 j8 j9 j10 e1 e2 e3 e4 e5 e6 e7 e8 e9
  generalize jdT (dyF T p c (4 - c)) p = J at *
  rw [h5]
  generalize gcF (mT T) 4 (cT T) = q at *
  refine ⟨?_, ?_, ?_, ?_, ?_, ?_, ?_, ?_⟩
  · show Vok (vT J); rw [k1]; exact h1
  · show Ple (pT J); rw [k3]; exact h2
  · show p < npV (vT J); rw [k1]; exact h3
  · show psS (oT J) < _; rw [k5]; exact h4
  · show zT J = 4; rw [k9]; exact h5
  · intro k hk
    refine ⟨g1 k hk, ?_⟩
    show mT J k < 100; rw [k8]; exact (h6 k hk).2
  · omega
  · intro k hk hk4
    obtain ⟨x1, x2⟩ := kd k hk4
    refine ⟨?_, ?_⟩
    · show Sle (vT J) (dT J k); rw [k1]; exact x1
    · show psS (dT J k) = psS (oT J) + k; rw [k5]; exact x2
set_option maxHeartbeats 4000000 in
set_option maxRecDepth 100000 in
theorem c_findBest_loop (E : EnvT) (ad : Nat → Nat) (p : Nat) : ∀ (n i : Nat) (T : Tst) (c : Nat), i + n = 7776 → FI T p c → Tr (E, mX6_findBest, ad, none, trC E ad 0 (fbF p n T c)) 0 0 45 [some (.ref (ad 0)), some (.int (nI p)), some (.int (cl c)), some (.int (nI i)), none] [] (trC E ad 0 T) := by
  intro n
  induction n with
  | zero =>
    intro i T c hi hF
    refine Tr.iload_n (i := 3) dX6_findBest_45 rfl rfl (Eq.refl 46) ?_
    refine Tr.sipush (v := nI 7776) dX6_findBest_46 (by decide +kernel) (Eq.refl 49) ?_
    refine Tr.icmp_geN (tgt := 98) dX6_findBest_49 (by decide) (Eq.refl 52) (by omega) (by omega) (fun h49 => ?_) (fun h49 => ?_)
    · refine Tr.ret dX6_findBest_98 rfl rfl ?_
      · rfl
    · exact absurd h49 (by omega)
  | succ n ih =>
    intro i T c hi hF
    obtain ⟨f1, f2, f3, f4, f5, f6, f7, f8⟩ := id hF
    have v2 := f1.2.1
    refine Tr.iload_n (i := 3) dX6_findBest_45 rfl rfl (Eq.refl 46) ?_
    refine Tr.sipush (v := nI 7776) dX6_findBest_46 (by decide +kernel) (Eq.refl 49) ?_
    refine Tr.icmp_geN (tgt := 98) dX6_findBest_49 (by decide) (Eq.refl 52) (by omega) (by omega) (fun h49 => ?_) (fun h49 => ?_)
    · exact absurd h49 (by omega)
    · refine Tr.iload_n (i := 2) dX6_findBest_52 rfl rfl (Eq.refl 53) ?_
      refine Tr.iconst (v := (-1)) dX6_findBest_53 (by decide +kernel) (Eq.refl 54) ?_
      refine Tr.icmp_eq (tgt := 98) dX6_findBest_54 (by decide) (Eq.refl 57) (fun h54 => ?_) (fun h54 => ?_)
      · have h54 : c = 5 := by rw [cl_none] at h54; omega
        refine Tr.ret dX6_findBest_98 rfl rfl ?_
        · rw [show fbF p (n + 1) T c = T from by rw [fbF, if_pos h54]]
      · have h54 : ¬ c = 5 := by rw [cl_none] at h54; omega
        rw [cl_lt (show c < 5 by omega)]
        refine Tr.iload_n (i := 2) dX6_findBest_57 rfl rfl (Eq.refl 58) ?_
        refine Tr.istore dX6_findBest_58 rfl rfl (Eq.refl 60) ?_
        refine Tr.mask [true, true, false, true, true] (lv' := [some (.ref (ad 0)), some (.int (nI p)), none, some (.int (nI i)), some (.int (nI (c + 0)))]) rfl ?_
        refine loopD (P := fun j => Tr _ 0 0 60 [some (.ref (ad 0)), some (.int (nI p)), none, some (.int (nI i)), some (.int (nI (c + j)))] [] (trC E ad 0 (dyF T p c j))) (4 - c) ?_ (fun j hj ih2 => ?_)
        · obtain ⟨e1, e2, e3, e4, e5, e6, e7, e8, e9, -, -⟩ := dyF_same T p c (4 - c)
          obtain ⟨j1, j2, j3, j4, j5, j6, j7, j8, j9, j10⟩ := jdT_same (dyF T p c (4 - c)) p
          refine Tr.iload dX6_findBest_60 rfl (Eq.refl 62) ?_
          refine Tr.iconst (v := nI 4) dX6_findBest_62 (icN 4) (Eq.refl 63) ?_
          refine Tr.icmp_geN (tgt := 79) dX6_findBest_63 (by decide) (Eq.refl 66) (by omega) (by omega) (fun h63 => ?_) (fun h63 => ?_)
          · refine Tr.aload_n (i := 0) dX6_findBest_79 rfl rfl (Eq.refl 80) ?_
            refine Tr.iload_n (i := 1) dX6_findBest_80 rfl rfl (Eq.refl 81) ?_
            refine Tr.callVs (c_judgeDay E ad (dyF T p c (4 - c)) p (by omega) (by rw [e5]; exact f4)) dX6_findBest_81 (kX6_110 (Nat.le_of_ble_eq_true rfl)) iX6_judgeDay rfl rfl rfl rfl rfl (trC_le _ _ _ _ _) rfl rfl (Eq.refl 84) ?_
            generalize hTj : jdT (dyF T p c (4 - c)) p = Tj at *
            have k1 : cT Tj = cT T := j7.trans e7
            have k2 : mT Tj = mT T := j8.trans e8
            have k3 : zT Tj = zT T := j9.trans e9
            obtain ⟨V, X, P, L, O, S, W, ch, mo, z, G, K, bs, br, rg, lr, D⟩ := Tj
            refine Tr.pic (w' := trX E ad 0 V X P L O S W ch mo z G K bs br rg lr (D 0) (D 1) (D 2) (D 3) (D 4)) rfl ?_
            have k1 : ch = cT T := k1
            have k2 : mo = mT T := k2
            have k3 : z = zT T := k3
            subst k1 k2 k3
            refine Tr.aload_n (i := 0) dX6_findBest_84 rfl rfl (Eq.refl 85) ?_
            refine Tr.getf dX6_findBest_85 fX6_46 rfl rfl (Eq.refl 88) ?_
            refine Tr.callV (L := [31, 32, 33]) (c_chGoOn E _ (cT T) (mT T) (zT T) (by omega) (fun k hk => f6 k (by omega))) dX6_findBest_88 (kX6_113 (Nat.le_of_ble_eq_true rfl)) iX0_goOn rfl rfl rfl rfl rfl rfl rfl rfl rfl rfl (Eq.refl 91) ?_
            refine Tr.pic (w' := trX E ad 0 V X P L O S W (gcF (mT T) (zT T) (cT T)).1 (mT T) (zT T) G K bs br rg lr (D 0) (D 1) (D 2) (D 3) (D 4)) (putB_eq (Lc := [0, 1, 2, 3, 4, 5, 6, 7, 8, 9, 10, 11, 12, 13, 14, 15, 16, 17, 18, 19, 20, 21, 22, 23, 24, 25, 26, 27, 28, 29, 30, 34, 35, 36, 37, 38, 39, 40, 41, 42, 43, 44, 45, 46, 47, 48, 49, 50, 51, 52, 53, 54, 55, 56, 57, 58, 59, 60, 61, 62, 63, 64, 65, 66, 67, 68, 69, 70]) 71 rfl rfl rfl rfl ⟨⟨_, rfl, rfl⟩, ⟨_, rfl, rfl⟩, ⟨_, rfl, rfl⟩, ⟨_, rfl, rfl⟩, ⟨_, rfl, rfl⟩, ⟨_, rfl, rfl⟩, ⟨_, rfl, rfl⟩, ⟨_, rfl, rfl⟩, ⟨_, rfl, rfl⟩, ⟨_, rfl, rfl⟩, ⟨_, rfl, rfl⟩, ⟨_, rfl, rfl⟩, ⟨_, rfl, rfl⟩, ⟨_, rfl, rfl⟩, ⟨_, rfl, rfl⟩, ⟨_, rfl, rfl⟩, ⟨_, rfl, rfl⟩, ⟨_, rfl, rfl⟩, ⟨_, rfl, rfl⟩, ⟨_, rfl, rfl⟩, ⟨_, rfl, rfl⟩, ⟨_, rfl, rfl⟩, ⟨_, rfl, rfl⟩, ⟨_, rfl, rfl⟩, ⟨_, rfl, rfl⟩, ⟨_, rfl, rfl⟩, ⟨_, rfl, rfl⟩, ⟨_, rfl, rfl⟩, ⟨_, rfl, rfl⟩, ⟨_, rfl, rfl⟩, ⟨_, rfl, rfl⟩, ⟨_, rfl, rfl⟩, ⟨_, rfl, rfl⟩, ⟨_, rfl, rfl⟩, ⟨_, rfl, rfl⟩, ⟨_, rfl, rfl⟩, ⟨_, rfl, rfl⟩, ⟨_, rfl, rfl⟩, ⟨_, rfl, rfl⟩, ⟨_, rfl, rfl⟩, ⟨_, rfl, rfl⟩, ⟨_, rfl, rfl⟩, ⟨_, rfl, rfl⟩, ⟨_, rfl, rfl⟩, ⟨_, rfl, rfl⟩, ⟨_, rfl, rfl⟩, ⟨_, rfl, rfl⟩, ⟨_, rfl, rfl⟩, ⟨_, rfl, rfl⟩, ⟨_, rfl, rfl⟩, ⟨_, rfl, rfl⟩, ⟨_, rfl, rfl⟩, ⟨_, rfl, rfl⟩, ⟨_, rfl, rfl⟩, ⟨_, rfl, rfl⟩, ⟨_, rfl, rfl⟩, ⟨_, rfl, rfl⟩, ⟨_, rfl, rfl⟩, ⟨_, rfl, rfl⟩, ⟨_, rfl, rfl⟩, ⟨_, rfl, rfl⟩, ⟨_, rfl, rfl⟩, ⟨_, rfl, rfl⟩, ⟨_, rfl, rfl⟩, ⟨_, rfl, rfl⟩, ⟨_, rfl, rfl⟩, ⟨_, rfl, rfl⟩, ⟨_, rfl, rfl⟩, trivial⟩ (by decide) rfl) ?_
            refine Tr.istore_n (i := 2) dX6_findBest_91 rfl rfl rfl (Eq.refl 92) ?_
            refine Tr.iincN dX6_findBest_92 rfl rfl rfl (Eq.refl 95) ?_
            refine Tr.goto (pc' := 45) dX6_findBest_95 (by decide) ?_
            have hn := FI_next hF h54
            rw [hTj] at hn
            rw [show fbF p (n + 1) T c = fbF p n (uC (V, X, P, L, O, S, W, cT T, mT T, zT T, G, K, bs, br, rg, lr, D) (gcF (mT T) (zT T) (cT T)).1) (gcF (mT T) (zT T) (cT T)).2 from by rw [fbF, if_neg h54, hTj]]
            exact Tr.mask [true, true, true, true, false] rfl (ih (i + 1) (uC (V, X, P, L, O, S, W, cT T, mT T, zT T, G, K, bs, br, rg, lr, D) (gcF (mT T) (zT T) (cT T)).1) (gcF (mT T) (zT T) (cT T)).2 (by omega) hn)
          · exact absurd h63 (by omega)
        · obtain ⟨e1, e2, e3, e4, e5, e6, e7, e8, e9, -, -⟩ := dyF_same T p c j
          have hd := dyF_DV (p := p) f1 f2 (fun k hk => f8 k hk (by omega)) j (c + j) (Nat.le_refl _)
          have h6 := f6 (c + j) (by omega)
          refine Tr.iload dX6_findBest_60 rfl (Eq.refl 62) ?_
          refine Tr.iconst (v := nI 4) dX6_findBest_62 (icN 4) (Eq.refl 63) ?_
          refine Tr.icmp_geN (tgt := 79) dX6_findBest_63 (by decide) (Eq.refl 66) (by omega) (by omega) (fun h63 => ?_) (fun h63 => ?_)
          · exact absurd h63 (by omega)
          · refine Tr.aload_n (i := 0) dX6_findBest_66 rfl rfl (Eq.refl 67) ?_
            refine Tr.iload dX6_findBest_67 rfl (Eq.refl 69) ?_
            refine Tr.iload_n (i := 1) dX6_findBest_69 rfl rfl (Eq.refl 70) ?_
            refine Tr.callVs (c_passOfDay E ad (dyF T p c j) (c + j) p (by omega) (by rw [e1]; exact f1) (by rw [e3]; exact f2) (by rw [e1]; exact f3) hd.1 (by rw [hd.2, e5]; omega) (by rw [e7]; omega)) dX6_findBest_70 (kX6_107 (Nat.le_of_ble_eq_true rfl)) iX6_passOfDay rfl rfl rfl rfl rfl (trC_le _ _ _ _ _) rfl rfl (Eq.refl 73) ?_
            refine Tr.iincN dX6_findBest_73 rfl rfl rfl (Eq.refl 76) ?_
            refine Tr.goto (pc' := 60) dX6_findBest_76 (by decide) ?_
            exact Tr.eqs rfl rfl rfl ih2
