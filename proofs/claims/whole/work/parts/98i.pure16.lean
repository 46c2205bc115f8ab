/-! QUARTERS THAT PASS, WHAT IS TOLD, FEASTS, BYTES -/
theorem sk_eq {V V0 : Vil} {t : Nat} {W W' : Nat → Nat} (hV : Veq V V0) (hW : ∀ p, p < npV V → W p = W' p) (a : Nat) : ∀ n, n ≤ npV V → (skF V t a W n).1 = (skF V0 t a W' n).1 ∧ ∀ p, p < npV V → (skF V t a W n).2 p = (skF V0 t a W' n).2 p := by
  intro n
  induction n with
  | zero => intro _; exact ⟨rfl, hW⟩
  | succ n ih =>
    intro hn
    obtain ⟨i1, i2⟩ := ih (by omega)
    show (skStep V t (skF V t a W n) n).1 = (skStep V0 t (skF V0 t a W' n) n).1 ∧ ∀ p, p < npV V → (skStep V t (skF V t a W n) n).2 p = (skStep V0 t (skF V0 t a W' n) n).2 p
    generalize skF V t a W n = q at *
    generalize skF V0 t a W' n = q' at *
    unfold skStep
    rw [i1, ← hV.1, ← hV.2.2.2.1 5 (by decide), ← wkB_eq hV (show n < npV V by omega)]
    by_cases c : nI (nxS q'.1 / 65536 % 100) < ruV V 5 ∧ wkB V n t = false
    · rw [if_pos c, if_pos c]
      exact ⟨rfl, up_eq i2 rfl⟩
    · rw [if_neg c, if_neg c]
      exact ⟨rfl, i2⟩
theorem fw_eq {V V0 : Vil} {P P' : Nat → Nat} {t : Nat} {W W' : Nat → Nat} (hV : Veq V V0) (hP : ∀ p q, p < npV V → q < 4 → P (p * 4 + q) = P' (p * 4 + q)) : ∀ p, p < npV V → fwF V P t W (npV V) p = fwF V0 P' t W' (npV V0) p := by
  intro p hp
  rw [fwF_at _ _ _ _ _ _ hp, fwF_at _ _ _ _ _ _ (show p < npV V0 by rw [← hV.2.1]; exact hp), wkB_eq hV hp, hP p _ hp (Nat.mod_lt _ (by decide))]
theorem pq_eq {V V0 : Vil} {P P' : Nat → Nat} {t a : Nat} {W W' : Nat → Nat} (hV : Veq V V0) (hP : ∀ p q, p < npV V → q < 4 → P (p * 4 + q) = P' (p * 4 + q)) : (pqF V P t a W).1 = (pqF V0 P' t a W').1 ∧ ∀ p, p < npV V → (pqF V P t a W).2 p = (pqF V0 P' t a W').2 p := by
  unfold pqF
  rw [← hV.2.2.2.1 5 (by decide)]
  by_cases c : nI 0 < ruV V 5
  · rw [if_pos c, if_pos c]
    have h := sk_eq (t := t) hV (fw_eq (t := t) (W := W) (W' := W') hV hP) a (npV V) (Nat.le_refl _)
    rw [hV.2.1] at h ⊢
    exact h
  · rw [if_neg c, if_neg c]
    exact ⟨rfl, fw_eq hV hP⟩
theorem pass_eq {V V0 : Vil} {o : Ovr} {P P' : Nat → Nat} {L L' : Nat → Int32} {S S' : Scn} (hO : Vok V) (hV : Veq V V0) (hVo : Veq V (ovr V0 o)) (hP : ∀ p q, p < npV V → q < 4 → P (p * 4 + q) = P' (p * 4 + q)) (hL : ∀ p, p < npV V → L p = L' p) (hS : Seq V S S') (a : Nat) (W W' : Nat → Nat) (B : Nat → Int32) : ∀ n, Seq V (pcF V P L (S, a, W) n).1 (paF V0 o P' L' (S', a, W', B) n).1 ∧ (pcF V P L (S, a, W) n).2.1 = (paF V0 o P' L' (S', a, W', B) n).2.1 := by
  intro n
  induction n with
  | zero => exact ⟨hS, rfl⟩
  | succ n ih =>
    show Seq V (gon V L (pqF V P (psS (pcF V P L (S, a, W) n).1) (pcF V P L (S, a, W) n).2.1 (pcF V P L (S, a, W) n).2.2).2 (pcF V P L (S, a, W) n).1) (gon (ovr V0 o) L' (pqF V0 P' (psS (paF V0 o P' L' (S', a, W', B) n).1) (paF V0 o P' L' (S', a, W', B) n).2.1 (paF V0 o P' L' (S', a, W', B) n).2.2.1).2 (paF V0 o P' L' (S', a, W', B) n).1) ∧ (pqF V P (psS (pcF V P L (S, a, W) n).1) (pcF V P L (S, a, W) n).2.1 (pcF V P L (S, a, W) n).2.2).1 = (pqF V0 P' (psS (paF V0 o P' L' (S', a, W', B) n).1) (paF V0 o P' L' (S', a, W', B) n).2.1 (paF V0 o P' L' (S', a, W', B) n).2.2.1).1
    generalize pcF V P L (S, a, W) n = q at *
    generalize paF V0 o P' L' (S', a, W', B) n = q' at *
    have h := pq_eq (t := psS q.1) (a := q.2.1) (W := q.2.2) (W' := q'.2.2.1) hV hP
    rw [← ih.1.1, ← ih.2]
    exact ⟨gon_eq hO hVo hL h.2 ih.1, h.1⟩
theorem rgB_i {k a b : Nat} (hk : k < 2 ^ 31) (ha : a < 2 ^ 31) (hb : b < 2 ^ 31) : rgB (nI k) (nI a) (nI b) = decide (a ≤ k ∧ k ≤ b) := by
  unfold rgB
  rw [decide_eq_decide.mpr (nI_lt_iff hk ha), decide_eq_decide.mpr (nI_lt_iff hb hk)]
  by_cases h : a ≤ k ∧ k ≤ b
  · rw [decide_eq_true h, decide_eq_false (by omega), decide_eq_false (by omega)]; rfl
  · rw [decide_eq_false h]
    by_cases h1 : k < a
    · rw [decide_eq_true h1]; rfl
    · rw [decide_eq_false h1, decide_eq_true (by omega)]; rfl
theorem rgB_n0 {x : Int32} {a : Nat} {b : Int32} (ha : a < 2 ^ 31) (h : x < 0) : rgB x (nI a) b = false := by
  unfold rgB
  rw [decide_eq_true (show x < nI a by rw [ltI] at h ⊢; rw [nI_toInt ha]; have : (0 : Int32).toInt = 0 := rfl; omega)]
  rfl
theorem neg_ne {x : Int32} {a : Nat} (ha : a < 2 ^ 31) (h : x < 0) : ¬ x = nI a := fun e => by
  rw [e] at h
  have := (nI_lt_iff (b := 0) ha (by decide)).mp h
  omega
theorem told_eq {V V0 : Vil} {X : Vix} {so st : Nat → Int32} (hO : Vok V) (hV : Veq V V0) (hso : ∀ h, h < nhV V → X.2.2.2.2.1 h = so h) (hst : ∀ h, h < nhV V → X.2.2.2.2.2.1 h = st h) (x : Int32) : toC V X x = toA V0 so st x := by
  obtain ⟨v1, v2, v3, v4, v5, v6, v7, v8, v9⟩ := hV
  by_cases hn : x < 0
  · unfold toC toA
    have r1 : rgB x (nI 2) (nI 7) = false := rgB_n0 (by decide) hn
    have r2 : rgB x (nI 10) (nI 69) = false := rgB_n0 (by decide) hn
    have r3 : rgB x (nI 10) (nI 49) = false := rgB_n0 (by decide) hn
    have r4 : rgB x (nI 50) (nI 69) = false := rgB_n0 (by decide) hn
    have n0 : ¬ x = nI 0 := neg_ne (by decide) hn
    have n1 : ¬ x = nI 1 := neg_ne (by decide) hn
    have n8 : ¬ x = nI 8 := neg_ne (by decide) hn
    simp only [r1, r2, r3, r4, n0, n1, n8, if_false, Bool.false_eq_true]
  · obtain ⟨e1, e2⟩ := nN_e hn
    have hi : ∀ c, c < 2 ^ 31 → (x = nI c ↔ nN x = c) := fun c hc => ⟨fun e => nI_inj e2 hc (e1.symm.trans e), fun e => by rw [e1, e]⟩
    have hr : ∀ a b, a < 2 ^ 31 → b < 2 ^ 31 → rgB x (nI a) (nI b) = decide (a ≤ nN x ∧ nN x ≤ b) := fun a b ha hb => by rw [← rgB_i e2 ha hb, ← e1]
    unfold toC toA thA tpA
    rw [hr 2 7 (by decide) (by decide), hr 10 69 (by decide) (by decide), hr 10 49 (by decide) (by decide), hr 50 69 (by decide) (by decide)]
    simp only [hi 0 (by decide), hi 1 (by decide), hi 8 (by decide), decide_eq_true_eq, ← v1, ← v2, ← v3]
    generalize nN x = k at *
    by_cases k0 : k = 0
    · rw [if_pos k0, if_neg (by omega), if_neg (by omega), if_neg (by omega), if_pos k0]
    · by_cases k1 : k = 1
      · rw [if_neg k0, if_pos k1, if_neg (by omega), if_neg (by omega), if_neg (by omega), if_neg k0, if_pos k1]
      · rw [if_neg k0, if_neg k1]
        by_cases k2 : 2 ≤ k ∧ k ≤ 7
        · rw [if_pos k2, if_pos k2]; exact v4 _ (by omega)
        · rw [if_neg k2, if_neg k2]
          by_cases k8 : k = 8
          · rw [if_pos k8, if_neg (by omega), if_neg (by omega), if_neg k0, if_neg k1, if_pos k8]
          · rw [if_neg k8]
            by_cases k3 : 10 ≤ k ∧ k ≤ 49
            · rw [if_pos (by omega), if_pos (by omega), if_pos k3]
              by_cases h : k % 10 < nhV V
              · rw [if_pos h, if_pos h, hso _ h, hst _ h, v5 _ h, v6 _ h]
                by_cases a1 : k < 20
                · rw [if_pos (show k / 10 = 1 by omega), if_pos a1]
                · by_cases a2 : k < 30
                  · rw [if_neg (show ¬ k / 10 = 1 by omega), if_pos (show k / 10 = 2 by omega), if_neg a1, if_pos a2]
                  · by_cases a3 : k < 40
                    · rw [if_neg (show ¬ k / 10 = 1 by omega), if_neg (show ¬ k / 10 = 2 by omega), if_pos (show k / 10 = 3 by omega), if_neg a1, if_neg a2, if_pos a3]
                    · rw [if_neg (show ¬ k / 10 = 1 by omega), if_neg (show ¬ k / 10 = 2 by omega), if_neg (show ¬ k / 10 = 3 by omega), if_neg a1, if_neg a2, if_neg a3]
              · rw [if_neg h, if_neg h]
            · by_cases k5 : 50 ≤ k ∧ k ≤ 69
              · rw [if_pos (by omega), if_neg (by omega), if_neg k3, if_pos k5]
                by_cases h : k % 10 < npV V
                · rw [if_pos h, if_pos h, v7 _ h, v8 _ h]
                  by_cases a1 : k < 60
                  · rw [if_pos (show k / 10 = 5 by omega), if_pos a1]
                  · rw [if_neg (show ¬ k / 10 = 5 by omega), if_neg a1]
                · rw [if_neg h, if_neg h]
              · rw [if_neg (by omega), if_neg k3, if_neg k5, if_neg k0, if_neg k1, if_neg k8]
/-! bytes -/
theorem i8_sb : ∀ n : Fin 256, (Int8.ofNat n.1).toInt32 = sb n.1 := by decide +kernel
theorem by8_sb (v : Int32) {k : Nat} (hk : k = 24 ∨ k = 16 ∨ k = 8 ∨ k = 0) : by8 v k = sb (ub8 v k) := by
  have h1 : (v >>> (nI k &&& 31)).toInt8 = Int8.ofNat (ub8 v k) := by
    apply Int8.toBitVec_inj.mp
    have hs : (v >>> (nI k &&& 31)).toBitVec = v.toBitVec.sshiftRight k := by
      rcases hk with rfl | rfl | rfl | rfl <;> rfl
    show ((v >>> (nI k &&& 31)).toBitVec).signExtend 8 = BitVec.ofNat 8 (ub8 v k)
    rw [hs]
    apply BitVec.eq_of_getLsbD_eq
    intro i hi
    have hki : k + i < 32 := by omega
    unfold ub8
    rw [BitVec.getLsbD_signExtend, BitVec.getLsbD_sshiftRight, BitVec.getLsbD_ofNat]
    have e8 : (256 : Nat) = 2 ^ 8 := by decide
    rw [e8, Nat.testBit_mod_two_pow, Nat.testBit_div_two_pow]
    simp only [hi, hki, decide_true, Bool.true_and, if_true, if_pos (show i < 32 by omega), show ¬ 32 ≤ i by omega, decide_false, Bool.not_false]
    rw [BitVec.getLsbD, Nat.add_comm]
  unfold by8
  rw [h1]
  exact i8_sb ⟨ub8 v k, Nat.mod_lt _ (by decide)⟩
theorem sb_upN (T : Nat → Nat) (k x : Nat) : (fun j => sb (upN T k x j)) = upd (fun j => sb (T j)) k (sb x) := by
  funext j
  by_cases e : j = k
  · subst e; rw [upN_self, upd_self]
  · rw [upN_ne _ _ e, upd_ne _ _ e]
theorem p4_c4 (T : Nat → Nat) (t : Nat) (v : Int32) : p4F (fun k => sb (T k)) t v = fun k => sb (c4F T t v k) := by
  unfold p4F c4F
  rw [sb_upN, sb_upN, sb_upN, sb_upN, by8_sb v (Or.inl rfl), by8_sb v (Or.inr (Or.inl rfl)), by8_sb v (Or.inr (Or.inr (Or.inl rfl))), by8_sb v (Or.inr (Or.inr (Or.inr rfl)))]
theorem c4_lt {T : Nat → Nat} {t : Nat} {v : Int32} (h : ∀ k, T k < 256) : ∀ k, c4F T t v k < 256 := by
  have hu : ∀ (f : Nat → Nat) (a x : Nat), (∀ k, f k < 256) → x < 256 → ∀ k, upN f a x k < 256 := fun f a x hf hx k => by unfold upN; split; exact hx; exact hf k
  have hb : ∀ n, ub8 v n < 256 := fun n => Nat.mod_lt _ (by decide)
  unfold c4F
  exact hu _ _ _ (hu _ _ _ (hu _ _ _ (hu _ _ _ h (hb _)) (hb _)) (hb _)) (hb _)
