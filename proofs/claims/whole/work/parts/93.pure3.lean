/-! THE BEST PLAN OF A DAY: the class's rows and the reference's numbers -/
theorem ltI {a b : Int32} : a < b ↔ a.toInt < b.toInt := Int32.lt_iff_toInt_lt
theorem eqI {a b : Int32} : a = b ↔ a.toInt = b.toInt := Int32.toInt_inj.symm
/-- p's day set by choices -/
def plA (V : Vil) (P : Nat → Nat) (p : Nat) (c : Nat → Nat) (j : Nat) : Nat := if j / 4 = p then plc V (c (j % 4)) else P j
def gn (V : Vil) (P : Nat → Nat) (L : Nat → Int32) (S : Scn) (p : Nat) (c : Nat → Nat) : Int32 := alS (run V (plA V P p c) L S 4) p - alS S p
def dgx (m x q : Nat) : Nat := if q = 3 then x % m else if q = 2 then x / m % m else if q = 1 then x / m / m % m else x / m / m / m % m
theorem dgx_lt {m x q : Nat} (h : 0 < m) : dgx m x q < m := by
  unfold dgx
  split
  · exact Nat.mod_lt _ h
  · split
    · exact Nat.mod_lt _ h
    · split
      · exact Nat.mod_lt _ h
      · exact Nat.mod_lt _ h
theorem plR_plc {V : Vil} {d : Nat} (h : d < nhV V + 1) : plR (nhV V) d = plc V d := by
  unfold plR plc
  split
  · rw [if_neg (by omega)]
  · rw [if_pos (by omega)]
theorem pxP_eq (V : Vil) (p x : Nat) (P : Nat → Nat) (p' q : Nat) (hq : q < 4) : pxP V p x P (p' * 4 + q) = plA V P p (dgx (nhV V + 1) x) (p' * 4 + q) := by
  have e1 : (p' * 4 + q) / 4 = p' := by omega
  have e2 : (p' * 4 + q) % 4 = q := by omega
  have hm : 0 < nhV V + 1 := by omega
  unfold plA pxP
  rw [e1, e2]
  by_cases hp : p' = p
  · subst hp
    rw [if_pos rfl]
    rcases (show q = 0 ∨ q = 1 ∨ q = 2 ∨ q = 3 by omega) with rfl | rfl | rfl | rfl
    · rw [upN_self, plR_plc (Nat.mod_lt _ hm)]; rfl
    · rw [upN_ne _ _ (by omega), upN_self, plR_plc (Nat.mod_lt _ hm)]; rfl
    · rw [upN_ne _ _ (by omega), upN_ne _ _ (by omega), upN_self, plR_plc (Nat.mod_lt _ hm)]; rfl
    · rw [upN_ne _ _ (by omega), upN_ne _ _ (by omega), upN_ne _ _ (by omega), upN_self, plR_plc (Nat.mod_lt _ hm)]; rfl
  · rw [if_neg hp, upN_ne _ _ (by omega), upN_ne _ _ (by omega), upN_ne _ _ (by omega), upN_ne _ _ (by omega)]
/-- the first greatest -/
def bsX (g : Nat → Int32) : Nat → Int32 × Nat
  | 0 => (-1000000, 0)
  | x + 1 => if (bsX g x).1 < g x then (g x, x) else bsX g x
theorem bsX_sp (g : Nat → Int32) : ∀ n, (∀ x, x < n → ¬ (bsX g n).1 < g x) ∧ (bsX g n = (-1000000, 0) ∨ ((bsX g n).2 < n ∧ (bsX g n).1 = g (bsX g n).2 ∧ (-1000000 : Int32) < (bsX g n).1 ∧ ∀ x, x < (bsX g n).2 → g x < (bsX g n).1)) := by
  intro n
  induction n with
  | zero => exact ⟨fun x h => absurd h (by omega), Or.inl rfl⟩
  | succ n ih =>
    obtain ⟨h1, h2⟩ := ih
    have hu : bsX g (n + 1) = if (bsX g n).1 < g n then (g n, n) else bsX g n := rfl
    rw [hu]
    generalize bsX g n = b at *
    by_cases hc : b.1 < g n
    · rw [if_pos hc]
      refine ⟨fun x hx z => ?_, Or.inr ⟨by show n < n + 1; omega, rfl, ?_, fun x hx => ?_⟩⟩
      · by_cases e : x = n
        · subst e; rw [ltI] at z; exact absurd z (by show ¬ (g x).toInt < _; omega)
        · have := h1 x (by omega)
          rw [ltI] at this z hc
          have z : (g n).toInt < (g x).toInt := z
          omega
      · show _ < g n
        rcases h2 with h2 | h2
        · rw [h2] at hc; exact hc
        · have := h2.2.2.1; rw [ltI] at this hc ⊢; omega
      · show g x < g n
        have hx : x < n := hx
        have := h1 x hx
        rw [ltI] at this hc ⊢
        omega
    · rw [if_neg hc]
      refine ⟨fun x hx => ?_, ?_⟩
      · by_cases e : x = n
        · subst e; exact hc
        · exact h1 x (by omega)
      · rcases h2 with h2 | ⟨a1, a2, a3, a4⟩
        · exact Or.inl h2
        · exact Or.inr ⟨by omega, a2, a3, a4⟩
theorem fm_bs (V : Vil) (o : Ovr) (S : Scn) (P : Nat → Nat) (L : Nat → Int32) (a p : Nat) (W : Nat → Nat) (B f : Nat → Int32) : ∀ n, (fmF V o S P L a p (-1000000, 0, W, B, f) n).1 = (bsX (fun x => gn (ovr V o) P L S p (dgx (nhV V + 1) x)) n).1 ∧ (fmF V o S P L a p (-1000000, 0, W, B, f) n).2.1 = (bsX (fun x => gn (ovr V o) P L S p (dgx (nhV V + 1) x)) n).2 := by
  intro n
  induction n with
  | zero => exact ⟨rfl, rfl⟩
  | succ n ih =>
    have hu : fmF V o S P L a p (-1000000, 0, W, B, f) (n + 1) = fmS V o S P L a p (fmF V o S P L a p (-1000000, 0, W, B, f) n) n := rfl
    have hb : bsX (fun x => gn (ovr V o) P L S p (dgx (nhV V + 1) x)) (n + 1) = if (bsX (fun x => gn (ovr V o) P L S p (dgx (nhV V + 1) x)) n).1 < gn (ovr V o) P L S p (dgx (nhV V + 1) n) then (gn (ovr V o) P L S p (dgx (nhV V + 1) n), n) else bsX (fun x => gn (ovr V o) P L S p (dgx (nhV V + 1) x)) n := rfl
    rw [hu, hb]
    generalize fmF V o S P L a p (-1000000, 0, W, B, f) n = q at *
    generalize bsX (fun x => gn (ovr V o) P L S p (dgx (nhV V + 1) x)) n = b at *
    have hs : smR V o (pxP V p n P) L (S, q.2.2.1, q.2.2.2.1) p = gn (ovr V o) P L S p (dgx (nhV V + 1) n) := by
      rw [smR_run]
      unfold gn
      rw [run_P (V := ovr V o) (fun p' q' _ hq' => pxP_eq V p n P p' q' hq')]
      rfl
    unfold fmS
    rw [hs, ih.1, ih.2]
    by_cases hc : b.1 < gn (ovr V o) P L S p (dgx (nhV V + 1) n)
    · rw [if_pos hc, if_pos hc, if_pos hc]; exact ⟨rfl, rfl⟩
    · rw [if_neg hc, if_neg hc, if_neg hc]; exact ⟨rfl, rfl⟩
/-! rows of choices -/
def nvF (mo : Nat → Nat) : Nat → (Nat → Nat) → Nat
  | 0, _ => 0
  | n + 1, ch => nvF mo n ch * mo n + ch n
def ttF (mo : Nat → Nat) : Nat → Nat
  | 0 => 1
  | n + 1 => ttF mo n * mo n
theorem nvF_ext (mo : Nat → Nat) {ch ch' : Nat → Nat} : ∀ n, (∀ k, k < n → ch k = ch' k) → nvF mo n ch = nvF mo n ch' := by
  intro n
  induction n with
  | zero => intro _; rfl
  | succ n ih =>
    intro h
    show nvF mo n ch * mo n + ch n = nvF mo n ch' * mo n + ch' n
    rw [ih (fun k hk => h k (by omega)), h n (by omega)]
theorem nvF_lt (mo : Nat → Nat) {ch : Nat → Nat} : ∀ n, (∀ k, k < n → ch k < mo k) → nvF mo n ch < ttF mo n := by
  intro n
  induction n with
  | zero => intro _; exact Nat.one_pos
  | succ n ih =>
    intro h
    have h1 := ih (fun k hk => h k (by omega))
    have h2 := h n (by omega)
    show nvF mo n ch * mo n + ch n < ttF mo n * mo n
    have h3 : (nvF mo n ch + 1) * mo n ≤ ttF mo n * mo n := Nat.mul_le_mul_right _ h1
    rw [Nat.succ_mul] at h3
    omega
theorem nvF_inj (mo : Nat → Nat) {ch ch' : Nat → Nat} : ∀ n, (∀ k, k < n → ch k < mo k) → (∀ k, k < n → ch' k < mo k) → nvF mo n ch = nvF mo n ch' → ∀ k, k < n → ch k = ch' k := by
  intro n
  induction n with
  | zero => intro _ _ _ k hk; exact absurd hk (by omega)
  | succ n ih =>
    intro h h' he k hk
    have he : nvF mo n ch * mo n + ch n = nvF mo n ch' * mo n + ch' n := he
    have h1 := h n (by omega)
    have h2 := h' n (by omega)
    have e1 : nvF mo n ch = nvF mo n ch' := by
      have a1 : (nvF mo n ch * mo n + ch n) / mo n = nvF mo n ch := by rw [Nat.mul_comm, Nat.mul_add_div (by omega), Nat.div_eq_of_lt h1]; omega
      have a2 : (nvF mo n ch' * mo n + ch' n) / mo n = nvF mo n ch' := by rw [Nat.mul_comm, Nat.mul_add_div (by omega), Nat.div_eq_of_lt h2]; omega
      rw [← a1, he, a2]
    rw [e1] at he
    by_cases hkn : k = n
    · subst hkn; omega
    · exact ih (fun k hk => h k (by omega)) (fun k hk => h' k (by omega)) e1 k (by omega)
theorem gcF_sp (mo : Nat → Nat) : ∀ n (ch : Nat → Nat), (∀ k, k < n → ch k < mo k) → ((gcF mo n ch).2 = 5 ∧ nvF mo n ch + 1 = ttF mo n) ∨ ((gcF mo n ch).2 < n ∧ (∀ k, k < n → (gcF mo n ch).1 k < mo k) ∧ (∀ k, k < (gcF mo n ch).2 → (gcF mo n ch).1 k = ch k) ∧ nvF mo n (gcF mo n ch).1 = nvF mo n ch + 1 ∧ ∀ k, n ≤ k → (gcF mo n ch).1 k = ch k) := by
  intro n
  induction n with
  | zero => intro ch _; exact Or.inl ⟨rfl, rfl⟩
  | succ n ih =>
    intro ch h
    have hn := h n (by omega)
    have hu : gcF mo (n + 1) ch = if ch n + 1 < mo n then (upN ch n (ch n + 1), n) else gcF mo n (upN ch n 0) := rfl
    rw [hu]
    by_cases hc : ch n + 1 < mo n
    · rw [if_pos hc]
      refine Or.inr ⟨by show n < n + 1; omega, fun k hk => ?_, fun k hk => ?_, ?_, fun k hk => ?_⟩
      · show upN ch n (ch n + 1) k < mo k
        by_cases e : k = n
        · subst e; rw [upN_self]; exact hc
        · rw [upN_ne _ _ e]; exact h k hk
      · show upN ch n (ch n + 1) k = ch k
        have hk : k < n := hk
        exact upN_ne _ _ (by omega)
      · show nvF mo n (upN ch n (ch n + 1)) * mo n + upN ch n (ch n + 1) n = nvF mo n ch * mo n + ch n + 1
        rw [upN_self, nvF_ext mo n (ch := upN ch n (ch n + 1)) (ch' := ch) (fun k hk => upN_ne _ _ (by omega))]
        omega
      · show upN ch n (ch n + 1) k = ch k
        exact upN_ne _ _ (by omega)
    · rw [if_neg hc]
      have he : nvF mo n (upN ch n 0) = nvF mo n ch := nvF_ext mo n (fun k hk => upN_ne _ _ (by omega))
      have ih := ih (upN ch n 0) (fun k hk => by rw [upN_ne _ _ (by omega)]; exact h k (by omega))
      have hs : nvF mo (n + 1) ch = nvF mo n ch * mo n + ch n := rfl
      have ht : ttF mo (n + 1) = ttF mo n * mo n := rfl
      rcases ih with ⟨a1, a2⟩ | ⟨a1, a2, a3, a4, a5⟩
      · refine Or.inl ⟨a1, ?_⟩
        rw [hs, ht, ← a2, he, Nat.succ_mul]
        omega
      · have a6 := a5 n (Nat.le_refl n)
        rw [upN_self] at a6
        refine Or.inr ⟨by omega, fun k hk => ?_, fun k hk => ?_, ?_, fun k hk => ?_⟩
        · by_cases e : k = n
          · subst e; rw [a6]; omega
          · exact a2 k (by omega)
        · rw [a3 k hk, upN_ne _ _ (by omega)]
        · show nvF mo n (gcF mo n (upN ch n 0)).1 * mo n + (gcF mo n (upN ch n 0)).1 n = _
          rw [a4, a6, he, hs, Nat.succ_mul]
          omega
        · rw [a5 k (by omega), upN_ne _ _ (by omega)]
