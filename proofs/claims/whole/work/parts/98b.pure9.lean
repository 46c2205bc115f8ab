/-! TWO NUMBERINGS OF THE SAME ROWS -/
theorem mx_lt {A B m x y : Nat} (hx : x < m) (hy : y < m) : A * m + x < B * m + y ↔ A < B ∨ (A = B ∧ x < y) := by
  constructor
  · intro h
    by_cases e : A < B
    · exact Or.inl e
    · by_cases e2 : A = B
      · subst e2; exact Or.inr ⟨rfl, by omega⟩
      · exfalso
        have := Nat.mul_le_mul_right m (show B + 1 ≤ A by omega)
        rw [Nat.succ_mul] at this
        omega
  · intro h
    rcases h with h | ⟨h, h2⟩
    · have := Nat.mul_le_mul_right m (show A + 1 ≤ B by omega)
      rw [Nat.succ_mul] at this
      omega
    · subst h; omega
theorem mx_eq {A B m x y : Nat} (hx : x < m) (hy : y < m) : A * m + x = B * m + y ↔ A = B ∧ x = y := by
  constructor
  · intro h
    by_cases e : A = B
    · subst e; exact ⟨rfl, by omega⟩
    · exfalso
      rcases Nat.lt_or_gt_of_ne e with e | e
      · have := (mx_lt (x := x) (y := y) hx hy).mpr (Or.inl e); omega
      · have := (mx_lt (x := y) (y := x) hy hx).mpr (Or.inl e); omega
  · intro h; rw [h.1, h.2]
/-- digits by digits: the order is the same -/
theorem nv_mono {mo M : Nat → Nat} {d : Nat → Nat → Nat} : ∀ (n : Nat), (∀ k, k < n → ∀ a, a < mo k → d k a < M k) → (∀ k, k < n → ∀ a b, a < b → b < mo k → d k a < d k b) → ∀ (a b : Nat → Nat), (∀ k, k < n → a k < mo k) → (∀ k, k < n → b k < mo k) → (nvF mo n a < nvF mo n b ↔ nvF M n (fun k => d k (a k)) < nvF M n (fun k => d k (b k))) ∧ (nvF mo n a = nvF mo n b ↔ nvF M n (fun k => d k (a k)) = nvF M n (fun k => d k (b k))) := by
  intro n
  induction n with
  | zero => intro _ _ a b _ _; exact ⟨Iff.rfl, Iff.rfl⟩
  | succ n ih =>
    intro h1 h2 a b ha hb
    have ih := ih (fun k hk => h1 k (by omega)) (fun k hk => h2 k (by omega)) a b (fun k hk => ha k (by omega)) (fun k hk => hb k (by omega))
    have a1 := ha n (by omega)
    have b1 := hb n (by omega)
    have da := h1 n (by omega) _ a1
    have db := h1 n (by omega) _ b1
    have hlt : a n < b n ↔ d n (a n) < d n (b n) := by
      constructor
      · intro h; exact h2 n (by omega) _ _ h b1
      · intro h
        by_cases e : a n < b n
        · exact e
        · exfalso
          by_cases e2 : a n = b n
          · rw [e2] at h; omega
          · have := h2 n (by omega) _ _ (show b n < a n by omega) a1; omega
    have heq : a n = b n ↔ d n (a n) = d n (b n) := by
      constructor
      · intro h; rw [h]
      · intro h
        by_cases e : a n = b n
        · exact e
        · exfalso
          rcases Nat.lt_or_gt_of_ne e with e | e
          · have := h2 n (by omega) _ _ e b1; omega
          · have := h2 n (by omega) _ _ e a1; omega
    show (nvF mo n a * mo n + a n < nvF mo n b * mo n + b n ↔ nvF M n (fun k => d k (a k)) * M n + d n (a n) < nvF M n (fun k => d k (b k)) * M n + d n (b n)) ∧ (nvF mo n a * mo n + a n = nvF mo n b * mo n + b n ↔ nvF M n (fun k => d k (a k)) * M n + d n (a n) = nvF M n (fun k => d k (b k)) * M n + d n (b n))
    rw [mx_lt a1 b1, mx_lt da db, mx_eq a1 b1, mx_eq da db, ih.1, ih.2, hlt, heq]
    exact ⟨Iff.rfl, Iff.rfl⟩
/-! the reference's digits -/
theorem nvF_pow (m : Nat) (d : Nat → Nat) : ∀ n, (∀ k, k < n → d k < m) → nvF (fun _ => m) n d < m ^ n := by
  intro n
  induction n with
  | zero => intro _; exact Nat.one_pos
  | succ n ih =>
    intro h
    have h1 := ih (fun k hk => h k (by omega))
    have h2 := h n (by omega)
    show nvF (fun _ => m) n d * m + d n < m ^ (n + 1)
    rw [Nat.pow_succ]
    have := Nat.mul_le_mul_right m h1
    rw [Nat.succ_mul] at this
    omega
/-- the digit of p in a number of n digits -/
def dgN (m n x p : Nat) : Nat := x / m ^ (n - (p + 1)) % m
theorem dgN_nv (m : Nat) (hm : 0 < m) : ∀ n (d : Nat → Nat), (∀ k, k < n → d k < m) → ∀ p, p < n → dgN m n (nvF (fun _ => m) n d) p = d p := by
  intro n
  induction n with
  | zero => intro _ _ p hp; exact absurd hp (by omega)
  | succ n ih =>
    intro d h p hp
    have hu : nvF (fun _ => m) (n + 1) d = nvF (fun _ => m) n d * m + d n := rfl
    rw [hu]
    have hn := h n (by omega)
    unfold dgN
    by_cases e : p = n
    · subst e
      rw [show p + 1 - (p + 1) = 0 by omega, Nat.pow_zero, Nat.div_one, dm_m hn]
    · have e1 : n + 1 - (p + 1) = (n - (p + 1)) + 1 := by omega
      rw [e1, Nat.pow_succ, Nat.mul_comm (m ^ (n - (p + 1))) m, ← Nat.div_div_eq_div_mul, dm_d hn]
      exact ih d (fun k hk => h k (by omega)) p (by omega)
theorem nv_dgN (m : Nat) (hm : 0 < m) : ∀ n x, x < m ^ n → nvF (fun _ => m) n (dgN m n x) = x := by
  intro n
  induction n with
  | zero => intro x hx; have : x = 0 := by rw [Nat.pow_zero] at hx; omega
            subst this; rfl
  | succ n ih =>
    intro x hx
    have hx2 : x / m < m ^ n := (Nat.div_lt_iff_lt_mul hm).mpr (by rw [Nat.pow_succ] at hx; exact hx)
    have hi := ih (x / m) hx2
    show nvF (fun _ => m) n (dgN m (n + 1) x) * m + dgN m (n + 1) x n = x
    have e1 : nvF (fun _ => m) n (dgN m (n + 1) x) = nvF (fun _ => m) n (dgN m n (x / m)) := nvF_ext _ n (fun k hk => by
      unfold dgN
      rw [show n + 1 - (k + 1) = (n - (k + 1)) + 1 by omega, Nat.pow_succ, Nat.mul_comm (m ^ (n - (k + 1))) m, ← Nat.div_div_eq_div_mul])
    have e2 : dgN m (n + 1) x n = x % m := by
      unfold dgN
      rw [show n + 1 - (n + 1) = 0 by omega, Nat.pow_zero, Nat.div_one]
    rw [e1, e2, hi, Nat.mul_comm]
    exact Nat.div_add_mod x m
theorem dgR_N (V : Vil) (x p : Nat) : dgR V x p = dgN (nhV V + 1) (npV V) x p := rfl
/-- a digit changed -/
theorem nvF_set (m : Nat) (c p : Nat) : ∀ n (d : Nat → Nat), p < n → nvF (fun _ => m) n (upN d p c) + d p * m ^ (n - (p + 1)) = nvF (fun _ => m) n d + c * m ^ (n - (p + 1)) := by
  intro n
  induction n with
  | zero => intro d hp; exact absurd hp (by omega)
  | succ n ih =>
    intro d hp
    show nvF (fun _ => m) n (upN d p c) * m + upN d p c n + d p * m ^ (n + 1 - (p + 1)) = nvF (fun _ => m) n d * m + d n + c * m ^ (n + 1 - (p + 1))
    by_cases e : p = n
    · subst e
      rw [upN_self, nvF_ext _ p (ch := upN d p c) (ch' := d) (fun k hk => upN_ne _ _ (by omega)), show p + 1 - (p + 1) = 0 by omega, Nat.pow_zero]
      omega
    · rw [upN_ne _ _ (show ¬ n = p by omega)]
      have h := ih d (by omega)
      have h2 : (nvF (fun _ => m) n (upN d p c) + d p * m ^ (n - (p + 1))) * m = (nvF (fun _ => m) n d + c * m ^ (n - (p + 1))) * m := by rw [h]
      rw [Nat.add_mul, Nat.add_mul, Nat.mul_assoc, Nat.mul_assoc, ← Nat.pow_succ] at h2
      rw [show n + 1 - (p + 1) = (n - (p + 1)) + 1 by omega]
      have h2 : nvF (fun _ => m) n (upN d p c) * m + d p * m ^ (n - (p + 1) + 1) = nvF (fun _ => m) n d * m + c * m ^ (n - (p + 1) + 1) := h2
      omega
/-- the class's numbers by weights -/
theorem rv_nv {mo K u : Nat → Nat} {N : Nat} (hu : Wts mo K N u) : ∀ n (ch : Nat → Nat), n ≤ N → rvF K ch n = nvF mo n ch * u n := by
  intro n
  induction n with
  | zero => intro ch _; show 0 = 0 * u 0; omega
  | succ n ih =>
    intro ch hn
    show rvF K ch n + ch n * K n = (nvF mo n ch * mo n + ch n) * u (n + 1)
    rw [ih ch (by omega), hu.2.2 n (by omega), hu.2.1 n (by omega), Nat.add_mul, Nat.mul_assoc]
theorem rv_set (K : Nat → Nat) (c p : Nat) : ∀ n (ch : Nat → Nat), p < n → rvF K (upN ch p c) n + ch p * K p = rvF K ch n + c * K p := by
  intro n
  induction n with
  | zero => intro ch hp; exact absurd hp (by omega)
  | succ n ih =>
    intro ch hp
    show rvF K (upN ch p c) n + upN ch p c n * K n + ch p * K p = rvF K ch n + ch n * K n + c * K p
    by_cases e : p = n
    · subst e
      rw [upN_self, rvF_congr (ch := upN ch p c) (ch2 := ch) (fun k hk => upN_ne _ _ (by omega))]
      omega
    · rw [upN_ne _ _ (show ¬ n = p by omega)]
      have := ih ch (by omega)
      omega
/-- all of a row of tests -/
theorem itB_all {f : Nat → Unit → Bool × Unit} : ∀ n, (itB f () n).1 = true ↔ ∀ k, k < n → (f k ()).1 = true := by
  intro n
  induction n with
  | zero => exact ⟨fun _ k hk => absurd hk (by omega), fun _ => rfl⟩
  | succ n ih =>
    have hu : itB f () (n + 1) = if (itB f () n).1 then f n (itB f () n).2 else itB f () n := rfl
    rw [hu]
    by_cases hc : (itB f () n).1 = true
    · rw [if_pos hc]
      have h1 := ih.mp hc
      constructor
      · intro h k hk
        by_cases e : k = n
        · subst e; exact h
        · exact h1 k (by omega)
      · intro h; exact h n (by omega)
    · rw [if_neg hc]
      exact ⟨fun h => absurd h hc, fun h => absurd (ih.mpr (fun k hk => h k (by omega))) hc⟩
