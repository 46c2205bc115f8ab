/-! FEASTS -/
def t5 (a b c d e : Nat) (k : Nat) : Nat := if k = 0 then a else if k = 1 then b else if k = 2 then c else if k = 3 then d else e
def ftV (np : Nat) (v : Nat → Nat) (k : Nat) (s : Int32) : Bool × Int32 := if decide (v k < np) && !bxI s (nI (v k)) then (true, s ||| (nI 1 <<< (nI (v k) &&& 31))) else (false, s)
def fok (np : Nat) (v : Nat → Nat) : Bool := !(itB (ftV np v) (nI 0) np).1 || (ahR v np 1 || (ahR v np 2 || (ahR v np 3 || (ahR v np 4 || (ahR v np 5 || ahR v np 6)))))
set_option maxRecDepth 100000 in
theorem fok_5 : ∀ a, a < 5 → ∀ b, b < 5 → ∀ c, c < 5 → ∀ d, d < 5 → ∀ e, e < 5 → fok 5 (t5 a b c d e) = true := by decide +kernel
set_option maxRecDepth 100000 in
theorem fok_4 : ∀ a, a < 5 → ∀ b, b < 5 → ∀ c, c < 5 → ∀ d, d < 5 → fok 4 (t5 a b c d 0) = true := by decide +kernel
theorem fok_3 : ∀ a, a < 5 → ∀ b, b < 5 → ∀ c, c < 5 → fok 3 (t5 a b c 0 0) = true := by decide +kernel
theorem fok_2 : ∀ a, a < 5 → ∀ b, b < 5 → fok 2 (t5 a b 0 0 0) = true := by decide +kernel
theorem fok_1 : ∀ a, a < 5 → fok 1 (t5 a 0 0 0 0) = true := by decide +kernel
theorem fok_0 : fok 0 (t5 0 0 0 0 0) = true := by decide +kernel
theorem mbF_ext {F F' : Nat → Nat} {np : Nat} (h : ∀ k, k < np → F k = F' k ∧ F k < np) : ∀ n p, p < np → mbF F p n = mbF F' p n ∧ mbF F p n < np := by
  intro n
  induction n with
  | zero => intro p hp; exact ⟨rfl, hp⟩
  | succ n ih =>
    intro p hp
    obtain ⟨i1, i2⟩ := ih p hp
    show F (mbF F p n) = F' (mbF F' p n) ∧ F (mbF F p n) < np
    rw [← i1]
    exact h _ i2
theorem plB_mb {F F' : Nat → Nat} {np : Nat} (h : ∀ k, k < np → F k = F' k ∧ F k < np) : ∀ n p, p < np → plB F np p n = mbF F' p n ∧ plB F np p n < np := by
  intro n
  induction n with
  | zero => intro p hp; exact ⟨rfl, hp⟩
  | succ n ih =>
    intro p hp
    obtain ⟨i1, i2⟩ := ih p hp
    show (if plB F np p n < np then F (plB F np p n) else plB F np p n) = F' (mbF F' p n) ∧ (if plB F np p n < np then F (plB F np p n) else plB F np p n) < np
    rw [if_pos i2, ← i1]
    exact h _ i2
theorem ahR_iff {F : Nat → Nat} {np t : Nat} : ahR F np t = true ↔ ∀ p, p < np → mbF F p t = p := by
  unfold ahR
  rw [itB_all]
  refine forall_congr' (fun p => forall_congr' (fun hp => ?_))
  exact decide_eq_true_iff
theorem ahS_iff {F : Nat → Nat} {np t : Nat} : ∀ n, ahS F np t n = true ↔ ∀ p, p < n → plB F np p t = p := by
  intro n
  induction n with
  | zero => exact ⟨fun _ p hp => absurd hp (by omega), fun _ => rfl⟩
  | succ n ih =>
    show (ahS F np t n && decide (plB F np n t = n)) = true ↔ _
    rw [Bool.and_eq_true_iff, ih, decide_eq_true_iff]
    constructor
    · rintro ⟨h1, h2⟩ p hp
      by_cases e : p = n
      · subst e; exact h2
      · exact h1 p (by omega)
    · intro h; exact ⟨fun p hp => h p (by omega), h n (by omega)⟩
theorem ah_eq {F F' : Nat → Nat} {np : Nat} (h : ∀ k, k < np → F k = F' k ∧ F k < np) (t : Nat) : ahS F np t np = ahR F' np t := by
  have e : ahS F np t np = true ↔ ahR F' np t = true := by
    rw [ahS_iff, ahR_iff]
    refine forall_congr' (fun p => forall_congr' (fun hp => ?_))
    rw [(plB_mb h t p hp).1]
  cases h1 : ahS F np t np <;> cases h2 : ahR F' np t
  · rfl
  · exact absurd (e.mpr h2) (by rw [h1]; exact nft)
  · exact absurd (e.mp h1) (by rw [h2]; exact nft)
  · rfl
theorem fe_eq {F F' : Nat → Nat} {np : Nat} (h : ∀ k, k < np → F k = F' k ∧ F k < np) : ∀ k t n, k ≤ n → (∃ s, t ≤ s ∧ s < t + k ∧ ahR F' np s = true) → feN F np n t = nI (feR F' np k t) := by
  intro k
  induction k with
  | zero => intro t n _ hs; obtain ⟨s, h1, h2, _⟩ := hs; omega
  | succ k ih =>
    intro t n hn hs
    obtain ⟨m, rfl⟩ : ∃ m, n = m + 1 := ⟨n - 1, by omega⟩
    show (if ahS F np t np then nI t else feN F np m (t + 1)) = nI (if ahR F' np t then t else feR F' np k (t + 1))
    rw [ah_eq h t]
    by_cases c : ahR F' np t = true
    · rw [if_pos c, if_pos c]
    · rw [if_neg c, if_neg c]
      refine ih (t + 1) m (by omega) ?_
      obtain ⟨s, h1, h2, h3⟩ := hs
      refine ⟨s, ?_, by omega, h3⟩
      by_cases e : s = t
      · subst e; exact absurd h3 c
      · omega
theorem frW_at (T F : Nat → Nat) : ∀ n p, frW T F n p = if p < n then nN (sgI T p) else F p := by
  intro n
  induction n with
  | zero => intro p; rfl
  | succ n ih =>
    intro p
    show upN (frW T F n) n (nN (sgI T n)) p = _
    by_cases e : p = n
    · subst e; rw [upN_self, if_pos (by omega)]
    · rw [upN_ne _ _ e, ih p]
      by_cases c : p < n
      · rw [if_pos c, if_pos (by omega)]
      · rw [if_neg c, if_neg (by omega)]
theorem ft_val {np : Nat} {T : Nat → Nat} (hp5 : np ≤ 5) {k : Nat} {s : Int32} (h : (ftS np T k s).1 = true) : nN (sgI T k) < np ∧ ftV np (fun p => nN (sgI T p)) k s = ftS np T k s := by
  unfold ftS at h ⊢
  by_cases c : (ixB (sgI T k) np && !bxI s (sgI T k)) = true
  · obtain ⟨c1, c2⟩ := Bool.and_eq_true_iff.mp c
    obtain ⟨m, hm, e⟩ := ixB_n hp5 c1
    have e2 : nN (sgI T k) = m := by rw [e]; exact nN_n (by omega)
    refine ⟨by omega, ?_⟩
    unfold ftV
    show (if decide (nN (sgI T k) < np) && !bxI s (nI (nN (sgI T k))) then (true, s ||| (nI 1 <<< (nI (nN (sgI T k)) &&& 31))) else (false, s)) = _
    rw [e2, ← e, if_pos c, decide_eq_true hm, Bool.true_and, if_pos c2]
  · rw [if_neg c] at h; exact absurd h nft
theorem ft_all {np : Nat} {T : Nat → Nat} (hp5 : np ≤ 5) : ∀ n, (itB (ftS np T) (nI 0) n).1 = true → itB (ftV np (fun p => nN (sgI T p))) (nI 0) n = itB (ftS np T) (nI 0) n := by
  intro n
  induction n with
  | zero => intro _; rfl
  | succ n ih =>
    intro h
    have hs := itB_steps (n + 1) h n (by omega)
    have hi := ih hs.1
    have e1 : itB (ftS np T) (nI 0) (n + 1) = ftS np T n (itB (ftS np T) (nI 0) n).2 := itB_s hs.1
    have e2 : itB (ftV np (fun p => nN (sgI T p))) (nI 0) (n + 1) = ftV np (fun p => nN (sgI T p)) n (itB (ftV np (fun p => nN (sgI T p))) (nI 0) n).2 := itB_s (by rw [hi]; exact hs.1)
    rw [e1, e2, hi]
    exact (ft_val hp5 hs.2).2
theorem ftV_ext {np : Nat} {v v' : Nat → Nat} : ∀ n, (∀ k, k < n → v k = v' k) → itB (ftV np v) (nI 0) n = itB (ftV np v') (nI 0) n := by
  intro n
  induction n with
  | zero => intro _; rfl
  | succ n ih =>
    intro h
    show (if (itB (ftV np v) (nI 0) n).1 then ftV np v n (itB (ftV np v) (nI 0) n).2 else itB (ftV np v) (nI 0) n) = (if (itB (ftV np v') (nI 0) n).1 then ftV np v' n (itB (ftV np v') (nI 0) n).2 else itB (ftV np v') (nI 0) n)
    rw [ih (fun k hk => h k (by omega))]
    unfold ftV
    rw [h n (by omega)]
theorem fok_v {np : Nat} (hp5 : np ≤ 5) {v : Nat → Nat} (hv : ∀ k, k < np → v k < np) (h : (itB (ftV np v) (nI 0) np).1 = true) : ∃ s, 1 ≤ s ∧ s < 7 ∧ ahR v np s = true := by
  have key : ∀ w : Nat → Nat, fok np w = true → (∀ k, k < np → v k = w k) → ∃ s, 1 ≤ s ∧ s < 7 ∧ ahR v np s = true := fun w hw he => by
    have hah : ∀ t, ahR w np t = true → ahR v np t = true := fun t ht => by
      rw [ahR_iff] at ht ⊢
      intro p hp
      rw [(mbF_ext (F := v) (F' := w) (fun k hk => ⟨he k hk, hv k hk⟩) t p hp).1]
      exact ht p hp
    unfold fok at hw
    rw [← ftV_ext np he, h] at hw
    have hw : (ahR w np 1 || (ahR w np 2 || (ahR w np 3 || (ahR w np 4 || (ahR w np 5 || ahR w np 6))))) = true := hw
    rcases Bool.or_eq_true_iff.mp hw with z | z
    · exact ⟨1, by omega, by omega, hah 1 z⟩
    rcases Bool.or_eq_true_iff.mp z with z | z
    · exact ⟨2, by omega, by omega, hah 2 z⟩
    rcases Bool.or_eq_true_iff.mp z with z | z
    · exact ⟨3, by omega, by omega, hah 3 z⟩
    rcases Bool.or_eq_true_iff.mp z with z | z
    · exact ⟨4, by omega, by omega, hah 4 z⟩
    rcases Bool.or_eq_true_iff.mp z with z | z
    · exact ⟨5, by omega, by omega, hah 5 z⟩
    · exact ⟨6, by omega, by omega, hah 6 z⟩
  have hv5 : ∀ k, k < np → v k < 5 := fun k hk => by have := hv k hk; omega
  rcases (show np = 0 ∨ np = 1 ∨ np = 2 ∨ np = 3 ∨ np = 4 ∨ np = 5 by omega) with rfl | rfl | rfl | rfl | rfl | rfl
  · exact key _ fok_0 (fun k hk => absurd hk (by omega))
  · refine key _ (fok_1 (v 0) (hv5 0 (by omega))) (fun k hk => ?_)
    have : k = 0 := by omega
    subst this; rfl
  · refine key _ (fok_2 (v 0) (hv5 0 (by omega)) (v 1) (hv5 1 (by omega))) (fun k hk => ?_)
    rcases (show k = 0 ∨ k = 1 by omega) with rfl | rfl <;> rfl
  · refine key _ (fok_3 (v 0) (hv5 0 (by omega)) (v 1) (hv5 1 (by omega)) (v 2) (hv5 2 (by omega))) (fun k hk => ?_)
    rcases (show k = 0 ∨ k = 1 ∨ k = 2 by omega) with rfl | rfl | rfl <;> rfl
  · refine key _ (fok_4 (v 0) (hv5 0 (by omega)) (v 1) (hv5 1 (by omega)) (v 2) (hv5 2 (by omega)) (v 3) (hv5 3 (by omega))) (fun k hk => ?_)
    rcases (show k = 0 ∨ k = 1 ∨ k = 2 ∨ k = 3 by omega) with rfl | rfl | rfl | rfl <;> rfl
  · refine key _ (fok_5 (v 0) (hv5 0 (by omega)) (v 1) (hv5 1 (by omega)) (v 2) (hv5 2 (by omega)) (v 3) (hv5 3 (by omega)) (v 4) (hv5 4 (by omega))) (fun k hk => ?_)
    rcases (show k = 0 ∨ k = 1 ∨ k = 2 ∨ k = 3 ∨ k = 4 by omega) with rfl | rfl | rfl | rfl | rfl <;> rfl
theorem feast_per {np tp : Nat} {T : Nat → Nat} (hp5 : np ≤ 5) (h : ftB np tp T = true) (F : Nat → Nat) : (∀ p, p < np → frW T F np p < np) ∧ ∃ s, 1 ≤ s ∧ s < 7 ∧ ahR (frW T F np) np s = true := by
  have h2 := (Bool.and_eq_true_iff.mp h).2
  have hst := itB_steps np h2
  have hv : ∀ p, p < np → frW T F np p < np := fun p hp => by rw [frW_at, if_pos hp]; exact (ft_val hp5 (hst p hp).2).1
  refine ⟨hv, fok_v hp5 hv ?_⟩
  rw [ftV_ext (v := frW T F np) (v' := fun p => nN (sgI T p)) np (fun k hk => by rw [frW_at, if_pos hk]), ft_all hp5 np h2]
  exact h2
theorem feast_eq {np tp : Nat} {T : Nat → Nat} (hp5 : np ≤ 5) (h : ftB np tp T = true) (F F' : Nat → Nat) : feN (frW T F np) np 119 1 = nI (feR (frW T F' np) np 6 1) := by
  refine fe_eq (fun k hk => ⟨by rw [frW_at, frW_at, if_pos hk, if_pos hk], (feast_per hp5 h F).1 k hk⟩) 6 1 119 (by decide) ?_
  obtain ⟨s, h1, h2, h3⟩ := (feast_per hp5 h F').2
  exact ⟨s, h1, by omega, h3⟩
