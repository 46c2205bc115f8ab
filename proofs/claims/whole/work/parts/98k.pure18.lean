/-! BOOKS -/
theorem vl_nu (T : Nat → Nat) (s : Nat) : ∀ j, j ≤ 3 → vlF T s j = nuN T s j := by
  intro j
  induction j with
  | zero => intro _; rfl
  | succ j ih =>
    intro h
    show (if j < 3 then 10 * vlF T s j + (T (s + j) - 48) else vlF T s j) = nuN T s j * 10 + (T (s + j) - 48)
    rw [if_pos (by omega), ih (by omega), Nat.mul_comm]
theorem tk2_len {T : Nat → Nat} {len p : Nat} (h : tkK T len p = 2) : tkE T len p - tkS T len p ≤ 3 := by
  have h1 := tk2_e h
  unfold tkK at h
  rw [if_pos h1.1, if_neg (by rw [h1.2.1]; exact nft), if_pos h1.2.2] at h
  split at h <;> omega
theorem tkV_N {T : Nat → Nat} {len p v : Nat} (h : tkK T len p = 2) : tkV T len p v = tkN T len p := by
  have h1 := tk2_e h
  unfold tkV tkN
  rw [if_pos h1, if_pos h1]
  exact vl_nu T _ _ (tk2_len h)
theorem rnB_rn {T : Nat → Nat} {len p vl hi : Nat} (hv : tkK T len p = 2 → vl = tkN T len p) (hvl : vl < 2 ^ 31) (hhi : hi < 1000) : rnB T len p vl (nI 0) (nI hi) = true ↔ rnN T len hi p < 1000 := by
  unfold rnB rnN
  rw [rgB_i hvl (by decide) (by omega), Bool.and_eq_true_iff, decide_eq_true_iff, decide_eq_true_iff]
  constructor
  · rintro ⟨h1, -, h2⟩
    rw [hv h1] at h2
    rw [if_pos ⟨h1, h2⟩]
    omega
  · intro h
    by_cases c : tkK T len p = 2 ∧ tkN T len p ≤ hi
    · exact ⟨c.1, by omega, by rw [hv c.1]; exact c.2⟩
    · rw [if_neg c] at h; omega
theorem rnN_v {T : Nat → Nat} {len p hi : Nat} (h : rnN T len hi p < 1000) : tkK T len p = 2 ∧ rnN T len hi p = tkN T len p ∧ ∀ q : Fin (len + 1), q.1 = p → rnP T hi q = nxP T len q := by
  unfold rnN at h ⊢
  by_cases c : tkK T len p = 2 ∧ tkN T len p ≤ hi
  · rw [if_pos c]
    refine ⟨c.1, rfl, fun q hq => ?_⟩
    unfold rnP
    rw [hq, if_pos c]
  · rw [if_neg c] at h; omega
/-- the rows so far are the same -/
def Bq (b b' : Bki) : Prop := b.1 = b'.1 ∧ ∀ k, k < b.1 → b.2.1 k = b'.2.1 k ∧ b.2.2.1 k = b'.2.2.1 k ∧ b.2.2.2 k = b'.2.2.2 k
theorem up_below {f g : Nat → Nat} {n k : Nat} (x : Nat) (h : k < n → f k = g k) (hk : k < n + 1) : upN f n x k = upN g n x k := by
  unfold upN
  split
  · rfl
  · exact h (by omega)
theorem row_eq {T : Nat → Nat} {len : Nat} (hTa : ∀ k, T k < 256) (p : Fin (len + 1)) (vl : Nat) (got : Int32) (b b' : Bki) (hv : tkK T len p.1 = 2 → vl = tkN T len p.1) (hvl : vl < 100000) (hb : Bq b b') : (bkR T p b).1 = (rbR T p vl got b').1 ∧ ((bkR T p b).1 = true → (bkR T p b).2.1 = (rbR T p vl got b').2.1 ∧ p.1 + 6 ≤ (bkR T p b).2.1.1 ∧ (rbR T p vl got b').2.2.1 < 100000 ∧ (tkK T len (bkR T p b).2.1.1 = 2 → (rbR T p vl got b').2.2.1 = tkN T len (bkR T p b).2.1.1) ∧ Bq (bkR T p b).2.2 (rbR T p vl got b').2.2.2.2) := by
  have hV : ∀ {q v : Nat}, v < 100000 → tkV T len q v < 100000 := fun h => tkV_lt hTa h
  have r1 := rnB_rn (hi := 99) hv (by omega) (by decide)
  have r2 := rnB_rn (T := T) (len := len) (p := (nxP T len p).1) (vl := tkV T len (tkE T len p.1) vl) (hi := 4) (fun h => tkV_N h) (by have := hV (q := tkE T len p.1) hvl; omega) (by decide)
  have r3 := rnB_rn (T := T) (len := len) (p := (nxP T len (nxP T len p)).1) (vl := tkV T len (tkE T len (nxP T len p).1) (tkV T len (tkE T len p.1) vl)) (hi := 5) (fun h => tkV_N h) (by have := hV (q := tkE T len (nxP T len p).1) (hV (q := tkE T len p.1) hvl); omega) (by decide)
  unfold bkR rbR
  by_cases c1 : rnN T len 99 p.1 < 1000
  · obtain ⟨k1, n1, q1⟩ := rnN_v c1
    have q1 := q1 p rfl
    rw [if_pos (r1.mpr c1), q1]
    by_cases c2 : rnN T len 4 (nxP T len p).1 < 1000
    · obtain ⟨k2, n2, q2⟩ := rnN_v c2
      have q2 := q2 _ rfl
      rw [if_pos (r2.mpr c2), q2]
      by_cases c3 : rnN T len 5 (nxP T len (nxP T len p)).1 < 1000
      · obtain ⟨k3, n3, q3⟩ := rnN_v c3
        have q3 := q3 _ rfl
        rw [if_pos (r3.mpr c3), q3]
        unfold rbC
        by_cases c4 : tkK T len (nxP T len (nxP T len (nxP T len p))).1 = 3
        · rw [if_pos ⟨⟨c1, c2, c3⟩, c4⟩, if_pos c4]
          refine ⟨rfl, fun _ => ⟨rfl, ?_, hV (hV (hV (hV hvl))), fun h => tkV_N h, ?_⟩⟩
          · have g1 := tk2_gt k1
            have g2 := tk2_go k1 k2
            have g3 := tk2_go k2 k3
            have g4 := tkE_gt c4
            show p.1 + 6 ≤ tkE T len (nxP T len (nxP T len (nxP T len p))).1
            have e1 : (nxP T len p).1 = tkE T len p.1 := rfl
            have e2 : (nxP T len (nxP T len p)).1 = tkE T len (nxP T len p).1 := rfl
            have e3 : (nxP T len (nxP T len (nxP T len p))).1 = tkE T len (nxP T len (nxP T len p)).1 := rfl
            rw [← e1] at g1
            rw [← e1, ← e2] at g2
            rw [← e2, ← e3] at g3
            omega
          · refine ⟨by show b.1 + 1 = b'.1 + 1; rw [hb.1], fun k hk => ?_⟩
            have hk : k < b.1 + 1 := hk
            show upN b.2.1 b.1 (rnN T len 99 p.1) k = upN b'.2.1 b'.1 vl k ∧ upN b.2.2.1 b.1 (rnN T len 4 (nxP T len p).1) k = upN b'.2.2.1 b'.1 (tkV T len (tkE T len p.1) vl) k ∧ upN b.2.2.2 b.1 (rnN T len 5 (nxP T len (nxP T len p)).1) k = upN b'.2.2.2 b'.1 (tkV T len (tkE T len (nxP T len p).1) (tkV T len (tkE T len p.1) vl)) k
            rw [n1, n2, n3, hv k1, ← hb.1]
            have e2 : tkV T len (tkE T len p.1) (tkN T len p.1) = tkN T len (nxP T len p).1 := tkV_N k2
            have e3 : ∀ v, tkV T len (tkE T len (nxP T len p).1) v = tkN T len (nxP T len (nxP T len p)).1 := fun v => tkV_N k3
            rw [e3, e2]
            exact ⟨up_below _ (fun h => (hb.2 k h).1) hk, up_below _ (fun h => (hb.2 k h).2.1) hk, up_below _ (fun h => (hb.2 k h).2.2) hk⟩
        · rw [if_neg (fun z => c4 z.2), if_neg c4]
          exact ⟨rfl, fun z => absurd z nft⟩
      · rw [if_neg (fun z => c3 z.1.2.2), if_neg (fun z => c3 (r3.mp z))]
        exact ⟨rfl, fun z => absurd z nft⟩
    · rw [if_neg (fun z => c2 z.1.2.1), if_neg (fun z => c2 (r2.mp z))]
      exact ⟨rfl, fun z => absurd z nft⟩
  · rw [if_neg (fun z => c1 z.1.1), if_neg (fun z => c1 (r1.mp z))]
    exact ⟨rfl, fun z => absurd z nft⟩
theorem tkK_end (T : Nat → Nat) (len : Nat) : tkK T len len = 0 := by
  have h : tkS T len len = len := by
    unfold tkS
    rw [Nat.sub_self]
    rfl
  unfold tkK
  rw [h, if_neg (Nat.lt_irrefl _)]
theorem book_eq {T : Nat → Nat} {len : Nat} (hl : len ≤ 900) (hTa : ∀ k, T k < 256) : ∀ (n m : Nat) (p : Fin (len + 1)) (vl : Nat) (got : Int32) (b b' : Bki), b.1 + n = 150 → (tkK T len p.1 = 2 → vl = tkN T len p.1) → vl < 100000 → Bq b b' → 6 * b.1 ≤ p.1 → len - p.1 < m → ((bwF T n p b).1 && decide (tkK T len (bwF T n p b).2.1.1 = 0)) = (rbF T m (p, vl, got, b')).1 ∧ ((rbF T m (p, vl, got, b')).1 = true → Bq (bwF T n p b).2.2 (rbF T m (p, vl, got, b')).2.2.2.2) := by
  intro n
  induction n with
  | zero =>
    intro m p vl got b b' hn hv hvl hb h6 hm
    have hp := p.2
    obtain ⟨m, rfl⟩ : ∃ m', m = m' + 1 := ⟨m - 1, by omega⟩
    have hpl : p.1 = len := by omega
    have hk : tkK T len p.1 = 0 := by rw [hpl]; exact tkK_end T len
    have hu : rbF T (m + 1) (p, vl, got, b') = (true, p, vl, got, b') := if_pos hk
    rw [hu]
    show (true && decide (tkK T len p.1 = 0)) = true ∧ _
    rw [decide_eq_true hk]
    exact ⟨rfl, fun _ => hb⟩
  | succ n ih =>
    intro m p vl got b b' hn hv hvl hb h6 hm
    have hp := p.2
    obtain ⟨m, rfl⟩ : ∃ m', m = m' + 1 := ⟨m - 1, by omega⟩
    have hu : bwF T (n + 1) p b = if tkK T len p.1 = 0 then (true, p, b) else if (bkR T p b).1 then bwF T n (bkR T p b).2.1 (bkR T p b).2.2 else bkR T p b := rfl
    have hw : rbF T (m + 1) (p, vl, got, b') = if tkK T len p.1 = 0 then (true, p, vl, got, b') else if (rbR T p vl got b').1 then rbF T m (rbR T p vl got b').2 else rbR T p vl got b' := rfl
    rw [hu, hw]
    by_cases hk : tkK T len p.1 = 0
    · rw [if_pos hk, if_pos hk]
      show (true && decide (tkK T len p.1 = 0)) = true ∧ _
      rw [decide_eq_true hk]
      exact ⟨rfl, fun _ => hb⟩
    · rw [if_neg hk, if_neg hk]
      have hr := row_eq hTa p vl got b b' hv hvl hb
      have h1 := bkR_1 (T := T) (p := p) (b := b)
      generalize bkR T p b = y at *
      generalize rbR T p vl got b' = z at *
      obtain ⟨z1, z2, z3, z4, z5⟩ := z
      rw [hr.1]
      by_cases c : z1 = true
      · obtain ⟨a1, a2, a3, a4, a5⟩ := hr.2 (hr.1.trans c)
        rw [if_pos c, if_pos c]
        have a1 : y.2.1 = z2 := a1
        have a3 : z3 < 100000 := a3
        have a4 : tkK T len y.2.1.1 = 2 → z3 = tkN T len y.2.1.1 := a4
        have a5 : Bq y.2.2 z5 := a5
        have h1 := h1 (hr.1.trans c)
        rw [a1] at a2 a4 ⊢
        exact ih m z2 z3 z4 y.2.2 z5 (by omega) a4 a3 a5 (by omega) (by omega)
      · rw [if_neg c, if_neg c]
        have e : y.1 = z1 := hr.1
        have hz : z1 = false := by cases z1; rfl; exact absurd rfl c
        rw [e, hz, Bool.false_and]
        exact ⟨rfl, fun z => absurd z nft⟩
