/-! THE CLASS'S ROWS OF A DAY -/
def dyN (V : Vil) (P : Nat → Nat) (L : Nat → Int32) (S : Scn) (p : Nat) (ch : Nat → Nat) : Nat → Scn
  | 0 => S
  | k + 1 => gon V L (fun j => if wkB V j (psS S + k) then 5 else if j = p then plc V (ch k) else P (j * 4 + (psS S + k) % 4)) (dyN V P L S p ch k)
theorem dyN_ps (V : Vil) (P : Nat → Nat) (L : Nat → Int32) (S : Scn) (p : Nat) (ch : Nat → Nat) : ∀ k, psS (dyN V P L S p ch k) = psS S + k := by
  intro k
  induction k with
  | zero => rfl
  | succ k ih =>
    show psS (gon _ _ _ _) = _
    rw [gon_ps, ih]
    rfl
theorem dyN_ext {V : Vil} {P : Nat → Nat} {L : Nat → Int32} {S : Scn} {p : Nat} {ch ch' : Nat → Nat} : ∀ k, (∀ j, j < k → ch j = ch' j) → dyN V P L S p ch k = dyN V P L S p ch' k := by
  intro k
  induction k with
  | zero => intro _; rfl
  | succ k ih =>
    intro h
    show gon _ _ _ _ = gon _ _ _ _
    rw [ih (fun j hj => h j (by omega)), h k (by omega)]
theorem dyN_run {V : Vil} {P : Nat → Nat} {L : Nat → Int32} {S : Scn} {p : Nat} {ch c : Nat → Nat} : ∀ k, (∀ j, j < k → ch j = c ((psS S + j) % 4)) → dyN V P L S p ch k = run V (plA V P p c) L S k := by
  intro k
  induction k with
  | zero => intro _; rfl
  | succ k ih =>
    intro h
    show gon _ _ _ _ = gon _ _ _ _
    rw [ih (fun j hj => h j (by omega))]
    refine gon_W (fun j hj => ?_)
    unfold wsh plA
    rw [run_ps]
    have e1 : (j * 4 + (psS S + k) % 4) / 4 = j := by omega
    have e2 : (j * 4 + (psS S + k) % 4) % 4 = (psS S + k) % 4 := by omega
    rw [e1, e2, h k (by omega)]
theorem pdW_at (V : Vil) (P ch W : Nat → Nat) (t k p j : Nat) (hj : j < npV V) : pdW V P ch W t k p j = if wkB V j t then 5 else if j = p then plc V (ch k) else P (j * 4 + t % 4) := by
  unfold pdW
  by_cases hw : wkB V p t = true
  · rw [if_pos hw, fwF_at _ _ _ _ _ _ hj]
    by_cases e : j = p
    · subst e; rw [if_pos hw, if_pos hw]
    · rw [if_neg e]
  · rw [if_neg hw]
    by_cases e : j = p
    · subst e; rw [upN_self, if_neg hw, if_pos rfl]
    · rw [upN_ne _ _ e, fwF_at _ _ _ _ _ _ hj, if_neg e]
theorem upS_self (f : Nat → Scn) (k : Nat) (x : Scn) : upS f k x k = x := if_pos rfl
theorem upS_ne (f : Nat → Scn) {k j : Nat} (x : Scn) (h : ¬ j = k) : upS f k x j = f j := if_neg h
theorem dyF_d {T : Tst} {p c : Nat} (h : ∀ k, k ≤ c → dT T k = dyN (vT T) (pT T) (lT T) (oT T) p (cT T) k) : ∀ n k, k ≤ c + n → dT (dyF T p c n) k = dyN (vT T) (pT T) (lT T) (oT T) p (cT T) k := by
  intro n
  induction n with
  | zero => intro k hk; exact h k hk
  | succ n ih =>
    intro k hk
    obtain ⟨e1, -, e3, e4, e5, -, e7, -, -, -, -⟩ := dyF_same T p c n
    have hu : dT (dyF T p c (n + 1)) = upS (dT (dyF T p c n)) (c + n + 1) (gon (vT (dyF T p c n)) (lT (dyF T p c n)) (pdW (vT (dyF T p c n)) (pT (dyF T p c n)) (cT (dyF T p c n)) (wT (dyF T p c n)) (psS (dT (dyF T p c n) (c + n))) (c + n) p) (dT (dyF T p c n) (c + n))) := rfl
    rw [hu, e1, e3, e4, e7]
    by_cases e : k = c + n + 1
    · subst e
      rw [upS_self, ih (c + n) (by omega), dyN_ps]
      exact gon_W (fun j hj => pdW_at _ _ _ _ _ _ _ j hj)
    · rw [upS_ne _ _ e]
      exact ih k (by omega)
/-- better: more, or as much by a lesser row -/
def btr (g r b s : Int32) : Prop := b.toInt < g.toInt ∨ (g.toInt = b.toInt ∧ r.toInt < s.toInt)
def gnC (V : Vil) (P : Nat → Nat) (L : Nat → Int32) (S : Scn) (p : Nat) (ch : Nat → Nat) : Int32 := alS (dyN V P L S p ch 4) p - alS S p
theorem rowF_ext (O : Scn) {ch ch' : Nat → Nat} : ∀ k, (∀ j, j < k → ch j = ch' j) → rowF O ch k = rowF O ch' k := by
  intro k
  induction k with
  | zero => intro _; rfl
  | succ k ih =>
    intro h
    show rowF O ch k ||| _ = rowF O ch' k ||| _
    rw [ih (fun j hj => h j (by omega)), h k (by omega)]
theorem fb_all (p : Nat) (V : Vil) (P : Nat → Nat) (L : Nat → Int32) (S : Scn) (mo : Nat → Nat) : ∀ (n : Nat) (T : Tst) (c : Nat), vT T = V → pT T = P → lT T = L → oT T = S → mT T = mo → zT T = 4 → (¬ c = 5 → c < 4 ∧ (∀ k, k < 4 → cT T k < mo k) ∧ (∀ k, k ≤ c → dT T k = dyN V P L S p (cT T) k) ∧ ttF mo 4 ≤ nvF mo 4 (cT T) + n) →
    (vT (fbF p n T c) = V ∧ pT (fbF p n T c) = P ∧ lT (fbF p n T c) = L ∧ oT (fbF p n T c) = S) ∧
    (¬ c = 5 → ∀ ch, (∀ k, k < 4 → ch k < mo k) → nvF mo 4 (cT T) ≤ nvF mo 4 ch → ¬ btr (gnC V P L S p ch) (rowF S ch 4) (bsT (fbF p n T c)) (brT (fbF p n T c))) ∧
    ¬ btr (bsT T) (brT T) (bsT (fbF p n T c)) (brT (fbF p n T c)) ∧
    ((bsT (fbF p n T c) = bsT T ∧ brT (fbF p n T c) = brT T) ∨ ∃ ch, (∀ k, k < 4 → ch k < mo k) ∧ bsT (fbF p n T c) = gnC V P L S p ch ∧ brT (fbF p n T c) = rowF S ch 4 ∧ btr (bsT (fbF p n T c)) (brT (fbF p n T c)) (bsT T) (brT T)) := by
  intro n
  induction n with
  | zero =>
    intro T c h1 h2 h3 h4 h5 h6 h7
    have hi : ∀ x y : Int32, ¬ btr x y x y := fun x y z => by unfold btr at z; omega
    refine ⟨⟨h1, h2, h3, h4⟩, fun hc ch hch _ => ?_, hi _ _, Or.inl ⟨rfl, rfl⟩⟩
    have a := h7 hc
    have b := nvF_lt mo 4 a.2.1
    omega
  | succ n ih =>
    intro T c h1 h2 h3 h4 h5 h6 h7
    have hi : ∀ x y : Int32, ¬ btr x y x y := fun x y z => by unfold btr at z; omega
    by_cases hc : c = 5
    · have hu : fbF p (n + 1) T c = T := if_pos hc
      rw [hu]
      exact ⟨⟨h1, h2, h3, h4⟩, fun z => absurd hc z, hi _ _, Or.inl ⟨rfl, rfl⟩⟩
    · obtain ⟨c1, c2, c3, c4⟩ := h7 hc
      have hu : fbF p (n + 1) T c = fbF p n (uC (jdT (dyF T p c (4 - c)) p) (gcF (mT T) (zT T) (cT T)).1) (gcF (mT T) (zT T) (cT T)).2 := if_neg hc
      rw [hu]
      obtain ⟨e1, e2, e3, e4, e5, e6, e7, e8, e9, e10, e11⟩ := dyF_same T p c (4 - c)
      obtain ⟨j1, j2, j3, j4, j5, j6, j7, j8, j9, j10⟩ := jdT_same (dyF T p c (4 - c)) p
      have hd := dyF_d (T := T) (p := p) (c := c) (by rw [h1, h2, h3, h4]; exact c3) (4 - c)
      rw [h1, h2, h3, h4] at hd
      have hg : gnT (dyF T p c (4 - c)) p = gnC V P L S p (cT T) := by
        unfold gnT gnC
        rw [hd 4 (by omega), e5, h4]
      have hr : rowF (oT (dyF T p c (4 - c))) (cT (dyF T p c (4 - c))) 4 = rowF S (cT T) 4 := by rw [e5, e7, h4]
      have hJ : (bsT (jdT (dyF T p c (4 - c)) p) = gnC V P L S p (cT T) ∧ brT (jdT (dyF T p c (4 - c)) p) = rowF S (cT T) 4 ∧ btr (gnC V P L S p (cT T)) (rowF S (cT T) 4) (bsT T) (brT T)) ∨ (bsT (jdT (dyF T p c (4 - c)) p) = bsT T ∧ brT (jdT (dyF T p c (4 - c)) p) = brT T ∧ ¬ btr (gnC V P L S p (cT T)) (rowF S (cT T) 4) (bsT T) (brT T)) := by
        unfold jdT
        rw [hg, hr, e10, e11]
        by_cases hb : bsT T < gnC V P L S p (cT T) ∨ gnC V P L S p (cT T) = bsT T ∧ rowF S (cT T) 4 < brT T
        · rw [if_pos hb]
          refine Or.inl ⟨rfl, rfl, ?_⟩
          unfold btr
          rw [ltI, ltI, eqI] at hb
          exact hb
        · rw [if_neg hb]
          refine Or.inr ⟨e10, e11, ?_⟩
          unfold btr
          rw [ltI, ltI, eqI] at hb
          exact hb
      have hsp := gcF_sp mo 4 (cT T) c2
      have hlt := nvF_lt mo 4 c2
      have k1 : vT (jdT (dyF T p c (4 - c)) p) = V := (j1.trans e1).trans h1
      have k2 : pT (jdT (dyF T p c (4 - c)) p) = P := (j3.trans e3).trans h2
      have k3 : lT (jdT (dyF T p c (4 - c)) p) = L := (j4.trans e4).trans h3
      have k4 : oT (jdT (dyF T p c (4 - c)) p) = S := (j5.trans e5).trans h4
      have k5 : mT (jdT (dyF T p c (4 - c)) p) = mo := (j8.trans e8).trans h5
      have k6 : zT (jdT (dyF T p c (4 - c)) p) = 4 := (j9.trans e9).trans h6
      have k7 : ∀ k, k ≤ 4 → dT (jdT (dyF T p c (4 - c)) p) k = dyN V P L S p (cT T) k := fun k hk => by rw [j10]; exact hd k (by omega)
      rw [h5, h6]
      clear hd hu hg hr e1 e2 e3 e4 e5 e6 e7 e8 e9 e10 e11 j1 j2 j3 j4 j5 j6 j7 j8 j9 j10
      generalize jdT (dyF T p c (4 - c)) p = J at *
      generalize gcF mo 4 (cT T) = q at *
      have ih := ih (uC J q.1) q.2 k1 k2 k3 k4 k5 k6 (fun hq => by
        rcases hsp with ⟨a1, a2⟩ | ⟨a1, a2, a3, a4, a5⟩
        · exact absurd a1 hq
        · refine ⟨a1, a2, fun k hk => ?_, ?_⟩
          · show dT J k = dyN V P L S p q.1 k
            rw [k7 k (by omega)]
            exact dyN_ext k (fun j hj => (a3 j (by omega)).symm)
          · show ttF mo 4 ≤ nvF mo 4 q.1 + n
            rw [a4]
            omega)
      have f1 : bsT (uC J q.1) = bsT J := rfl
      have f2 : brT (uC J q.1) = brT J := rfl
      have f3 : cT (uC J q.1) = q.1 := rfl
      rw [f1, f2, f3] at ih
      generalize fbF p n (uC J q.1) q.2 = R at *
      obtain ⟨i1, i2, i3, i4⟩ := ih
      refine ⟨i1, fun _ ch hch hle => ?_, ?_, ?_⟩
      · by_cases he : nvF mo 4 (cT T) = nvF mo 4 ch
        · have hx := nvF_inj mo 4 c2 hch he
          have x1 : gnC V P L S p ch = gnC V P L S p (cT T) := by
            unfold gnC
            rw [dyN_ext 4 (fun j hj => (hx j hj).symm)]
          have x2 : rowF S ch 4 = rowF S (cT T) 4 := rowF_ext S 4 (fun j hj => (hx j hj).symm)
          rw [x1, x2]
          rcases hJ with ⟨y1, y2, y3⟩ | ⟨y1, y2, y3⟩
          · rw [y1, y2] at i3; exact i3
          · rw [y1, y2] at i3
            unfold btr at i3 y3 ⊢
            omega
        · rcases hsp with ⟨a1, a2⟩ | ⟨a1, a2, a3, a4, a5⟩
          · have := nvF_lt mo 4 hch
            omega
          · exact i2 (by omega) ch hch (by omega)
      · rcases hJ with ⟨y1, y2, y3⟩ | ⟨y1, y2, y3⟩
        · rw [y1, y2] at i3
          unfold btr at i3 y3 ⊢
          omega
        · rw [y1, y2] at i3; exact i3
      · rcases hJ with ⟨y1, y2, y3⟩ | ⟨y1, y2, y3⟩
        · rw [y1, y2] at i4
          rcases i4 with ⟨z1, z2⟩ | ⟨ch, z1, z2, z3, z4⟩
          · exact Or.inr ⟨cT T, c2, z1, z2, by rw [z1, z2]; exact y3⟩
          · refine Or.inr ⟨ch, z1, z2, z3, ?_⟩
            unfold btr at z4 y3 ⊢
            omega
        · rw [y1, y2] at i4
          exact i4
