/-! TELLING: bits, words, numbers, names -/
theorem sh31 : ∀ p, p < 32 → ((nI p &&& 31 : Int32).toBitVec.smod 32).toNat = p := by decide +kernel
theorem tb1 {i : Nat} (h : ¬ i = 0) : Nat.testBit 1 i = false := by
  obtain ⟨j, rfl⟩ : ∃ j, i = j + 1 := ⟨i - 1, by omega⟩
  rw [Nat.testBit_succ]
  show Nat.testBit 0 j = false
  exact Nat.zero_testBit j
theorem and1_iff (y : BitVec 32) : y &&& 1#32 = 1#32 ↔ y.getLsbD 0 = true := by
  constructor
  · intro h
    have h2 := congrArg (fun z => z.getLsbD 0) h
    simp only [BitVec.getLsbD_and] at h2
    have e : (1#32).getLsbD 0 = true := by decide
    rw [e, Bool.and_true] at h2
    exact h2
  · intro h
    apply BitVec.eq_of_getLsbD_eq
    intro i hi
    rw [BitVec.getLsbD_and]
    by_cases e : i = 0
    · subst e
      rw [h, Bool.true_and]
    · have e1 : (1#32).getLsbD i = false := by
        rw [BitVec.getLsbD_ofNat]
        have : Nat.testBit 1 i = false := tb1 e
        rw [this, Bool.and_false]
      rw [e1, Bool.and_false]
theorem bt_get (x : Int32) {p : Nat} (hp : p < 32) : bt x p = x.toBitVec.getLsbD p := by
  have hs : (x >>> (nI p &&& 31)).toBitVec = x.toBitVec.sshiftRight p := by
    show x.toBitVec.sshiftRight ((nI p &&& 31 : Int32).toBitVec.smod 32).toNat = _
    rw [sh31 p hp]
  have hiff : ((x >>> (nI p &&& 31)) &&& nI 1 = nI 1) ↔ x.toBitVec.getLsbD p = true := by
    rw [← Int32.toBitVec_inj]
    show (x >>> (nI p &&& 31)).toBitVec &&& 1#32 = 1#32 ↔ _
    rw [hs, and1_iff, BitVec.getLsbD_sshiftRight]
    simp only [hp, Nat.add_zero, if_true, show ¬ 32 ≤ 0 by omega, decide_false, Bool.not_false, Bool.true_and]
  unfold bt
  cases h : x.toBitVec.getLsbD p
  · exact decide_eq_false (fun z => by rw [hiff.mp z] at h; exact absurd h (by decide))
  · exact decide_eq_true (hiff.mpr h)
theorem one_sh {c : Nat} (hc : c < 32) {d : Nat} (hd : d < 32) : (nI 1 <<< (nI c &&& 31)).toBitVec.getLsbD d = decide (d = c) := by
  have hs : (nI 1 <<< (nI c &&& 31)).toBitVec = (1#32) <<< c := by
    show (1#32) <<< ((nI c &&& 31 : Int32).toBitVec.smod 32).toNat = _
    rw [sh31 c hc]
  rw [hs, BitVec.getLsbD_shiftLeft]
  by_cases e : d = c
  · subst e
    simp only [hd, decide_true, Bool.true_and, Nat.lt_irrefl, decide_false, Bool.not_false, Nat.sub_self]
    decide
  · by_cases e2 : d < c
    · simp only [hd, e2, decide_true, Bool.true_and, Bool.not_true, Bool.false_and, e, decide_false]
    · have : (1#32).getLsbD (d - c) = false := by
        rw [BitVec.getLsbD_ofNat]
        have : Nat.testBit 1 (d - c) = false := tb1 (by omega)
        rw [this, Bool.and_false]
      rw [this, Bool.and_false]
      exact (decide_eq_false e).symm
theorem bt_or (x : Int32) {c d : Nat} (hc : c < 32) (hd : d < 32) : bt (x ||| (nI 1 <<< (nI c &&& 31))) d = (bt x d || decide (d = c)) := by
  rw [bt_get _ hd, bt_get _ hd]
  show (x.toBitVec ||| (nI 1 <<< (nI c &&& 31)).toBitVec).getLsbD d = _
  rw [BitVec.getLsbD_or, one_sh hc hd]
theorem bt_cl (x : Int32) {c d : Nat} (hc : c < 32) (hd : d < 32) : bt (x &&& ((nI 1 <<< (nI c &&& 31)) ^^^ (-1))) d = (bt x d && !decide (d = c)) := by
  rw [bt_get _ hd, bt_get _ hd]
  show (x.toBitVec &&& ((nI 1 <<< (nI c &&& 31)).toBitVec ^^^ (-1 : Int32).toBitVec)).getLsbD d = _
  have e : (-1 : Int32).toBitVec = BitVec.allOnes 32 := by decide
  rw [e, BitVec.xor_allOnes, BitVec.getLsbD_and, BitVec.getLsbD_not, one_sh hc hd, decide_eq_true hd, Bool.true_and]
theorem bt_0 {d : Nat} (hd : d < 32) : bt (nI 0) d = false := by
  rw [bt_get _ hd]
  show (0#32).getLsbD d = false
  exact BitVec.getLsbD_zero
theorem wd_ex {T : Nat → Nat} {s e kd t t' : Nat} (hx : tlN t ≠ tlN t' ∨ ∃ k, k < tlN t ∧ k < tlN t' ∧ tcN t k ≠ tcN t' k) (h : wdB T s e kd t = true) : wdB T s e kd t' = false := by
  cases h' : wdB T s e kd t'
  · rfl
  · exfalso
    unfold wdB at h h'
    obtain ⟨a, b⟩ := Bool.and_eq_true_iff.mp h
    obtain ⟨a1, a2⟩ := Bool.and_eq_true_iff.mp a
    obtain ⟨a', b'⟩ := Bool.and_eq_true_iff.mp h'
    obtain ⟨a1', a2'⟩ := Bool.and_eq_true_iff.mp a'
    have l := of_decide_eq_true a2
    have l' := of_decide_eq_true a2'
    rw [itB_all] at b b'
    rcases hx with hx | ⟨k, k1, k2, k3⟩
    · exact hx (l.symm.trans l')
    · have c1 : T (s + k) = tcN t k := of_decide_eq_true (b k k1)
      have c2 : T (s + k) = tcN t' k := of_decide_eq_true (b' k k2)
      exact k3 (c1.symm.trans c2)
theorem wd_5 {T : Nat → Nat} {len p : Nat} (h : wdP T len p 5 = true) : wdP T len p 6 = false ∧ wdP T len p 7 = false ∧ wdP T len p 8 = false ∧ wdP T len p 9 = false ∧ wdP T len p 10 = false ∧ wdP T len p 11 = false := by
  unfold wdP at h ⊢
  exact ⟨wd_ex (by decide +kernel) h, wd_ex (by decide +kernel) h, wd_ex (by decide +kernel) h, wd_ex (by decide +kernel) h, wd_ex (by decide +kernel) h, wd_ex (by decide +kernel) h⟩
theorem wd_k1 {T : Nat → Nat} {len p t : Nat} (h : wdP T len p t = true) : tkK T len p = 1 := by
  unfold wdP wdB at h
  exact of_decide_eq_true (Bool.and_eq_true_iff.mp (Bool.and_eq_true_iff.mp h).1).1
/-! numbers -/
def okN (T : Nat → Nat) (len : Nat) (lo hi : Int32) (p : Nat) : Bool := decide (tkK T len p = 2) && rgB (nI (tkN T len p)) lo hi
def kkN (T : Nat → Nat) (len p : Nat) : Nat := if tkK T len p = 2 then 2 else 1
theorem rdN_e (T : Nat → Nat) {len : Nat} (lo hi : Int32) (p : Fin (len + 1)) (V : Vil) (X : Vix) (a : Int32) : rdN T lo hi (p, V, X, 0, a) = (tkN T len p.1, if okN T len lo hi p.1 then (nxP T len p, V, X, 0, a) else (p, V, X, kkN T len p.1, nI (tkS T len p.1))) := by
  unfold rdN okN kkN
  rw [if_pos (show ((p, V, X, 0, a) : Tlt len).2.2.2.1 = 0 from rfl)]
  show (if tkK T len p.1 = 2 then (if nI (tkN T len p.1) < lo ∨ hi < nI (tkN T len p.1) then (tkN T len p.1, blm T (p, V, X, 0, a) 2) else (tkN T len p.1, adv T (p, V, X, 0, a))) else (tkN T len p.1, blm T (p, V, X, 0, a) 1)) = _
  by_cases c : tkK T len p.1 = 2
  · rw [if_pos c, if_pos c, decide_eq_true c, Bool.true_and]
    by_cases c2 : nI (tkN T len p.1) < lo ∨ hi < nI (tkN T len p.1)
    · rw [if_pos c2, if_neg (fun z => by have := rgB_f z; rcases c2 with c2 | c2; exact this.1 c2; exact this.2 c2)]
      rfl
    · rw [if_neg c2, if_pos (rgB_t (fun z => c2 (Or.inl z)) (fun z => c2 (Or.inr z)))]
      rfl
  · rw [if_neg c, if_neg c, decide_eq_false c, Bool.false_and, if_neg nft]
    rfl
theorem rdN_f (T : Nat → Nat) {len : Nat} (lo hi : Int32) (z : Tlt len) (h : ¬ z.2.2.2.1 = 0) : rdN T lo hi z = (0, z) := if_neg h
theorem nuB_e {T : Nat → Nat} {len : Nat} (lo hi : Int32) (y : Rst len) (hv : tkK T len y.1.1 = 2 → y.2.1 = tkN T len y.1.1) : nuB T lo hi y = okN T len lo hi y.1.1 := by
  unfold nuB rnB okN
  by_cases c : tkK T len y.1.1 = 2
  · rw [hv c]
  · rw [decide_eq_false c, Bool.false_and, Bool.false_and]
theorem nuR_e {T : Nat → Nat} {len : Nat} (lo hi : Int32) (y : Rst len) (hv : tkK T len y.1.1 = 2 → y.2.1 = tkN T len y.1.1) : nuR T lo hi y = if okN T len lo hi y.1.1 then (nxP T len y.1, tkV T len (tkE T len y.1.1) y.2.1, nI (tkN T len y.1.1), y.2.2.2) else (y.1, y.2.1, y.2.2.1, y.2.2.2.1, y.2.2.2.2.1, kkN T len y.1.1, nI (tkS T len y.1.1)) := by
  have hb := nuB_e lo hi y hv
  unfold nuB at hb
  unfold nuR nuT
  rw [hb]
  by_cases c : okN T len lo hi y.1.1 = true
  · rw [if_pos c, if_pos c]
    have c1 : tkK T len y.1.1 = 2 := of_decide_eq_true (Bool.and_eq_true_iff.mp c).1
    show (nxP T len y.1, tkV T len (tkE T len y.1.1) y.2.1, nI y.2.1, y.2.2.2.1, y.2.2.2.2.1, y.2.2.2.2.2.1, y.2.2.2.2.2.2) = _
    rw [hv c1]
  · rw [if_neg c, if_neg c]
    unfold kkN
    by_cases c2 : tkK T len y.1.1 = 2
    · rw [if_pos c2, if_pos c2]
    · rw [if_neg c2, if_neg c2]
theorem kkN_ne (T : Nat → Nat) (len p : Nat) : ¬ kkN T len p = 0 := by unfold kkN; split <;> omega
/-! what is told so far -/
def Bv (V : Vil) (X : Vix) : Prop := Vb V ∧ ∀ h, h < nhV V → Ib (X.2.2.2.2.1 h) 0 99 ∧ Ib (X.2.2.2.2.2.1 h) 0 100
theorem okN_ib {T : Nat → Nat} {len : Nat} {lo hi : Int32} {p : Nat} (h : okN T len lo hi p = true) : Ib (nI (tkN T len p)) lo.toInt hi.toInt := by
  have h1 := (Bool.and_eq_true_iff.mp h).2
  unfold rgB at h1
  obtain ⟨h2, h3⟩ := Bool.and_eq_true_iff.mp h1
  have h4 : ¬ nI (tkN T len p) < lo := fun w => by rw [decide_eq_true w] at h2; exact absurd h2 (by decide)
  have h5 : ¬ hi < nI (tkN T len p) := fun w => by rw [decide_eq_true w] at h3; exact absurd h3 (by decide)
  rw [Int32.lt_iff_toInt_lt] at h4 h5
  exact ⟨by omega, by omega⟩
def Vr (V : Vil) (X : Vix) (V' : Vil) (X' : Vix) : Prop :=
  (nhV V = nhV V' ∧ npV V = npV V' ∧ laV V = laV V' ∧ nhV V ≤ 5 ∧ npV V ≤ 5 ∧ X.1 = X'.1 ∧ Bv V X) ∧
  ((∀ k, k < 6 → ruV V k = ruV V' k) ∧ (∀ h, h < nhV V → woV V h = woV V' h) ∧ (∀ h, h < nhV V → owV V h = owV V' h) ∧ (∀ p, p < npV V → hoV V p = hoV V' p) ∧ (∀ p, p < npV V → wkV V p = wkV V' p) ∧ (∀ p q, p < npV V → q < 5 → tiV V (p * 5 + q) = tiV V' (p * 5 + q))) ∧
  ((∀ h, h < nhV V → X.2.2.2.2.1 h = X'.2.2.2.2.1 h) ∧ (∀ h, h < nhV V → X.2.2.2.2.2.1 h = X'.2.2.2.2.2.1 h) ∧ (∀ h, h < nhV V → X.2.2.2.1 h = X'.2.2.2.1 h) ∧ (∀ p, p < npV V → X.2.2.2.2.2.2 p = X'.2.2.2.2.2.2 p)) ∧
  ((∀ r, r < 6 → bt X.2.1 r = bt X'.2.1 r) ∧ bt X'.2.1 6 = laV V ∧ (∀ m, m < 25 → bt X.2.2.1 m = bt X'.2.2.1 m) ∧ (∀ p q, p < 5 → q < 5 → (npV V ≤ p ∨ npV V ≤ q) → bt X.2.2.1 (p * 5 + q) = false)) ∧
  ((∀ h, nhV V ≤ h → owV V h = 5) ∧ (∀ p, npV V ≤ p → hoV V p = 5) ∧ (∀ p, npV V ≤ p → wkV V p = nI 0) ∧ (∀ p q, q < 5 → (npV V ≤ p ∨ npV V ≤ q) → tiV V (p * 5 + q) = nI 0)) ∧
  Vok V
/-- no fault yet -/
def Rl (T : Nat → Nat) {len : Nat} (z : Tlt len) (y : Rst len) : Prop := z.1 = y.1 ∧ z.2.2.2.1 = 0 ∧ ((tkK T len y.1.1 = 2 → y.2.1 = tkN T len y.1.1) ∧ y.2.2.2.2.2.1 = 0 ∧ z.2.2.2.2 = y.2.2.2.2.2.2) ∧ y.2.1 < 100000 ∧ Vr z.2.1 z.2.2.1 y.2.2.2.1 y.2.2.2.2.1
/-- the same fault -/
def Fl {len : Nat} (z : Tlt len) (y : Rst len) : Prop := ¬ z.2.2.2.1 = 0 ∧ z.2.2.2.1 = y.2.2.2.2.2.1 ∧ z.2.2.2.2 = y.2.2.2.2.2.2
def Ou (T : Nat → Nat) {len : Nat} (z : Tlt len) (b : Bool × Rst len) : Prop := (b.1 = true ∧ Rl T z b.2) ∨ (b.1 = false ∧ Fl z b.2)
theorem fnd_ext {g g' : Nat → Int64} {x : Int64} : ∀ n k, (∀ j, k ≤ j → j < k + n → g j = g' j) → fnd g x n k = fnd g' x n k := by
  intro n
  induction n with
  | zero => intro k _; rfl
  | succ n ih =>
    intro k h
    show (if g k = x then k else fnd g x n (k + 1)) = (if g' k = x then k else fnd g' x n (k + 1))
    rw [h k (Nat.le_refl _) (by omega), ih (k + 1) (fun j h1 h2 => h j (by omega) (by omega))]
/-- the place part -/
theorem Rl.mk' {T : Nat → Nat} {len : Nat} (hTa : ∀ k, T k < 256) {p : Fin (len + 1)} {v : Nat} {V V' : Vil} {X X' : Vix} {a : Int32} {got : Int32} {f : Nat} {fa : Int32} (hfa : f = 0 ∧ a = fa) (q : Nat) (hq : q = p.1) (hv : v < 100000) (hV : Vr V X V' X') : Rl T ((p, V, X, 0, a) : Tlt len) ((p, tkV T len q v, got, V', X', f, fa) : Rst len) := ⟨rfl, rfl, ⟨fun h => by
  show tkV T len q v = tkN T len p.1
  rw [hq]
  exact tkV_N h, hfa⟩, tkV_lt hTa hv, hV⟩
