/-! A GAIN A BYTE: packed, unpacked -/
theorem Tr.topJ {C : CtxT} {kb nb pc : Nat} {lv : List (Option Value)} {st : List Value} {w : List va_E} {x y : Int64} (h : x = y) (k : Tr C kb nb pc lv (.long y :: st) w) : Tr C kb nb pc lv (.long x :: st) w := by rw [h]; exact k
def pkF (f : Nat → Int32) : Nat → Int64 → Int64
  | 0, a => a
  | n + 1, a => pkF f n ((a <<< ((nI 8).toInt64 &&& 63)) ||| ((f n + nI 128) &&& nI 255).toInt64)
def unG (x : Int64) (p : Nat) : Int32 := ((x >>> ((nI (8 * p)).toInt64 &&& 63)) &&& 255).toInt32 - nI 128
/-- an int between two numbers -/
def Ib (x : Int32) (a b : Int) : Prop := a ≤ x.toInt ∧ x.toInt ≤ b
def pkN (m : Nat → Nat) : Nat → Nat → Nat
  | 0, a => a
  | n + 1, a => pkN m n (a * 256 + m n)
theorem pkN_hi {m : Nat → Nat} : ∀ (n a : Nat), (∀ k, k < n → m k < 256) → pkN m n a / 256 ^ n = a := by
  intro n
  induction n with
  | zero => intro a _; exact Nat.div_one a
  | succ n ih =>
    intro a h
    have h1 := h n (Nat.lt_succ_self n)
    show pkN m n (a * 256 + m n) / 256 ^ (n + 1) = a
    rw [Nat.pow_succ, ← Nat.div_div_eq_div_mul, ih _ (fun k hk => h k (by omega))]
    omega
theorem pkN_at {m : Nat → Nat} : ∀ (n a i : Nat), (∀ k, k < n → m k < 256) → i < n → pkN m n a / 256 ^ i % 256 = m i := by
  intro n
  induction n with
  | zero => intro a i _ hi; exact absurd hi (Nat.not_lt_zero _)
  | succ n ih =>
    intro a i h hi
    show pkN m n (a * 256 + m n) / 256 ^ i % 256 = m i
    by_cases e : i = n
    · subst e
      have h1 := h i (Nat.lt_succ_self i)
      rw [pkN_hi i _ (fun k hk => h k (by omega))]
      omega
    · exact ih _ i (fun k hk => h k (by omega)) (by omega)
theorem pkN_lt {m : Nat → Nat} {n : Nat} (hn : n ≤ 5) (h : ∀ k, k < n → m k < 256) : pkN m n 0 < 2 ^ 40 := by
  have h1 := pkN_hi n 0 h
  have h2 : 0 < 256 ^ n := Nat.pow_pos (by decide)
  have h3 : pkN m n 0 < 256 ^ n := by
    rcases Nat.div_eq_zero_iff.mp h1 with z | z
    · omega
    · exact z
  exact Nat.lt_of_lt_of_le h3 (Nat.le_trans (Nat.pow_le_pow_right (by decide) hn) (by decide))
theorem lor8 {a b : Nat} (h : b < 256) : (lN a <<< ((nI 8).toInt64 &&& 63)) ||| lN b = lN (a * 256 + b) := by
  have hs : ((nI 8).toInt64 &&& 63).toBitVec.smod 64 = 8#64 := by decide
  apply Int64.toBitVec_inj.mp
  apply BitVec.eq_of_toNat_eq
  rw [Int64.toBitVec_or, Int64.toBitVec_shiftLeft, hs, BitVec.toNat_or, BitVec.shiftLeft_eq', BitVec.toNat_shiftLeft]
  show (BitVec.ofNat 64 a).toNat <<< 8 % 2 ^ 64 ||| (BitVec.ofNat 64 b).toNat = (BitVec.ofNat 64 (a * 256 + b)).toNat
  rw [BitVec.toNat_ofNat, BitVec.toNat_ofNat, BitVec.toNat_ofNat, Nat.shiftLeft_eq, Nat.mod_eq_of_lt (show b < 2 ^ 64 by omega)]
  have e1 : a % 2 ^ 64 * 2 ^ 8 % 2 ^ 64 = 2 ^ 8 * (a % 2 ^ 56) := by omega
  rw [e1, ← Nat.two_pow_add_eq_or_of_lt (show b < 2 ^ 8 by omega)]
  omega
theorem lN_and255 (b : Nat) (h : b < 2 ^ 63) : lN b &&& 255 = lN (b % 256) := by
  apply Int64.toBitVec_inj.mp
  show BitVec.ofNat 64 b &&& BitVec.ofNat 64 255 = BitVec.ofNat 64 (b % 256)
  apply BitVec.eq_of_toNat_eq
  rw [BitVec.toNat_and, BitVec.toNat_ofNat, BitVec.toNat_ofNat, BitVec.toNat_ofNat, Nat.mod_eq_of_lt (show b < 2 ^ 64 by omega), Nat.mod_eq_of_lt (show b % 256 < 2 ^ 64 by omega)]
  exact Nat.and_two_pow_sub_one_eq_mod b 8
theorem lN_shr {a s : Nat} {y : Int64} (hy : y.toBitVec.smod 64 = BitVec.ofNat 64 s) (hs : s < 64) (h : a < 2 ^ 63) : lN a >>> y = lN (a / 2 ^ s) := by
  apply Int64.toBitVec_inj.mp
  rw [Int64.toBitVec_shiftRight, hy]
  have hm : (BitVec.ofNat 64 a).msb = false := by
    rw [BitVec.msb_eq_decide]
    apply decide_eq_false
    rw [BitVec.toNat_ofNat, Nat.mod_eq_of_lt (show a < 2 ^ 64 by omega)]
    show ¬ 2 ^ 63 ≤ a
    omega
  have hd : a / 2 ^ s ≤ a := Nat.div_le_self _ _
  show (BitVec.ofNat 64 a).sshiftRight (BitVec.ofNat 64 s).toNat = BitVec.ofNat 64 (a / 2 ^ s)
  rw [BitVec.sshiftRight_eq_of_msb_false hm]
  apply BitVec.eq_of_toNat_eq
  rw [BitVec.toNat_ushiftRight, BitVec.toNat_ofNat, BitVec.toNat_ofNat, BitVec.toNat_ofNat, Nat.mod_eq_of_lt (show a < 2 ^ 64 by omega), Nat.mod_eq_of_lt (show s < 2 ^ 64 by omega), Nat.mod_eq_of_lt (show a / 2 ^ s < 2 ^ 64 by omega), Nat.shiftRight_eq_div_pow]
theorem sh_at {i : Nat} (hi : i < 5) : ((nI (8 * i)).toInt64 &&& 63).toBitVec.smod 64 = BitVec.ofNat 64 (8 * i) := by
  rcases (show i = 0 ∨ i = 1 ∨ i = 2 ∨ i = 3 ∨ i = 4 by omega) with rfl | rfl | rfl | rfl | rfl <;> decide
theorem nI_and255 {m : Nat} (h : m < 256) : nI m &&& nI 255 = nI m := by
  have h1 : nI m &&& nI 255 = nI (m % 256) := pk_andN (by omega) 8 (by decide)
  rw [h1, Nat.mod_eq_of_lt h]
theorem nI_L8 {m : Nat} (h : m < 2 ^ 31) : (nI m).toInt64 = lN m := Int32.toInt64_ofNat' (by show (m : Int) ≤ 2147483647; omega)
theorem Ib.lift {x : Int32} (h : Ib x (-128) 127) : ∃ m, m < 256 ∧ x + nI 128 = nI m := by
  obtain ⟨h1, h2⟩ := h
  refine ⟨(x.toInt + 128).toNat, by omega, ?_⟩
  apply Int32.toInt_inj.mp
  rw [Int32.toInt_add, nI_toInt (by omega), nI_toInt (by omega), Int.bmod_eq_of_le (by omega) (by omega)]
  omega
theorem pkF_N {f : Nat → Int32} {m : Nat → Nat} : ∀ (n a : Nat), (∀ k, k < n → m k < 256 ∧ f k + nI 128 = nI (m k)) → pkF f n (lN a) = lN (pkN m n a) := by
  intro n
  induction n with
  | zero => intro a _; rfl
  | succ n ih =>
    intro a h
    obtain ⟨h1, h2⟩ := h n (Nat.lt_succ_self n)
    show pkF f n ((lN a <<< ((nI 8).toInt64 &&& 63)) ||| ((f n + nI 128) &&& nI 255).toInt64) = lN (pkN m n (a * 256 + m n))
    rw [h2, nI_and255 h1, nI_L8 (m := m n) (by omega), lor8 h1]
    exact ih _ (fun k hk => h k (by omega))
/-- what was packed is what is unpacked -/
theorem un_pk {f : Nat → Int32} {n i : Nat} (hn : n ≤ 5) (hi : i < n) (h : ∀ k, k < n → Ib (f k) (-128) 127) : unG (pkF f n 0) i = f i := by
  have hm : ∀ k, k < n → (f k + nI 128).toNatClampNeg < 256 ∧ f k + nI 128 = nI (f k + nI 128).toNatClampNeg := fun k hk => by
    obtain ⟨m, m1, m2⟩ := (h k hk).lift
    rw [m2, nI_clamp (by omega)]
    exact ⟨m1, rfl⟩
  have e := pkF_N (f := f) (m := fun k => (f k + nI 128).toNatClampNeg) n 0 hm
  have e0 : lN 0 = 0 := rfl
  rw [e0] at e
  have hl := pkN_lt (m := fun k => (f k + nI 128).toNatClampNeg) hn (fun k hk => (hm k hk).1)
  have ha := pkN_at (m := fun k => (f k + nI 128).toNatClampNeg) n 0 i (fun k hk => (hm k hk).1) hi
  unfold unG
  rw [e]
  generalize pkN (fun k => (f k + nI 128).toNatClampNeg) n 0 = A at *
  have hd : A / 2 ^ (8 * i) ≤ A := Nat.div_le_self _ _
  rw [lN_shr (sh_at (show i < 5 by omega)) (by omega) (by omega), lN_and255 _ (by omega)]
  have hp : 2 ^ (8 * i) = 256 ^ i := by rw [Nat.pow_mul]
  rw [hp, ha]
  show (Int64.ofNat _).toInt32 - nI 128 = f i
  rw [Int64.toInt32_ofNat']
  show nI ((f i + nI 128).toNatClampNeg) - nI 128 = f i
  rw [← (hm i hi).2]
  exact Int32.add_sub_cancel _ _
