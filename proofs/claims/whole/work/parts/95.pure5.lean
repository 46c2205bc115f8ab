/-! ROWS AND NUMBERS -/
set_option maxRecDepth 100000 in
theorem or_0 : ∀ a, a < 8 → ∀ b, b < 8 → ∀ c, c < 8 → ∀ d, d < 8 → (((nI 0 ||| (nI a <<< (nI (3 * (3 - 0)) &&& 31))) ||| (nI b <<< (nI (3 * (3 - 1)) &&& 31))) ||| (nI c <<< (nI (3 * (3 - 2)) &&& 31))) ||| (nI d <<< (nI (3 * (3 - 3)) &&& 31)) = nI (a * 512 + b * 64 + c * 8 + d) := by decide +kernel
set_option maxRecDepth 100000 in
theorem or_1 : ∀ a, a < 8 → ∀ b, b < 8 → ∀ c, c < 8 → ∀ d, d < 8 → (((nI 0 ||| (nI b <<< (nI (3 * (3 - 1)) &&& 31))) ||| (nI c <<< (nI (3 * (3 - 2)) &&& 31))) ||| (nI d <<< (nI (3 * (3 - 3)) &&& 31))) ||| (nI a <<< (nI (3 * (3 - 0)) &&& 31)) = nI (a * 512 + b * 64 + c * 8 + d) := by decide +kernel
set_option maxRecDepth 100000 in
theorem or_2 : ∀ a, a < 8 → ∀ b, b < 8 → ∀ c, c < 8 → ∀ d, d < 8 → (((nI 0 ||| (nI c <<< (nI (3 * (3 - 2)) &&& 31))) ||| (nI d <<< (nI (3 * (3 - 3)) &&& 31))) ||| (nI a <<< (nI (3 * (3 - 0)) &&& 31))) ||| (nI b <<< (nI (3 * (3 - 1)) &&& 31)) = nI (a * 512 + b * 64 + c * 8 + d) := by decide +kernel
set_option maxRecDepth 100000 in
theorem or_3 : ∀ a, a < 8 → ∀ b, b < 8 → ∀ c, c < 8 → ∀ d, d < 8 → (((nI 0 ||| (nI d <<< (nI (3 * (3 - 3)) &&& 31))) ||| (nI a <<< (nI (3 * (3 - 0)) &&& 31))) ||| (nI b <<< (nI (3 * (3 - 1)) &&& 31))) ||| (nI c <<< (nI (3 * (3 - 2)) &&& 31)) = nI (a * 512 + b * 64 + c * 8 + d) := by decide +kernel
def rnx (c : Nat → Nat) : Nat := c 0 * 512 + c 1 * 64 + c 2 * 8 + c 3
theorem rowF_num {S : Scn} {ch c : Nat → Nat} (hc : ∀ q, q < 4 → c q < 8) (h : ∀ k, k < 4 → ch k = c ((psS S + k) % 4)) : rowF S ch 4 = nI (rnx c) := by
  have hu : rowF S ch 4 = (((nI 0 ||| (nI (ch 0) <<< (nI (3 * (3 - (psS S + 0) % 4)) &&& 31))) ||| (nI (ch 1) <<< (nI (3 * (3 - (psS S + 1) % 4)) &&& 31))) ||| (nI (ch 2) <<< (nI (3 * (3 - (psS S + 2) % 4)) &&& 31))) ||| (nI (ch 3) <<< (nI (3 * (3 - (psS S + 3) % 4)) &&& 31)) := rfl
  rw [hu, h 0 (by decide), h 1 (by decide), h 2 (by decide), h 3 (by decide)]
  have h0 := hc 0 (by decide)
  have h1 := hc 1 (by decide)
  have h2 := hc 2 (by decide)
  have h3 := hc 3 (by decide)
  unfold rnx
  rcases (show psS S % 4 = 0 ∨ psS S % 4 = 1 ∨ psS S % 4 = 2 ∨ psS S % 4 = 3 by omega) with e | e | e | e
  · rw [show (psS S + 0) % 4 = 0 by omega, show (psS S + 1) % 4 = 1 by omega, show (psS S + 2) % 4 = 2 by omega, show (psS S + 3) % 4 = 3 by omega]
    exact or_0 _ h0 _ h1 _ h2 _ h3
  · rw [show (psS S + 0) % 4 = 1 by omega, show (psS S + 1) % 4 = 2 by omega, show (psS S + 2) % 4 = 3 by omega, show (psS S + 3) % 4 = 0 by omega]
    exact or_1 _ h0 _ h1 _ h2 _ h3
  · rw [show (psS S + 0) % 4 = 2 by omega, show (psS S + 1) % 4 = 3 by omega, show (psS S + 2) % 4 = 0 by omega, show (psS S + 3) % 4 = 1 by omega]
    exact or_2 _ h0 _ h1 _ h2 _ h3
  · rw [show (psS S + 0) % 4 = 3 by omega, show (psS S + 1) % 4 = 0 by omega, show (psS S + 2) % 4 = 1 by omega, show (psS S + 3) % 4 = 2 by omega]
    exact or_3 _ h0 _ h1 _ h2 _ h3
set_option maxRecDepth 100000 in
theorem sh_all : ∀ a, a < 8 → ∀ b, b < 8 → ∀ c, c < 8 → ∀ d, d < 8 → (nI (a * 512 + b * 64 + c * 8 + d) >>> (nI (3 * (3 - 0)) &&& 31)).toBitVec.toNat % 8 = a ∧ (nI (a * 512 + b * 64 + c * 8 + d) >>> (nI (3 * (3 - 1)) &&& 31)).toBitVec.toNat % 8 = b ∧ (nI (a * 512 + b * 64 + c * 8 + d) >>> (nI (3 * (3 - 2)) &&& 31)).toBitVec.toNat % 8 = c ∧ (nI (a * 512 + b * 64 + c * 8 + d) >>> (nI (3 * (3 - 3)) &&& 31)).toBitVec.toNat % 8 = d := by decide +kernel
theorem shv_num {T : Tst} {c : Nat → Nat} (hc : ∀ q, q < 4 → c q < 8) (h : brT T = nI (rnx c)) {q : Nat} (hq : q < 4) : shv T q = c q := by
  have hs := sh_all _ (hc 0 (by decide)) _ (hc 1 (by decide)) _ (hc 2 (by decide)) _ (hc 3 (by decide))
  unfold shv
  rw [h]
  unfold rnx
  rcases (show q = 0 ∨ q = 1 ∨ q = 2 ∨ q = 3 by omega) with rfl | rfl | rfl | rfl
  · exact hs.1
  · exact hs.2.1
  · exact hs.2.2.1
  · exact hs.2.2.2
theorem stp {f : Nat → Nat} {m : Nat} (h0 : 0 < m) (h8 : m ≤ 8) (hf : ∀ a b, a < b → f a < f b) : ∀ x y, x < y → f (x / m) * 8 + x % m < f (y / m) * 8 + y % m := by
  intro x y h
  have x1 := Nat.div_add_mod x m
  have y1 := Nat.div_add_mod y m
  have x2 := Nat.mod_lt x h0
  have y2 := Nat.mod_lt y h0
  by_cases hc : x / m < y / m
  · have := hf _ _ hc
    omega
  · have hle : x / m ≤ y / m := Nat.div_le_div_right (Nat.le_of_lt h)
    have e : x / m = y / m := by omega
    rw [e] at x1 ⊢
    omega
theorem rnx_mono {m x y : Nat} (h1 : 0 < m) (h6 : m ≤ 6) (hxy : x < y) (hy : y < m * m * m * m) : rnx (dgx m x) < rnx (dgx m y) := by
  have top : ∀ z, z < m * m * m * m → z / m / m / m % m = z / m / m / m := fun z hz => by
    have t1 : z / m < m * m * m := (Nat.div_lt_iff_lt_mul h1).mpr hz
    have t2 : z / m / m < m * m := (Nat.div_lt_iff_lt_mul h1).mpr t1
    have t3 : z / m / m / m < m := (Nat.div_lt_iff_lt_mul h1).mpr t2
    exact Nat.mod_eq_of_lt t3
  have ux : rnx (dgx m x) = x / m / m / m % m * 512 + x / m / m % m * 64 + x / m % m * 8 + x % m := rfl
  have uy : rnx (dgx m y) = y / m / m / m % m * 512 + y / m / m % m * 64 + y / m % m * 8 + y % m := rfl
  rw [ux, uy, top x (by omega), top y hy]
  have s1 := stp (f := fun z => z) h1 (by omega) (fun a b h => h)
  have s2 := stp (f := fun z => (z / m) * 8 + z % m) h1 (by omega) s1
  have s3 := stp (f := fun z => ((z / m / m) * 8 + z / m % m) * 8 + z % m) h1 (by omega) s2 x y hxy
  have s3 : ((x / m / m / m) * 8 + x / m / m % m) * 8 * 8 + x / m % m * 8 + x % m < ((y / m / m / m) * 8 + y / m / m % m) * 8 * 8 + y / m % m * 8 + y % m := by
    have e : ∀ z, (((z / m / m / m) * 8 + z / m / m % m) * 8 + z / m % m) * 8 + z % m = ((z / m / m / m) * 8 + z / m / m % m) * 8 * 8 + z / m % m * 8 + z % m := fun z => by omega
    rw [← e x, ← e y]
    exact s3
  omega
theorem rnx_lt {m x : Nat} (h1 : 0 < m) (h6 : m ≤ 6) : rnx (dgx m x) < 4096 := by
  have a0 := dgx_lt (m := m) (x := x) (q := 0) h1
  have a1 := dgx_lt (m := m) (x := x) (q := 1) h1
  have a2 := dgx_lt (m := m) (x := x) (q := 2) h1
  have a3 := dgx_lt (m := m) (x := x) (q := 3) h1
  unfold rnx
  omega
theorem dm_m {a m b : Nat} (h : b < m) : (a * m + b) % m = b := by rw [Nat.add_comm, Nat.add_mul_mod_self_right, Nat.mod_eq_of_lt h]
theorem dm_d {a m b : Nat} (h : b < m) : (a * m + b) / m = a := by rw [Nat.add_comm, Nat.add_mul_div_right _ _ (by omega), Nat.div_eq_of_lt h]; omega
theorem dgx_sur {m : Nat} {c : Nat → Nat} (hc : ∀ q, q < 4 → c q < m) : ∃ x, x < m * m * m * m ∧ ∀ q, q < 4 → dgx m x q = c q := by
  have h0 := hc 0 (by decide)
  have h1 := hc 1 (by decide)
  have h2 := hc 2 (by decide)
  have h3 := hc 3 (by decide)
  refine ⟨((c 0 * m + c 1) * m + c 2) * m + c 3, ?_, fun q hq => ?_⟩
  · have e1 : c 0 * m + c 1 < m * m := by
      have := Nat.mul_le_mul_right m (show c 0 + 1 ≤ m by omega)
      rw [Nat.succ_mul] at this; omega
    have e2 : (c 0 * m + c 1) * m + c 2 < m * m * m := by
      have := Nat.mul_le_mul_right m (show (c 0 * m + c 1) + 1 ≤ m * m by omega)
      rw [Nat.succ_mul] at this; omega
    have := Nat.mul_le_mul_right m (show ((c 0 * m + c 1) * m + c 2) + 1 ≤ m * m * m by omega)
    rw [Nat.succ_mul] at this; omega
  · rcases (show q = 0 ∨ q = 1 ∨ q = 2 ∨ q = 3 by omega) with rfl | rfl | rfl | rfl
    · show (((c 0 * m + c 1) * m + c 2) * m + c 3) / m / m / m % m = c 0
      rw [dm_d h3, dm_d h2, dm_d h1, Nat.mod_eq_of_lt h0]
    · show (((c 0 * m + c 1) * m + c 2) * m + c 3) / m / m % m = c 1
      rw [dm_d h3, dm_d h2, dm_m h1]
    · show (((c 0 * m + c 1) * m + c 2) * m + c 3) / m % m = c 2
      rw [dm_d h3, dm_m h2]
    · show (((c 0 * m + c 1) * m + c 2) * m + c 3) % m = c 3
      rw [dm_m h3]
theorem gn_eq {V V' : Vil} {P P' : Nat → Nat} {L L' : Nat → Int32} {S S' : Scn} {p : Nat} (hO : Vok V) (hV : Veq V V') (hP : ∀ p q, p < npV V → q < 4 → P (p * 4 + q) = P' (p * 4 + q)) (hL : ∀ p, p < npV V → L p = L' p) (hS : Seq V S S') (hp : p < npV V) (c : Nat → Nat) : gn V P L S p c = gn V' P' L' S' p c := by
  unfold gn
  have h := run_eq (P := plA V P p c) (P' := plA V' P' p c) hO hV (fun p' q hp' hq => by
    unfold plA plc
    rw [hV.1, hP p' q hp' hq]) hL hS 4
  rw [h.2.2.2.2.1 p hp, hS.2.2.2.2.1 p hp]
theorem fb_eq {V V' : Vil} {o : Ovr} {P P' : Nat → Nat} {L L' : Nat → Int32} {S S' : Scn} {p : Nat} {T : Tst} (hO : Vok V) (hV : Veq V (ovr V' o)) (hP : ∀ p q, p < npV V → q < 4 → P (p * 4 + q) = P' (p * 4 + q)) (hL : ∀ p, p < npV V → L p = L' p) (hS : Seq V S S') (hp : p < npV V) (h1 : vT T = V) (h2 : pT T = P) (h3 : lT T = L) (h4 : oT T = S) (a : Nat) (W : Nat → Nat) (B f : Nat → Int32) : bsT (fbT T p) = (fmR V' o S' P' L' a p W B f).1 ∧ ∀ bp q, q < 4 → bpl (fbT T p) q = pbR V' (fmR V' o S' P' L' a p W B f).2.1 bp q := by
  have hnh : nhV V = nhV V' := hV.1
  have hh5 := hO.1
  obtain ⟨a1, a2, a3, a4, a5, a6, a7, a8, a9, a10, a11, a12, a13⟩ := fb0_v T
  have hmo : ∀ k, k < 4 → mT (fb0 T) k = nhV V + 1 := fun k hk => by rw [a10, pre_n hk, h1]
  have hch : ∀ k, k < 4 → cT (fb0 T) k = 0 := fun k hk => by rw [a9, pre_n hk]
  have htt : ttF (mT (fb0 T)) 4 = (nhV V + 1) * (nhV V + 1) * (nhV V + 1) * (nhV V + 1) := by
    show 1 * mT (fb0 T) 0 * mT (fb0 T) 1 * mT (fb0 T) 2 * mT (fb0 T) 3 = _
    rw [hmo 0 (by decide), hmo 1 (by decide), hmo 2 (by decide), hmo 3 (by decide), Nat.one_mul]
  have htl : ttF (mT (fb0 T)) 4 ≤ 7776 := by
    rw [htt]
    rcases (show nhV V = 0 ∨ nhV V = 1 ∨ nhV V = 2 ∨ nhV V = 3 ∨ nhV V = 4 ∨ nhV V = 5 by omega) with e | e | e | e | e | e <;> rw [e] <;> decide
  have hn0 : nvF (mT (fb0 T)) 4 (cT (fb0 T)) = 0 := by
    show (((0 * mT (fb0 T) 0 + cT (fb0 T) 0) * mT (fb0 T) 1 + cT (fb0 T) 1) * mT (fb0 T) 2 + cT (fb0 T) 2) * mT (fb0 T) 3 + cT (fb0 T) 3 = 0
    rw [hch 0 (by decide), hch 1 (by decide), hch 2 (by decide), hch 3 (by decide)]
    simp only [Nat.zero_mul, Nat.add_zero]
  have hA := fb_all p V P L S (mT (fb0 T)) 7776 (fb0 T) 0 (a1.trans h1) (a3.trans h2) (a4.trans h3) (a5.trans h4) rfl a8 (fun _ => ⟨by decide, fun k hk => by rw [hch k hk, hmo k hk]; omega, fun k hk => by
    have hk0 : k = 0 := by omega
    subst hk0
    rw [a11, upS_self, h4]
    rfl, by omega⟩)
  have hfb : fbF p 7776 (fb0 T) 0 = fbT T p := rfl
  rw [hfb, hn0, a12, a13] at hA
  clear hfb
  generalize fbT T p = R at *
  obtain ⟨⟨v1, -, -, -⟩, i2, -, i4⟩ := hA
  have i2 := i2 (by decide)
  have hg : ∀ x, gn (ovr V' o) P' L' S' p (dgx (nhV V' + 1) x) = gn V P L S p (dgx (nhV V + 1) x) := fun x => by rw [← hnh]; exact (gn_eq hO hV hP hL hS hp _).symm
  have hF := fm_bs V' o S' P' L' a p W B f (nPl V')
  have hN : nPl V' = (nhV V + 1) * (nhV V + 1) * (nhV V + 1) * (nhV V + 1) := by rw [hnh]; rfl
  have hfm : fmF V' o S' P' L' a p (-1000000, 0, W, B, f) (nPl V') = fmR V' o S' P' L' a p W B f := rfl
  have hge : (fun x => gn (ovr V' o) P' L' S' p (dgx (nhV V' + 1) x)) = (fun x => gn V P L S p (dgx (nhV V + 1) x)) := funext hg
  rw [hfm, hge, hN] at hF
  rw [hF.1, hF.2]
  clear hF hfm hge
  have hpbR : ∀ i bp q, q < 4 → pbR V' i bp q = plc V (dgx (nhV V + 1) i q) := fun i bp q hq => by
    have hm : 0 < nhV V' + 1 := by omega
    rw [hnh]
    unfold pbR
    rcases (show q = 0 ∨ q = 1 ∨ q = 2 ∨ q = 3 by omega) with rfl | rfl | rfl | rfl
    · rw [upN_self, plR_plc (Nat.mod_lt _ hm)]; unfold plc; rw [hnh]; rfl
    · rw [upN_ne _ _ (by omega), upN_self, plR_plc (Nat.mod_lt _ hm)]; unfold plc; rw [hnh]; rfl
    · rw [upN_ne _ _ (by omega), upN_ne _ _ (by omega), upN_self, plR_plc (Nat.mod_lt _ hm)]; unfold plc; rw [hnh]; rfl
    · rw [upN_ne _ _ (by omega), upN_ne _ _ (by omega), upN_ne _ _ (by omega), upN_self, plR_plc (Nat.mod_lt _ hm)]; unfold plc; rw [hnh]; rfl
  generalize hm : nhV V + 1 = m at *
  have hm0 : 0 < m := by omega
  have hm6 : m ≤ 6 := by omega
  have hsp := bsX_sp (fun x => gn V P L S p (dgx m x)) (m * m * m * m)
  generalize bsX (fun x => gn V P L S p (dgx m x)) (m * m * m * m) = b at *
  have hX : ∀ x, x < m * m * m * m → ¬ btr (gn V P L S p (dgx m x)) (nI (rnx (dgx m x))) (bsT R) (brT R) := fun x hx => by
    have h := i2 (fun k => dgx m x ((psS S + k) % 4)) (fun k hk => by rw [hmo k hk]; exact dgx_lt hm0) (Nat.zero_le _)
    rw [rowF_num (c := dgx m x) (fun q _ => Nat.lt_of_lt_of_le (dgx_lt hm0) (by omega)) (fun k _ => rfl)] at h
    have e : gnC V P L S p (fun k => dgx m x ((psS S + k) % 4)) = gn V P L S p (dgx m x) := by
      unfold gnC gn
      rw [dyN_run (c := dgx m x) 4 (fun _ _ => rfl)]
    rw [e] at h
    exact h
  have hY : (bsT R = -1000000 ∧ brT R = nI 0) ∨ ∃ x, x < m * m * m * m ∧ bsT R = gn V P L S p (dgx m x) ∧ brT R = nI (rnx (dgx m x)) ∧ btr (bsT R) (brT R) (-1000000) (nI 0) := by
    rcases i4 with h | ⟨ch, z1, z2, z3, z4⟩
    · exact Or.inl h
    · obtain ⟨x, hx, hd⟩ := dgx_sur (m := m) (c := fun q => ch ((q + 4 - psS S % 4) % 4)) (fun q hq => by
        have := z1 ((q + 4 - psS S % 4) % 4) (by omega)
        rw [hmo _ (by omega)] at this
        exact this)
      have hk : ∀ k, k < 4 → ch k = dgx m x ((psS S + k) % 4) := fun k hk => by
        rw [hd _ (by omega)]
        show ch k = ch (((psS S + k) % 4 + 4 - psS S % 4) % 4)
        rw [show ((psS S + k) % 4 + 4 - psS S % 4) % 4 = k by omega]
      refine Or.inr ⟨x, hx, ?_, ?_, z4⟩
      · rw [z2]
        unfold gnC gn
        rw [dyN_run (c := dgx m x) 4 hk]
      · rw [z3]
        exact rowF_num (fun q _ => Nat.lt_of_lt_of_le (dgx_lt hm0) (by omega)) hk
  have hpos : 0 < m * m * m * m := Nat.mul_pos (Nat.mul_pos (Nat.mul_pos hm0 hm0) hm0) hm0
  have hz : rnx (dgx m 0) = 0 := by
    show 0 / m / m / m % m * 512 + 0 / m / m % m * 64 + 0 / m % m * 8 + 0 % m = 0
    rw [Nat.zero_div, Nat.zero_div, Nat.zero_div, Nat.zero_mod]
  have hfin : bsT R = b.1 ∧ brT R = nI (rnx (dgx m b.2)) := by
    have c6 : (-1000000 : Int32).toInt = -1000000 := by decide
    have c0 : (nI 0).toInt = 0 := by decide
    rcases hY with ⟨y1, y2⟩ | ⟨x, hx, y1, y2, y3⟩
    · rcases hsp.2 with e | ⟨s1, s2, s3, s4⟩
      · rw [e, y1, y2]
        exact ⟨rfl, by rw [hz]⟩
      · exfalso
        have := hX b.2 s1
        rw [y1, y2] at this
        unfold btr at this
        rw [s2, ltI] at s3
        omega
    · have b1 := rnx_lt (x := x) hm0 hm6
      have t1 := nI_toInt (n := rnx (dgx m x)) (by omega)
      rw [y1, y2] at y3 ⊢
      unfold btr at y3
      have g1 := hsp.1 x hx
      rw [ltI] at g1
      rcases hsp.2 with e | ⟨s1, s2, s3, s4⟩
      · exfalso
        rw [e] at g1
        have g1 : ¬ (-1000000 : Int32).toInt < (gn V P L S p (dgx m x)).toInt := g1
        omega
      · have g2 := hX b.2 s1
        rw [y1, y2] at g2
        unfold btr at g2
        rw [s2] at g1 ⊢
        have b2 := rnx_lt (x := b.2) hm0 hm6
        have t2 := nI_toInt (n := rnx (dgx m b.2)) (by omega)
        have ge : (gn V P L S p (dgx m x)).toInt = (gn V P L S p (dgx m b.2)).toInt := by
          have g1 : ¬ (gn V P L S p (dgx m b.2)).toInt < (gn V P L S p (dgx m x)).toInt := g1
          omega
        have hle : ¬ x < b.2 := fun z => by
          have := s4 x z
          rw [s2, ltI] at this
          have this : (gn V P L S p (dgx m x)).toInt < (gn V P L S p (dgx m b.2)).toInt := this
          omega
        have hxe : x = b.2 := by
          by_cases e : x = b.2
          · exact e
          · have := rnx_mono hm0 hm6 (show b.2 < x by omega) hx
            omega
        rw [hxe]
        exact ⟨rfl, rfl⟩
  refine ⟨hfin.1, fun bp q hq => ?_⟩
  rw [hpbR _ _ _ hq]
  unfold bpl
  rw [v1, shv_num (c := dgx m b.2) (fun q _ => Nat.lt_of_lt_of_le (dgx_lt hm0) (by omega)) hfin.2 hq]
