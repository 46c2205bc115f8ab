/-! THE REFERENCE: rows of wishes -/
def wtR (V : Vil) (p : Nat) : Nat := (nhV V + 1) ^ (npV V - (p + 1))
def rwN (V : Vil) : Nat := (nhV V + 1) ^ npV V
/-- the choice of p in the row x, and its place -/
def dgR (V : Vil) (x p : Nat) : Nat := x / wtR V p % (nhV V + 1)
def wsR (V : Vil) (x p : Nat) : Nat := plR (nhV V) (dgR V x p)
theorem pw6 {nh k : Nat} (h : nh ≤ 5) (hk : k ≤ 5) : (nh + 1) ^ k ≤ 7776 := Nat.le_trans (Nat.pow_le_pow_left (show nh + 1 ≤ 6 by omega) k) (Nat.le_trans (Nat.pow_le_pow_right (by decide) hk) (by decide))
theorem wtR_le {V : Vil} (hV : Vok V) (p : Nat) : wtR V p ≤ 7776 := pw6 hV.1 (by have := hV.2.1; omega)
theorem wtR_pos (V : Vil) (p : Nat) : 0 < wtR V p := Nat.pow_pos (by omega)
theorem rwN_le {V : Vil} (hV : Vok V) : rwN V ≤ 7776 := pw6 hV.1 hV.2.1
theorem dgR_lt (V : Vil) (x p : Nat) : dgR V x p < nhV V + 1 := Nat.mod_lt _ (by omega)
theorem dgR_mul (V : Vil) (x p : Nat) : dgR V x p * wtR V p ≤ x := by
  have h1 : dgR V x p ≤ x / wtR V p := Nat.mod_le _ _
  exact Nat.le_trans (Nat.mul_le_mul_right _ h1) (Nat.div_mul_le_self x _)
theorem rwN_wt {V : Vil} {p : Nat} (hp : p < npV V) : rwN V = (nhV V + 1) ^ p * (wtR V p * (nhV V + 1)) := by
  unfold rwN wtR
  rw [← Nat.pow_succ, ← Nat.pow_add]
  congr 1
  omega
theorem row_lt {V : Vil} {p x k : Nat} (hp : p < npV V) (hx : x < rwN V) (hk : k < nhV V + 1) : x - dgR V x p * wtR V p + k * wtR V p < rwN V := by
  have hw := wtR_pos V p
  have hR := rwN_wt hp
  generalize (nhV V + 1) ^ p = A at hR
  have h1 : x = wtR V p * (x / wtR V p) + x % wtR V p := (Nat.div_add_mod x (wtR V p)).symm
  have h2 : x / wtR V p = (nhV V + 1) * (x / wtR V p / (nhV V + 1)) + dgR V x p := (Nat.div_add_mod (x / wtR V p) (nhV V + 1)).symm
  have h3 : x / wtR V p / (nhV V + 1) < A := by
    rw [Nat.div_div_eq_div_mul]
    exact Nat.div_lt_of_lt_mul (by rw [Nat.mul_comm]; rw [hR] at hx; exact hx)
  have h4 : x % wtR V p < wtR V p := Nat.mod_lt _ hw
  generalize x / wtR V p / (nhV V + 1) = b at *
  generalize x / wtR V p = c at *
  generalize x % wtR V p = d at *
  generalize dgR V x p = g at *
  generalize wtR V p = w at *
  generalize nhV V + 1 = e at *
  subst h2
  rw [h1, hR]
  have h5 : w * (e * b + g) + d - g * w = w * (e * b) + d := by
    rw [Nat.mul_add, Nat.mul_comm g w]
    omega
  rw [h5]
  have h6 : k * w ≤ (e - 1) * w := Nat.mul_le_mul_right _ (by omega)
  have h7 : (e - 1) * w + w = w * e := by
    obtain ⟨e', rfl⟩ : ∃ e', e = e' + 1 := ⟨e - 1, by omega⟩
    rw [Nat.add_sub_cancel, Nat.mul_add, Nat.mul_one, Nat.mul_comm]
  have h8 : w * (e * b) + w * e = (b + 1) * (w * e) := by
    rw [Nat.add_mul, Nat.one_mul, ← Nat.mul_assoc, Nat.mul_comm (w * e) b]
  have h9 : (b + 1) * (w * e) ≤ A * (w * e) := Nat.mul_le_mul_right _ h3
  omega
set_option maxHeartbeats 4000000 in
set_option maxRecDepth 100000 in
theorem m_weight (E : EnvT) (ad r : Nat → Nat) (i : Nat → Int32) (V : Vil) (p : Nat) (hV : Vok V) (hp : p < npV V) : Md E mX10_weight ad [.ref (ad 0), .int (nI p)] [moP r i (nhV V) (npV V)] (some (.int (nI (wtR V p)))) [moP r i (nhV V) (npV V)] := by
  have v2 := hV.2.1
  refine Md.of 2 (by decide) rfl rfl ?_
  refine Tr.iconst (v := nI 1) dX10_weight_0 (icN 1) (Eq.refl 1) ?_
  refine Tr.istore_n (i := 2) dX10_weight_1 rfl rfl rfl (Eq.refl 2) ?_
  refine Tr.iload_n (i := 1) dX10_weight_2 rfl rfl (Eq.refl 3) ?_
  refine Tr.iconst (v := nI 1) dX10_weight_3 (icN 1) (Eq.refl 4) ?_
  refine Tr.iaddN dX10_weight_4 (Eq.refl 5) ?_
  refine Tr.istore_n (i := 3) dX10_weight_5 rfl rfl rfl (Eq.refl 6) ?_
  refine Tr.mask [true, true, true, true] (lv' := [some (.ref (ad 0)), some (.int (nI p)), some (.int (nI ((nhV V + 1) ^ 0))), some (.int (nI (p + 1 + 0)))]) rfl ?_
  refine loopD (P := fun j => Tr _ 0 0 6 [some (.ref (ad 0)), some (.int (nI p)), some (.int (nI ((nhV V + 1) ^ j))), some (.int (nI (p + 1 + j)))] [] _) (npV V - (p + 1)) ?_ (fun j hj ih => ?_)
  · refine Tr.iload_n (i := 3) dX10_weight_6 rfl rfl (Eq.refl 7) ?_
    refine Tr.aload_n (i := 0) dX10_weight_7 rfl rfl (Eq.refl 8) ?_
    refine Tr.getf dX10_weight_8 fX10_285 rfl rfl (Eq.refl 11) ?_
    refine Tr.icmp_geN (tgt := 29) dX10_weight_11 (by decide) (Eq.refl 14) (by omega) (by omega) (fun h11 => ?_) (fun h11 => ?_)
    · refine Tr.iload_n (i := 2) dX10_weight_29 rfl rfl (Eq.refl 30) ?_
      refine Tr.iret dX10_weight_30 rfl (by first | rfl | exact bI_nar _) ?_ ?_
      · rfl
      · rfl
    · exact absurd h11 (by omega)
  · refine Tr.iload_n (i := 3) dX10_weight_6 rfl rfl (Eq.refl 7) ?_
    refine Tr.aload_n (i := 0) dX10_weight_7 rfl rfl (Eq.refl 8) ?_
    refine Tr.getf dX10_weight_8 fX10_285 rfl rfl (Eq.refl 11) ?_
    refine Tr.icmp_geN (tgt := 29) dX10_weight_11 (by decide) (Eq.refl 14) (by omega) (by omega) (fun h11 => ?_) (fun h11 => ?_)
    · exact absurd h11 (by omega)
    · refine Tr.iload_n (i := 2) dX10_weight_14 rfl rfl (Eq.refl 15) ?_
      refine Tr.aload_n (i := 0) dX10_weight_15 rfl rfl (Eq.refl 16) ?_
      refine Tr.getf dX10_weight_16 fX10_282 rfl rfl (Eq.refl 19) ?_
      refine Tr.iconst (v := nI 1) dX10_weight_19 (icN 1) (Eq.refl 20) ?_
      refine Tr.iaddN dX10_weight_20 (Eq.refl 21) ?_
      refine Tr.imulN dX10_weight_21 (Eq.refl 22) ?_
      refine Tr.istore_n (i := 2) dX10_weight_22 rfl rfl rfl (Eq.refl 23) ?_
      refine Tr.iincN dX10_weight_23 rfl rfl rfl (Eq.refl 26) ?_
      refine Tr.goto (pc' := 6) dX10_weight_26 (by decide) ?_
      exact Tr.eqs rfl rfl rfl ih
set_option maxHeartbeats 4000000 in
set_option maxRecDepth 100000 in
theorem m_rows (E : EnvT) (ad r : Nat → Nat) (i : Nat → Int32) (V : Vil) (hV : Vok V) : Md E mX10_rows ad [.ref (ad 0)] [moP r i (nhV V) (npV V)] (some (.int (nI (rwN V)))) [moP r i (nhV V) (npV V)] := by
  have v2 := hV.2.1
  refine Md.of 2 (by decide) rfl rfl ?_
  refine Tr.iconst (v := nI 1) dX10_rows_0 (icN 1) (Eq.refl 1) ?_
  refine Tr.istore_n (i := 1) dX10_rows_1 rfl rfl rfl (Eq.refl 2) ?_
  refine Tr.iconst (v := nI 0) dX10_rows_2 (icN 0) (Eq.refl 3) ?_
  refine Tr.istore_n (i := 2) dX10_rows_3 rfl rfl rfl (Eq.refl 4) ?_
  refine Tr.mask [true, true, true] (lv' := [some (.ref (ad 0)), some (.int (nI ((nhV V + 1) ^ 0))), some (.int (nI 0))]) rfl ?_
  refine loopD (P := fun j => Tr _ 0 0 4 [some (.ref (ad 0)), some (.int (nI ((nhV V + 1) ^ j))), some (.int (nI j))] [] _) (npV V) ?_ (fun j hj ih => ?_)
  · refine Tr.iload_n (i := 2) dX10_rows_4 rfl rfl (Eq.refl 5) ?_
    refine Tr.aload_n (i := 0) dX10_rows_5 rfl rfl (Eq.refl 6) ?_
    refine Tr.getf dX10_rows_6 fX10_285 rfl rfl (Eq.refl 9) ?_
    refine Tr.icmp_geN (tgt := 27) dX10_rows_9 (by decide) (Eq.refl 12) (by omega) (by omega) (fun h9 => ?_) (fun h9 => ?_)
    · refine Tr.iload_n (i := 1) dX10_rows_27 rfl rfl (Eq.refl 28) ?_
      refine Tr.iret dX10_rows_28 rfl (by first | rfl | exact bI_nar _) ?_ ?_
      · rfl
      · rfl
    · exact absurd h9 (by omega)
  · refine Tr.iload_n (i := 2) dX10_rows_4 rfl rfl (Eq.refl 5) ?_
    refine Tr.aload_n (i := 0) dX10_rows_5 rfl rfl (Eq.refl 6) ?_
    refine Tr.getf dX10_rows_6 fX10_285 rfl rfl (Eq.refl 9) ?_
    refine Tr.icmp_geN (tgt := 27) dX10_rows_9 (by decide) (Eq.refl 12) (by omega) (by omega) (fun h9 => ?_) (fun h9 => ?_)
    · exact absurd h9 (by omega)
    · refine Tr.iload_n (i := 1) dX10_rows_12 rfl rfl (Eq.refl 13) ?_
      refine Tr.aload_n (i := 0) dX10_rows_13 rfl rfl (Eq.refl 14) ?_
      refine Tr.getf dX10_rows_14 fX10_282 rfl rfl (Eq.refl 17) ?_
      refine Tr.iconst (v := nI 1) dX10_rows_17 (icN 1) (Eq.refl 18) ?_
      refine Tr.iaddN dX10_rows_18 (Eq.refl 19) ?_
      refine Tr.imulN dX10_rows_19 (Eq.refl 20) ?_
      refine Tr.istore_n (i := 1) dX10_rows_20 rfl rfl rfl (Eq.refl 21) ?_
      refine Tr.iincN dX10_rows_21 rfl rfl rfl (Eq.refl 24) ?_
      refine Tr.goto (pc' := 4) dX10_rows_24 (by decide) ?_
      exact Tr.eqs rfl rfl rfl ih
set_option maxHeartbeats 4000000 in
set_option maxRecDepth 100000 in
theorem m_wished (E : EnvT) (ad r : Nat → Nat) (i : Nat → Int32) (V : Vil) (x p : Nat) (hV : Vok V) (hp : p < npV V) (hx : x < 2 ^ 20) : Md E mX10_wished ad [.ref (ad 0), .int (nI x), .int (nI p)] [moP r i (nhV V) (npV V)] (some (.int (nI (wsR V x p)))) [moP r i (nhV V) (npV V)] := by
  have v1 := hV.1
  have hw := wtR_le hV p
  have hw0 := wtR_pos V p
  have hd := dgR_lt V x p
  have hdv : x / wtR V p < 2 ^ 31 := Nat.lt_of_le_of_lt (Nat.div_le_self _ _) (by omega)
  refine Md.of 0 (by decide) rfl rfl ?_
  refine Tr.aload_n (i := 0) dX10_wished_0 rfl rfl (Eq.refl 1) ?_
  refine Tr.iload_n (i := 1) dX10_wished_1 rfl rfl (Eq.refl 2) ?_
  refine Tr.aload_n (i := 0) dX10_wished_2 rfl rfl (Eq.refl 3) ?_
  refine Tr.iload_n (i := 2) dX10_wished_3 rfl rfl (Eq.refl 4) ?_
  refine Tr.callVs (m_weight E ad r i V p hV hp) dX10_wished_4 (kX10_419 (Nat.le_of_ble_eq_true rfl)) iX10_weight rfl rfl rfl rfl rfl (Nat.le_refl _) rfl rfl (Eq.refl 7) ?_
  refine Tr.idiv dX10_wished_7 (nI_ne0 hw0 (by omega)) (Eq.refl 8) ?_
  rw [pk_div (by omega) hw0 (by omega)]
  refine Tr.aload_n (i := 0) dX10_wished_8 rfl rfl (Eq.refl 9) ?_
  refine Tr.getf dX10_wished_9 fX10_282 rfl rfl (Eq.refl 12) ?_
  refine Tr.iconst (v := nI 1) dX10_wished_12 (icN 1) (Eq.refl 13) ?_
  refine Tr.iaddN dX10_wished_13 (Eq.refl 14) ?_
  refine Tr.irem dX10_wished_14 (nI_ne0 (by omega) (by omega)) (Eq.refl 15) ?_
  rw [pk_rem hdv (by omega) (by omega)]
  refine Tr.callVs (m_place E ad r i (nhV V) (npV V) (dgR V x p) v1 (by omega)) dX10_wished_15 (kX10_411 (Nat.le_of_ble_eq_true rfl)) iX10_place rfl rfl rfl rfl rfl (Nat.le_refl _) rfl rfl (Eq.refl 18) ?_
  refine Tr.iret dX10_wished_18 rfl (by first | rfl | exact bI_nar _) ?_ ?_
  · rfl
  · rfl
def gwF (V : Vil) (t x : Nat) (W : Nat → Nat) : Nat → Nat → Nat
  | 0 => W
  | p + 1 => upN (gwF V t x W p) p (if wkB V p t then 5 else wsR V x p)
theorem wsR_ok (V : Vil) (x p : Nat) : wsR V x p < nhV V ∨ wsR V x p = 5 := plR_ok _ _
theorem gwF_ok (V : Vil) (t x : Nat) (W : Nat → Nat) : Wok V (gwF V t x W (npV V)) := by
  have h : ∀ n p, p < n → gwF V t x W n p < nhV V ∨ gwF V t x W n p = 5 := by
    intro n
    induction n with
    | zero => intro p hp; omega
    | succ n ih =>
      intro p hp
      show upN (gwF V t x W n) n _ p < _ ∨ upN (gwF V t x W n) n _ p = 5
      by_cases e : p = n
      · rw [e, upN_self]
        split
        · exact Or.inr rfl
        · exact wsR_ok V x n
      · rw [upN_ne _ _ e]; exact ih p (by omega)
  exact fun p hp => h _ p hp
theorem mt_W {E : EnvT} {ad r : Nat → Nat} {i : Nat → Int32} {V : Vil} {o : Ovr} {lg ll : Int32} {W : Nat → Nat} {B f g : Nat → Int32} {bp : Nat → Nat} {G : Nat → Int32} {p x : Nat} : (mtC E ad r i V o lg ll W B f g bp G).set 7 (aI E 5 (upd (fun k => nI (W k)) p (nI x))) = (mtC E ad r i V o lg ll (upN W p x) B f g bp G) := by
  unfold mtC
  rw [nI_upN]
  rfl
set_option maxHeartbeats 4000000 in
set_option maxRecDepth 100000 in
theorem m_goWishes (E : EnvT) (ad r : Nat → Nat) (i : Nat → Int32) (V : Vil) (o : Ovr) (lg ll : Int32) (W : Nat → Nat) (B f g : Nat → Int32) (bp : Nat → Nat) (G : Nat → Int32) (S : Scn) (P : Nat → Nat) (L : Nat → Int32) (a : Nat) (x : Nat) (hV : Vok V) (hS : Sle V S) (ht : psS S < 2 ^ 29) (hx : x < 2 ^ 20) : Md E mX10_goWishes ad [.ref (ad 0), .int (nI x)] (mtC E ad r i V o lg ll W B f (rwF S P L a) bp G) none (mtC E ad r i V o lg ll (gwF V (psS S) x W (npV V)) (lbF (gwF V (psS S) x W (npV V)) S B (npV V)) (rwF (gon (ovr V o) L (gwF V (psS S) x W (npV V)) S) P L a) (rwF S P L a) bp G) := by
  have v2 := hV.2.1
  refine Md.of 1 (by decide) rfl rfl ?_
  refine Tr.aload_n (i := 0) dX10_goWishes_0 rfl rfl (Eq.refl 1) ?_
  refine Tr.callVs (m_copyNow E ad r i V o lg ll W B f (rwF S P L a) bp G) dX10_goWishes_1 (kX10_402 (Nat.le_of_ble_eq_true rfl)) iX10_copyNow rfl rfl rfl rfl rfl (mt_le) rfl rfl (Eq.refl 4) ?_
  refine Tr.iconst (v := nI 0) dX10_goWishes_4 (icN 0) (Eq.refl 5) ?_
  refine Tr.istore_n (i := 2) dX10_goWishes_5 rfl rfl rfl (Eq.refl 6) ?_
  refine Tr.mask [true, true, true] (lv' := [some (.ref (ad 0)), some (.int (nI x)), some (.int (nI 0))]) rfl ?_
  refine Tr.pic (w' := (mtC E ad r i V o lg ll (gwF V (psS S) x W 0) B (rwF S P L a) (rwF S P L a) bp G)) rfl ?_
  refine loopD (P := fun j => Tr _ 0 0 6 [some (.ref (ad 0)), some (.int (nI x)), some (.int (nI j))] [] (mtC E ad r i V o lg ll (gwF V (psS S) x W j) B (rwF S P L a) (rwF S P L a) bp G)) (npV V) ?_ (fun j hj ih => ?_)
  · have hW := gwF_ok V (psS S) x W
    generalize (gwF V (psS S) x W (npV V)) = W2 at *
    refine Tr.iload_n (i := 2) dX10_goWishes_6 rfl rfl (Eq.refl 7) ?_
    refine Tr.aload_n (i := 0) dX10_goWishes_7 rfl rfl (Eq.refl 8) ?_
    refine Tr.getf dX10_goWishes_8 fX10_285 rfl rfl (Eq.refl 11) ?_
    refine Tr.icmp_geN (tgt := 48) dX10_goWishes_11 (by decide) (Eq.refl 14) (by omega) (by omega) (fun h11 => ?_) (fun h11 => ?_)
    · refine Tr.aload_n (i := 0) dX10_goWishes_48 rfl rfl (Eq.refl 49) ?_
      refine Tr.aload_n (i := 0) dX10_goWishes_49 rfl rfl (Eq.refl 50) ?_
      refine Tr.getf dX10_goWishes_50 fX10_222 rfl rfl (Eq.refl 53) ?_
      refine Tr.callV (L := [0, 1, 2, 3, 4, 5, 6, 7, 8, 9]) (m_goQuarter E _ (rT ad r) (iT lg ll i) V o W2 B S P L a hV hS hW (by omega)) dX10_goWishes_53 (kX10_392 (Nat.le_of_ble_eq_true rfl)) iX10_goQuarter rfl rfl rfl rfl rfl rfl rfl rfl rfl rfl (Eq.refl 56) ?_
      refine Tr.pic (w' := mtC E ad r i V o lg ll W2 (lbF W2 S B (npV V)) (rwF (gon (ovr V o) L W2 S) P L a) (rwF S P L a) bp G) (putB_eq (Lc := [10, 11, 12]) 13 rfl rfl rfl rfl ⟨⟨_, rfl, rfl⟩, ⟨_, rfl, rfl⟩, ⟨_, rfl, rfl⟩, trivial⟩ (by decide) rfl) ?_
      refine Tr.ret dX10_goWishes_56 rfl rfl ?_
      · rfl
    · exact absurd h11 (by omega)
  · have hu : (gwF V (psS S) x W (j + 1)) = upN (gwF V (psS S) x W j) j (if wkB V j (psS S) then 5 else wsR V x j) := rfl
    rw [hu] at ih
    clear hu
    generalize (gwF V (psS S) x W j) = W2 at *
    refine Tr.iload_n (i := 2) dX10_goWishes_6 rfl rfl (Eq.refl 7) ?_
    refine Tr.aload_n (i := 0) dX10_goWishes_7 rfl rfl (Eq.refl 8) ?_
    refine Tr.getf dX10_goWishes_8 fX10_285 rfl rfl (Eq.refl 11) ?_
    refine Tr.icmp_geN (tgt := 48) dX10_goWishes_11 (by decide) (Eq.refl 14) (by omega) (by omega) (fun h11 => ?_) (fun h11 => ?_)
    · exact absurd h11 (by omega)
    · refine Tr.aload_n (i := 0) dX10_goWishes_14 rfl rfl (Eq.refl 15) ?_
      refine Tr.getf dX10_goWishes_15 fX10_236 rfl rfl (Eq.refl 18) ?_
      refine Tr.iload_n (i := 2) dX10_goWishes_18 rfl rfl (Eq.refl 19) ?_
      refine Tr.aload_n (i := 0) dX10_goWishes_19 rfl rfl (Eq.refl 20) ?_
      refine Tr.aload_n (i := 0) dX10_goWishes_20 rfl rfl (Eq.refl 21) ?_
      refine Tr.getf dX10_goWishes_21 fX10_222 rfl rfl (Eq.refl 24) ?_
      refine Tr.iload_n (i := 2) dX10_goWishes_24 rfl rfl (Eq.refl 25) ?_
      refine Tr.callVr (L := [0, 1, 2, 3, 4, 5, 6, 7, 8, 9]) (m_works E _ (rT ad r) (iT lg ll i) V o W2 B S P L a j hV hj (by omega)) dX10_goWishes_25 (kX10_338 (Nat.le_of_ble_eq_true rfl)) iX10_works rfl rfl rfl rfl rfl rfl rfl rfl rfl (Eq.refl 28) ?_
      refine Tr.if_eqB (tgt := 35) dX10_goWishes_28 (by decide) (Eq.refl 31) (fun h28 => ?_) (fun h28 => ?_)
      · rw [if_neg (by rw [h28]; decide)] at ih
        refine Tr.aload_n (i := 0) dX10_goWishes_35 rfl rfl (Eq.refl 36) ?_
        refine Tr.iload_n (i := 1) dX10_goWishes_36 rfl rfl (Eq.refl 37) ?_
        refine Tr.iload_n (i := 2) dX10_goWishes_37 rfl rfl (Eq.refl 38) ?_
        refine Tr.callVr (L := [0]) (m_wished E _ (rP ad r) (iP V o lg ll i) V x j hV hj hx) dX10_goWishes_38 (kX10_422 (Nat.le_of_ble_eq_true rfl)) iX10_wished rfl rfl rfl rfl rfl rfl rfl rfl rfl (Eq.refl 41) ?_
        refine Tr.iastN dX10_goWishes_41 rfl (by omega) (by decide) (Eq.refl 42) ?_
        refine Tr.pic mt_W ?_
        refine Tr.iincN dX10_goWishes_42 rfl rfl rfl (Eq.refl 45) ?_
        refine Tr.goto (pc' := 6) dX10_goWishes_45 (by decide) ?_
        exact Tr.eqs rfl rfl rfl ih
      · rw [if_pos h28] at ih
        refine Tr.iconst (v := nI 5) dX10_goWishes_31 (icN 5) (Eq.refl 32) ?_
        refine Tr.goto (pc' := 41) dX10_goWishes_32 (by decide) ?_
        refine Tr.iastN dX10_goWishes_41 rfl (by omega) (by decide) (Eq.refl 42) ?_
        refine Tr.pic mt_W ?_
        refine Tr.iincN dX10_goWishes_42 rfl rfl rfl (Eq.refl 45) ?_
        refine Tr.goto (pc' := 6) dX10_goWishes_45 (by decide) ?_
        exact Tr.eqs rfl rfl rfl ih
/-- gains of a row set -/
def giF (S : Scn) (x : Nat) (G : Nat → Int32) : Nat → Nat → Int32
  | 0 => G
  | p + 1 => upd (giF S x G p) (5 * x + p) (ltS S p)
abbrev Fgt : Type := (Nat → Nat) × (Nat → Int32) × (Nat → Int32) × (Nat → Int32)
def ggS (V : Vil) (o : Ovr) (S : Scn) (P : Nat → Nat) (L : Nat → Int32) (a : Nat) (q : Fgt) (x : Nat) : Fgt := (gwF V (psS S) x q.1 (npV V), lbF (gwF V (psS S) x q.1 (npV V)) S q.2.1 (npV V), rwF (gon (ovr V o) L (gwF V (psS S) x q.1 (npV V)) S) P L a, giF (gon (ovr V o) L (gwF V (psS S) x q.1 (npV V)) S) x q.2.2.2 (npV V))
def ggF (V : Vil) (o : Ovr) (S : Scn) (P : Nat → Nat) (L : Nat → Int32) (a : Nat) (q : Fgt) : Nat → Fgt
  | 0 => q
  | x + 1 => ggS V o S P L a (ggF V o S P L a q x) x
set_option maxHeartbeats 4000000 in
set_option maxRecDepth 100000 in
theorem m_findGains (E : EnvT) (ad r : Nat → Nat) (i : Nat → Int32) (V : Vil) (o : Ovr) (lg ll : Int32) (W : Nat → Nat) (B f g : Nat → Int32) (bp : Nat → Nat) (G : Nat → Int32) (S : Scn) (P : Nat → Nat) (L : Nat → Int32) (a : Nat) (hV : Vok V) (hS : Sle V S) (ht : psS S < 2 ^ 29) : Md E mX10_findGains ad [.ref (ad 0)] (mtC E ad r i V o lg ll W B f (rwF S P L a) bp G) none (mtC E ad r i V o lg ll (ggF V o S P L a (W, B, f, G) (rwN V)).1 (ggF V o S P L a (W, B, f, G) (rwN V)).2.1 (ggF V o S P L a (W, B, f, G) (rwN V)).2.2.1 (rwF S P L a) bp (ggF V o S P L a (W, B, f, G) (rwN V)).2.2.2) := by
  have v2 := hV.2.1
  have hr := rwN_le hV
  refine Md.of 2 (by decide) rfl rfl ?_
  refine Tr.iconst (v := nI 0) dX10_findGains_0 (icN 0) (Eq.refl 1) ?_
  refine Tr.istore_n (i := 1) dX10_findGains_1 rfl rfl rfl (Eq.refl 2) ?_
  refine Tr.mask [true, true, true] (lv' := [some (.ref (ad 0)), some (.int (nI 0)), none]) rfl ?_
  refine Tr.pic (w' := (mtC E ad r i V o lg ll (ggF V o S P L a (W, B, f, G) 0).1 (ggF V o S P L a (W, B, f, G) 0).2.1 (ggF V o S P L a (W, B, f, G) 0).2.2.1 (rwF S P L a) bp (ggF V o S P L a (W, B, f, G) 0).2.2.2)) rfl ?_
  refine loopD (P := fun j => Tr _ 0 0 2 [some (.ref (ad 0)), some (.int (nI j)), none] [] (mtC E ad r i V o lg ll (ggF V o S P L a (W, B, f, G) j).1 (ggF V o S P L a (W, B, f, G) j).2.1 (ggF V o S P L a (W, B, f, G) j).2.2.1 (rwF S P L a) bp (ggF V o S P L a (W, B, f, G) j).2.2.2)) (rwN V) ?_ (fun j hj ih => ?_)
  · refine Tr.iload_n (i := 1) dX10_findGains_2 rfl rfl (Eq.refl 3) ?_
    refine Tr.aload_n (i := 0) dX10_findGains_3 rfl rfl (Eq.refl 4) ?_
    refine Tr.callVr (L := [0]) (m_rows E _ (rP ad r) (iP V o lg ll i) V hV) dX10_findGains_4 (kX10_425 (Nat.le_of_ble_eq_true rfl)) iX10_rows rfl rfl rfl rfl rfl rfl rfl rfl rfl (Eq.refl 7) ?_
    refine Tr.icmp_geN (tgt := 56) dX10_findGains_7 (by decide) (Eq.refl 10) (by omega) (by omega) (fun h7 => ?_) (fun h7 => ?_)
    · refine Tr.ret dX10_findGains_56 rfl rfl ?_
      · rfl
    · exact absurd h7 (by omega)
  · have hu : (ggF V o S P L a (W, B, f, G) (j + 1)) = ggS V o S P L a (ggF V o S P L a (W, B, f, G) j) j := rfl
    rw [hu] at ih
    clear hu
    generalize (ggF V o S P L a (W, B, f, G) j) = q at *
    obtain ⟨W1, B1, f1, G1⟩ := q
    have hu : ggS V o S P L a (W1, B1, f1, G1) j = (gwF V (psS S) j W1 (npV V), lbF (gwF V (psS S) j W1 (npV V)) S B1 (npV V), rwF (gon (ovr V o) L (gwF V (psS S) j W1 (npV V)) S) P L a, giF (gon (ovr V o) L (gwF V (psS S) j W1 (npV V)) S) j G1 (npV V)) := rfl
    rw [hu] at ih
    clear hu
    show Tr _ 0 0 2 _ _ (mtC E ad r i V o lg ll W1 B1 f1 (rwF S P L a) bp G1)
    refine Tr.iload_n (i := 1) dX10_findGains_2 rfl rfl (Eq.refl 3) ?_
    refine Tr.aload_n (i := 0) dX10_findGains_3 rfl rfl (Eq.refl 4) ?_
    refine Tr.callVr (L := [0]) (m_rows E _ (rP ad r) (iP V o lg ll i) V hV) dX10_findGains_4 (kX10_425 (Nat.le_of_ble_eq_true rfl)) iX10_rows rfl rfl rfl rfl rfl rfl rfl rfl rfl (Eq.refl 7) ?_
    refine Tr.icmp_geN (tgt := 56) dX10_findGains_7 (by decide) (Eq.refl 10) (by omega) (by omega) (fun h7 => ?_) (fun h7 => ?_)
    · exact absurd h7 (by omega)
    · refine Tr.aload_n (i := 0) dX10_findGains_10 rfl rfl (Eq.refl 11) ?_
      refine Tr.iload_n (i := 1) dX10_findGains_11 rfl rfl (Eq.refl 12) ?_
      refine Tr.callVs (m_goWishes E ad r i V o lg ll W1 B1 f1 f bp G1 S P L a j hV hS ht (by omega)) dX10_findGains_12 (kX10_428 (Nat.le_of_ble_eq_true rfl)) iX10_goWishes rfl rfl rfl rfl rfl (mt_le) rfl rfl (Eq.refl 15) ?_
      generalize gwF V (psS S) j W1 (npV V) = W2 at *
      generalize gon (ovr V o) L W2 S = S2 at *
      refine Tr.iconst (v := nI 0) dX10_findGains_15 (icN 0) (Eq.refl 16) ?_
      refine Tr.istore_n (i := 2) dX10_findGains_16 rfl rfl rfl (Eq.refl 17) ?_
      skip
      refine Tr.mask [true, true, true] (lv' := [some (.ref (ad 0)), some (.int (nI j)), some (.int (nI 0))]) rfl ?_
      refine Tr.pic (w' := (mtC E ad r i V o lg ll W2 (lbF W2 S B1 (npV V)) (rwF S2 P L a) (rwF S P L a) bp (giF S2 j G1 0))) rfl ?_
      refine loopD (P := fun p => Tr _ 0 0 17 [some (.ref (ad 0)), some (.int (nI j)), some (.int (nI p))] [] (mtC E ad r i V o lg ll W2 (lbF W2 S B1 (npV V)) (rwF S2 P L a) (rwF S P L a) bp (giF S2 j G1 p))) (npV V) ?_ (fun p hp ih2 => ?_)
      · refine Tr.iload_n (i := 2) dX10_findGains_17 rfl rfl (Eq.refl 18) ?_
        refine Tr.aload_n (i := 0) dX10_findGains_18 rfl rfl (Eq.refl 19) ?_
        refine Tr.getf dX10_findGains_19 fX10_285 rfl rfl (Eq.refl 22) ?_
        refine Tr.icmp_geN (tgt := 50) dX10_findGains_22 (by decide) (Eq.refl 25) (by omega) (by omega) (fun h22 => ?_) (fun h22 => ?_)
        · refine Tr.iincN dX10_findGains_50 rfl rfl rfl (Eq.refl 53) ?_
          refine Tr.goto (pc' := 2) dX10_findGains_53 (by decide) ?_
          exact Tr.mask [true, true, false] rfl ih
        · exact absurd h22 (by omega)
      · refine Tr.iload_n (i := 2) dX10_findGains_17 rfl rfl (Eq.refl 18) ?_
        refine Tr.aload_n (i := 0) dX10_findGains_18 rfl rfl (Eq.refl 19) ?_
        refine Tr.getf dX10_findGains_19 fX10_285 rfl rfl (Eq.refl 22) ?_
        refine Tr.icmp_geN (tgt := 50) dX10_findGains_22 (by decide) (Eq.refl 25) (by omega) (by omega) (fun h22 => ?_) (fun h22 => ?_)
        · exact absurd h22 (by omega)
        · refine Tr.aload_n (i := 0) dX10_findGains_25 rfl rfl (Eq.refl 26) ?_
          refine Tr.getf dX10_findGains_26 fX10_253 rfl rfl (Eq.refl 29) ?_
          refine Tr.iconst (v := nI 5) dX10_findGains_29 (icN 5) (Eq.refl 30) ?_
          refine Tr.iload_n (i := 1) dX10_findGains_30 rfl rfl (Eq.refl 31) ?_
          refine Tr.imulN dX10_findGains_31 (Eq.refl 32) ?_
          refine Tr.iload_n (i := 2) dX10_findGains_32 rfl rfl (Eq.refl 33) ?_
          refine Tr.iaddN dX10_findGains_33 (Eq.refl 34) ?_
          refine Tr.aload_n (i := 0) dX10_findGains_34 rfl rfl (Eq.refl 35) ?_
          refine Tr.getf dX10_findGains_35 fX10_222 rfl rfl (Eq.refl 38) ?_
          refine Tr.bipush (v := nI 10) dX10_findGains_38 (by decide +kernel) (Eq.refl 40) ?_
          refine Tr.iload_n (i := 2) dX10_findGains_40 rfl rfl (Eq.refl 41) ?_
          refine Tr.iaddN dX10_findGains_41 (Eq.refl 42) ?_
          refine Tr.ialdN dX10_findGains_42 rfl (by omega) (by decide) (Eq.refl 43) ?_
          refine Tr.top (rd_lt (by omega)) ?_
          refine Tr.iastN dX10_findGains_43 rfl (by omega) (by decide) (Eq.refl 44) ?_
          refine Tr.iincN dX10_findGains_44 rfl rfl rfl (Eq.refl 47) ?_
          refine Tr.goto (pc' := 17) dX10_findGains_47 (by decide) ?_
          exact Tr.eqs rfl rfl rfl ih2
