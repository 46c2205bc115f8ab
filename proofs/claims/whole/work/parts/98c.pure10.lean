/-! GAINS BY ROWS, RESTS -/
theorem nvF_mo {mo mo' : Nat → Nat} {ch : Nat → Nat} : ∀ n, (∀ k, k < n → mo k = mo' k) → nvF mo n ch = nvF mo' n ch := by
  intro n
  induction n with
  | zero => intro _; rfl
  | succ n ih =>
    intro h
    show nvF mo n ch * mo n + ch n = nvF mo' n ch * mo' n + ch n
    rw [ih (fun k hk => h k (by omega)), h n (by omega)]
theorem ttF_mo {mo mo' : Nat → Nat} : ∀ n, (∀ k, k < n → mo k = mo' k) → ttF mo n = ttF mo' n := by
  intro n
  induction n with
  | zero => intro _; rfl
  | succ n ih =>
    intro h
    show ttF mo n * mo n = ttF mo' n * mo' n
    rw [ih (fun k hk => h k (by omega)), h n (by omega)]
theorem ttF_le6 {mo : Nat → Nat} : ∀ n, (∀ k, k < n → mo k ≤ 6) → ttF mo n ≤ 6 ^ n := by
  intro n
  induction n with
  | zero => intro _; exact Nat.le_refl _
  | succ n ih =>
    intro h
    show ttF mo n * mo n ≤ 6 ^ (n + 1)
    rw [Nat.pow_succ]
    exact Nat.mul_le_mul (ih (fun k hk => h k (by omega))) (h n (by omega))
def gwC (V : Vil) (L : Nat → Int32) (O : Scn) (ch : Nat → Nat) (p : Nat) : Int32 := ltS (gon V L (fun j => if wkB V j (psS O) then 5 else plc V (ch j)) O) p
theorem gwC_ext {V : Vil} {L : Nat → Int32} {O : Scn} {ch ch' : Nat → Nat} (h : ∀ k, k < npV V → ch k = ch' k) (p : Nat) : gwC V L O ch p = gwC V L O ch' p := by
  unfold gwC
  rw [gon_W (W := fun j => if wkB V j (psS O) then 5 else plc V (ch j)) (W' := fun j => if wkB V j (psS O) then 5 else plc V (ch' j)) (fun j hj => by rw [h j hj])]
theorem wrF_at (V : Vil) (t : Nat) (ch W : Nat → Nat) : ∀ n j, j < n → wrF V t ch W n j = if wkB V j t then 5 else plc V (ch j) := by
  intro n
  induction n with
  | zero => intro j hj; exact absurd hj (by omega)
  | succ n ih =>
    intro j hj
    show upN _ _ _ j = _
    by_cases e : j = n
    · subst e; rw [upN_self]
    · rw [upN_ne _ _ e]; exact ih j (by omega)
theorem fg_tab {V : Vil} {L : Nat → Int32} {O : Scn} {mo : Nat → Nat} (hp5 : npV V ≤ 5) (hbd : ∀ W p, p < npV V → Ib (ltS (gon V L W O) p) (-128) 127) : ∀ (n i c : Nat) (ch : Nat → Nat) (q : (Nat → Nat) × Scn × (Nat → Int64)), (c < 5 → (∀ k, k < npV V → ch k < mo k) ∧ i = nvF mo (npV V) ch ∧ ttF mo (npV V) ≤ i + n) → (c < 5 → ∀ ch', (∀ k, k < npV V → ch' k < mo k) → i ≤ nvF mo (npV V) ch' → ∀ p, p < npV V → unG ((fgF V L O mo n i c ch q).2.2.2 (nvF mo (npV V) ch')) p = gwC V L O ch' p) ∧ ∀ j, j < i → (fgF V L O mo n i c ch q).2.2.2 j = q.2.2 j := by
  intro n
  induction n with
  | zero =>
    intro i c ch q h
    refine ⟨fun hc ch' hch hle => ?_, fun j _ => rfl⟩
    have := h hc
    have := nvF_lt mo (npV V) hch
    omega
  | succ n ih =>
    intro i c ch q h
    by_cases hc : c < 5
    · have hu : fgF V L O mo (n + 1) i c ch q = fgF V L O mo n (i + 1) (gcF mo (npV V) ch).2 (gcF mo (npV V) ch).1 (wrF V (psS O) ch q.1 (npV V), gon V L (wrF V (psS O) ch q.1 (npV V)) O, vp_updL q.2.2 i (pkF (ltS (gon V L (wrF V (psS O) ch q.1 (npV V)) O)) (npV V) 0)) := if_pos hc
      rw [hu]
      obtain ⟨h1, h2, h3⟩ := h hc
      have hsp := gcF_sp mo (npV V) ch h1
      obtain ⟨i1, i2⟩ := ih (i + 1) (gcF mo (npV V) ch).2 (gcF mo (npV V) ch).1 (wrF V (psS O) ch q.1 (npV V), gon V L (wrF V (psS O) ch q.1 (npV V)) O, vp_updL q.2.2 i (pkF (ltS (gon V L (wrF V (psS O) ch q.1 (npV V)) O)) (npV V) 0)) (fun hc2 => by
        rcases hsp with ⟨a1, a2⟩ | ⟨a1, a2, a3, a4, a5⟩
        · omega
        · exact ⟨a2, by omega, by omega⟩)
      refine ⟨fun _ ch' hch hle p hp => ?_, fun j hj => ?_⟩
      · by_cases he : nvF mo (npV V) ch' = i
        · rw [i2 _ (by omega)]
          have e9 : vp_updL q.2.2 i (pkF (ltS (gon V L (wrF V (psS O) ch q.1 (npV V)) O)) (npV V) 0) i = pkF (ltS (gon V L (wrF V (psS O) ch q.1 (npV V)) O)) (npV V) 0 := if_pos rfl
          show unG (vp_updL q.2.2 i (pkF (ltS (gon V L (wrF V (psS O) ch q.1 (npV V)) O)) (npV V) 0) (nvF mo (npV V) ch')) p = _
          rw [he, e9, un_pk hp5 hp (fun k hk => hbd _ k hk)]
          have hx := nvF_inj mo (npV V) hch h1 (by omega)
          rw [gwC_ext hx]
          unfold gwC
          rw [gon_W (fun j hj => wrF_at V (psS O) ch q.1 (npV V) j hj)]
        · rcases hsp with ⟨a1, a2⟩ | ⟨a1, a2, a3, a4, a5⟩
          · have := nvF_lt mo (npV V) hch
            omega
          · exact i1 (by omega) ch' hch (by omega) p hp
      · rw [i2 _ (by omega)]
        show vp_updL q.2.2 i _ j = _
        exact if_neg (by omega)
    · have hu : fgF V L O mo (n + 1) i c ch q = (ch, q) := if_neg hc
      rw [hu]
      exact ⟨fun h => absurd h hc, fun _ _ => rfl⟩
theorem giF_ne (S : Scn) (x : Nat) (G : Nat → Int32) {j : Nat} : ∀ m, (j < 5 * x ∨ 5 * x + m ≤ j) → giF S x G m j = G j := by
  intro m
  induction m with
  | zero => intro _; rfl
  | succ m ih =>
    intro h
    show upd _ _ _ j = _
    rw [upd_ne _ _ (by omega)]
    exact ih (by omega)
theorem giF_at (S : Scn) (x : Nat) (G : Nat → Int32) : ∀ m p, p < m → giF S x G m (5 * x + p) = ltS S p := by
  intro m
  induction m with
  | zero => intro p h; exact absurd h (by omega)
  | succ m ih =>
    intro p h
    show upd _ _ _ _ = _
    by_cases e : p = m
    · subst e; rw [upd_self]
    · rw [upd_ne _ _ (by omega)]; exact ih p (by omega)
def gwR (V0 : Vil) (o : Ovr) (L : Nat → Int32) (S : Scn) (x p : Nat) : Int32 := ltS (gon (ovr V0 o) L (fun j => if wkB V0 j (psS S) then 5 else wsR V0 x j) S) p
theorem gwF_at (V : Vil) (t x : Nat) (W : Nat → Nat) : ∀ n j, j < n → gwF V t x W n j = if wkB V j t then 5 else wsR V x j := by
  intro n
  induction n with
  | zero => intro j hj; exact absurd hj (by omega)
  | succ n ih =>
    intro j hj
    show upN _ _ _ j = _
    by_cases e : j = n
    · subst e; rw [upN_self]
    · rw [upN_ne _ _ e]; exact ih j (by omega)
theorem gg_tab (V0 : Vil) (o : Ovr) (S : Scn) (P : Nat → Nat) (L : Nat → Int32) (a : Nat) (q : Fgt) (hp5 : npV V0 ≤ 5) : ∀ n x p, x < n → p < npV V0 → (ggF V0 o S P L a q n).2.2.2 (5 * x + p) = gwR V0 o L S x p := by
  intro n
  induction n with
  | zero => intro x p h; exact absurd h (by omega)
  | succ n ih =>
    intro x p hx hp
    show giF (gon (ovr V0 o) L (gwF V0 (psS S) n (ggF V0 o S P L a q n).1 (npV V0)) S) n (ggF V0 o S P L a q n).2.2.2 (npV V0) (5 * x + p) = _
    by_cases e : x = n
    · subst e
      rw [giF_at _ _ _ _ _ hp]
      unfold gwR
      rw [gon_W (V := ovr V0 o) (fun j hj => gwF_at V0 (psS S) x _ (npV V0) j hj)]
    · rw [giF_ne _ _ _ _ (by omega)]
      exact ih x p (by omega) hp
/-! both see the same rests -/
def mst (V : Vil) (t k : Nat) : Nat := if wkB V k t then 1 else nhV V + 1
def dRe (V : Vil) (t k a : Nat) : Nat := if wkB V k t then nhV V else a
def xRe (V : Vil) (t : Nat) (ch : Nat → Nat) : Nat := nvF (fun _ => nhV V + 1) (npV V) (fun k => dRe V t k (ch k))
theorem dRe_lt {V : Vil} {t k a : Nat} (h : a < mst V t k) : dRe V t k a < nhV V + 1 := by
  unfold mst at h
  unfold dRe
  split
  · omega
  · rename_i c; rw [if_neg c] at h; exact h
theorem dRe_mono {V : Vil} {t k a b : Nat} (h : a < b) (hb : b < mst V t k) : dRe V t k a < dRe V t k b := by
  unfold mst at hb
  unfold dRe
  by_cases c : wkB V k t = true
  · rw [if_pos c] at hb; omega
  · rw [if_neg c, if_neg c]; exact h
theorem xRe_ord {V : Vil} {t : Nat} {a b : Nat → Nat} (ha : ∀ k, k < npV V → a k < mst V t k) (hb : ∀ k, k < npV V → b k < mst V t k) : (nvF (mst V t) (npV V) a < nvF (mst V t) (npV V) b ↔ xRe V t a < xRe V t b) ∧ (nvF (mst V t) (npV V) a = nvF (mst V t) (npV V) b ↔ xRe V t a = xRe V t b) := nv_mono (M := fun _ => nhV V + 1) (d := dRe V t) (npV V) (fun k _ a h => dRe_lt h) (fun k _ a b h hb => dRe_mono h hb) a b ha hb
theorem xRe_lt {V : Vil} {t : Nat} {a : Nat → Nat} (ha : ∀ k, k < npV V → a k < mst V t k) : xRe V t a < rwN V := nvF_pow _ _ (npV V) (fun k hk => dRe_lt (ha k hk))
theorem xRe_dg {V : Vil} {t : Nat} {a : Nat → Nat} (ha : ∀ k, k < npV V → a k < mst V t k) {p : Nat} (hp : p < npV V) : dgN (nhV V + 1) (npV V) (xRe V t a) p = dRe V t p (a p) := dgN_nv _ (by omega) (npV V) _ (fun k hk => dRe_lt (ha k hk)) p hp
theorem plR5 {nh d : Nat} (h5 : nh ≤ 5) (hd : d < nh + 1) (h : plR nh d = 5) : d = nh := by
  unfold plR at h
  split at h
  · assumption
  · omega
/-- each row at which those at work are out is a row of the class -/
theorem xRe_sur {V : Vil} {t x : Nat} (h5 : nhV V ≤ 5) (hx : x < rwN V) (hw : ∀ p, p < npV V → wkB V p t = true → plR (nhV V) (dgN (nhV V + 1) (npV V) x p) = 5) : ∃ ch, (∀ k, k < npV V → ch k < mst V t k) ∧ xRe V t ch = x := by
  have hd : ∀ p, dgN (nhV V + 1) (npV V) x p < nhV V + 1 := fun p => Nat.mod_lt _ (by omega)
  refine ⟨fun k => if wkB V k t then 0 else dgN (nhV V + 1) (npV V) x k, fun k hk => ?_, ?_⟩
  · show (if wkB V k t then 0 else _) < _
    unfold mst
    by_cases c : wkB V k t = true
    · rw [if_pos c, if_pos c]; omega
    · rw [if_neg c, if_neg c]; exact hd k
  · have h1 : xRe V t (fun k => if wkB V k t then 0 else dgN (nhV V + 1) (npV V) x k) = nvF (fun _ => nhV V + 1) (npV V) (dgN (nhV V + 1) (npV V) x) := nvF_ext _ (npV V) (fun k hk => by
      show dRe V t k (if wkB V k t then 0 else _) = _
      unfold dRe
      by_cases c : wkB V k t = true
      · rw [if_pos c]; exact (plR5 h5 (hd k) (hw k hk c)).symm
      · rw [if_neg c, if_neg c])
    rw [h1]
    exact nv_dgN _ (by omega) (npV V) x hx
theorem bnot_dec {p : Prop} [Decidable p] : (!decide p) = true ↔ ¬ p := by
  by_cases h : p
  · rw [decide_eq_true h]; exact ⟨fun z => absurd z (by decide), fun z => absurd h z⟩
  · rw [decide_eq_false h]; exact ⟨fun _ => h, fun _ => rfl⟩
theorem rs_iff {V : Vil} {L : Nat → Int32} {O : Scn} {G : Nat → Int64} {mo K u ch : Nat → Nat} (hp5 : npV V ≤ 5) (hmo : ∀ k, k < npV V → mo k = mst V (psS O) k) (h6 : nhV V ≤ 5) (hu : Wts mo K (npV V) u) (hG : ∀ ch', (∀ k, k < npV V → ch' k < mst V (psS O) k) → ∀ p, p < npV V → unG (G (nvF (mst V (psS O)) (npV V) ch')) p = gwC V L O ch' p) (hch : ∀ k, k < npV V → ch k < mst V (psS O) k) : rsB G ch mo K (nvF (mst V (psS O)) (npV V) ch) (npV V) = true ↔ ∀ p, p < npV V → ∀ c, c < mst V (psS O) p → ¬ gwC V L O ch p < gwC V L O (upN ch p c) p := by
  have hnv : ∀ ch', nvF (mst V (psS O)) (npV V) ch' = rvF K ch' (npV V) := fun ch' => by
    rw [rv_nv hu (npV V) ch' (Nat.le_refl _), hu.1, Nat.mul_one]
    exact (nvF_mo (npV V) hmo).symm
  have htt : ttF (mst V (psS O)) (npV V) ≤ 7776 := by
    refine Nat.le_trans (ttF_le6 (npV V) (fun k _ => ?_)) (Nat.le_trans (Nat.pow_le_pow_right (by decide) hp5) (by decide))
    unfold mst
    split <;> omega
  have hrl : ∀ ch', (∀ k, k < npV V → ch' k < mst V (psS O) k) → nvF (mst V (psS O)) (npV V) ch' < 7776 := fun ch' h => Nat.lt_of_lt_of_le (nvF_lt _ (npV V) h) htt
  unfold rsB
  rw [itB_all]
  refine forall_congr' (fun p => forall_congr' (fun hp => ?_))
  have hup : ∀ c, c < mst V (psS O) p → ∀ k, k < npV V → upN ch p c k < mst V (psS O) k := fun c hc k hk => by
    by_cases e : k = p
    · subst e; rw [upN_self]; exact hc
    · rw [upN_ne _ _ e]; exact hch k hk
  show (itB (rcS G (nvF (mst V (psS O)) (npV V) ch - ch p * K p) (K p) (nvF (mst V (psS O)) (npV V) ch) p) () (mo p)).1 = true ↔ _
  rw [itB_all, hmo p hp]
  refine forall_congr' (fun c => forall_congr' (fun hc => ?_))
  show (!decide (gaN G (nvF (mst V (psS O)) (npV V) ch) p < gaN G (nvF (mst V (psS O)) (npV V) ch - ch p * K p + c * K p) p)) = true ↔ _
  have e1 : nvF (mst V (psS O)) (npV V) ch - ch p * K p + c * K p = nvF (mst V (psS O)) (npV V) (upN ch p c) := by
    rw [hnv, hnv]
    have h1 := rv_set K c p (npV V) ch hp
    have h2 := rvF_at K ch hp
    omega
  rw [e1, bnot_dec]
  unfold gaN
  rw [if_pos (hrl ch hch), if_pos (hrl _ (hup c hc)), hG ch hch p hp, hG _ (hup c hc) p hp]
theorem ir_iff {V0 : Vil} {t : Nat} {G : Nat → Int32} {x : Nat} : irB V0 t G x = true ↔ ∀ p, p < npV V0 → (if wkB V0 p t then wsR V0 x p = 5 else ∀ c, c < nhV V0 + 1 → ¬ G (5 * x + p) < G (5 * (x - dgR V0 x p * wtR V0 p + c * wtR V0 p) + p)) := by
  unfold irB
  rw [itB_all]
  refine forall_congr' (fun p => forall_congr' (fun hp => ?_))
  show (if wkB V0 p t then (decide (wsR V0 x p = 5), ()) else irP V0 G x p).1 = true ↔ _
  by_cases c : wkB V0 p t = true
  · rw [if_pos c, if_pos c]; exact decide_eq_true_iff
  · rw [if_neg c, if_neg c]
    unfold irP
    rw [itB_all]
    refine forall_congr' (fun k => forall_congr' (fun hk => ?_))
    exact bnot_dec
