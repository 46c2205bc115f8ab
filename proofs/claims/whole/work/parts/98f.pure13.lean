/-! RINGS -/
theorem itB_steps {α : Type} {f : Nat → α → Bool × α} {s : α} : ∀ n, (itB f s n).1 = true → ∀ k, k < n → (itB f s k).1 = true ∧ (f k (itB f s k).2).1 = true := by
  intro n
  induction n with
  | zero => intro _ k hk; exact absurd hk (by omega)
  | succ n ih =>
    intro h k hk
    have hu : itB f s (n + 1) = if (itB f s n).1 then f n (itB f s n).2 else itB f s n := rfl
    rw [hu] at h
    by_cases c : (itB f s n).1 = true
    · rw [if_pos c] at h
      by_cases e : k = n
      · subst e; exact ⟨c, h⟩
      · exact ih c k (by omega)
    · rw [if_neg c] at h; exact absurd h c
theorem ri_sp {V : Vil} {L : Nat → Int32} {O : Scn} {p : Nat} {g : Int32} {w : Nat → Nat} {S0 : Scn} : ∀ n, (∀ j, ¬ j = p → (itB (riS V L O p g) (w, S0) n).2.1 j = w j) ∧ ((itB (riS V L O p g) (w, S0) n).1 = true ↔ ∀ c, c < n → ¬ g < ltS (gon V L (upN w p (plc V c)) O) p) := by
  intro n
  induction n with
  | zero => exact ⟨fun _ _ => rfl, fun _ c hc => absurd hc (by omega), fun _ => rfl⟩
  | succ n ih =>
    obtain ⟨i1, i2⟩ := ih
    have hu : itB (riS V L O p g) (w, S0) (n + 1) = if (itB (riS V L O p g) (w, S0) n).1 then riS V L O p g n (itB (riS V L O p g) (w, S0) n).2 else itB (riS V L O p g) (w, S0) n := rfl
    rw [hu]
    generalize itB (riS V L O p g) (w, S0) n = q at *
    have hw : upN q.2.1 p (plc V n) = upN w p (plc V n) := by
      funext j
      by_cases e : j = p
      · subst e; rw [upN_self, upN_self]
      · rw [upN_ne _ _ e, upN_ne _ _ e]; exact i1 j e
    by_cases c : q.1 = true
    · rw [if_pos c]
      unfold riS
      rw [hw]
      refine ⟨fun j hj => upN_ne _ _ hj, ?_⟩
      rw [bnot_dec]
      have i2 := i2.mp c
      constructor
      · intro h c' hc'
        by_cases e : c' = n
        · subst e; exact h
        · exact i2 c' (by omega)
      · intro h; exact h n (by omega)
    · rw [if_neg c]
      exact ⟨i1, fun h => absurd h c, fun h => absurd (i2.mpr (fun c' hc' => h c' (by omega))) c⟩
def wgC (V : Vil) (P : Nat → Nat) (t : Nat) (ch : Nat → Nat) (j : Nat) : Nat := if hoV V j < 5 then ch j else (if wkB V j t then 5 else P (j * 4 + t % 4))
theorem wgF_at (V : Vil) (ch W : Nat → Nat) : ∀ n j, wgF V ch W n j = if j < n ∧ hoV V j < 5 then ch j else W j := by
  intro n
  induction n with
  | zero => intro j; rw [if_neg (by omega)]; rfl
  | succ n ih =>
    intro j
    show (if hoV V n < 5 then upN (wgF V ch W n) n (ch n) else wgF V ch W n) j = _
    by_cases c : hoV V n < 5
    · rw [if_pos c]
      by_cases e : j = n
      · subst e; rw [upN_self, if_pos ⟨by omega, c⟩]
      · rw [upN_ne _ _ e, ih j]
        by_cases c2 : j < n ∧ hoV V j < 5
        · rw [if_pos c2, if_pos ⟨by omega, c2.2⟩]
        · rw [if_neg c2, if_neg (fun z => c2 ⟨by omega, z.2⟩)]
    · rw [if_neg c, ih j]
      by_cases c2 : j < n ∧ hoV V j < 5
      · rw [if_pos c2, if_pos ⟨by omega, c2.2⟩]
      · rw [if_neg c2, if_neg (fun z => c2 ⟨by have : ¬ j = n := fun e => c (e ▸ z.2); omega, z.2⟩)]
theorem wgW_at (V : Vil) (P : Nat → Nat) (t : Nat) (ch W : Nat → Nat) (j : Nat) (hj : j < npV V) : wgW V P t ch W j = wgC V P t ch j := by
  unfold wgW wgC
  rw [wgF_at]
  by_cases c : hoV V j < 5
  · rw [if_pos ⟨hj, c⟩, if_pos c]
  · rw [if_neg (fun z => c z.2), if_neg c, fwF_at _ _ _ _ _ _ hj]
/-- no owner would rather go elsewhere -/
def hoC (V : Vil) (P : Nat → Nat) (L : Nat → Int32) (O : Scn) (ch : Nat → Nat) (n : Nat) : Prop := ∀ p, p < n → hoV V p < 5 → ∀ c, c < nhV V + 1 → ¬ ltS (gon V L (wgC V P (psS O) ch) O) p < ltS (gon V L (upN (wgC V P (psS O) ch) p (plc V c)) O) p
theorem ro_iff {V : Vil} {P : Nat → Nat} {L : Nat → Int32} {O : Scn} {ch : Nat → Nat} (s : (Nat → Nat) × Scn) : ∀ n, n ≤ npV V → ((itB (roS V P L O ch) s n).1 = true ↔ hoC V P L O ch n) := by
  intro n
  induction n with
  | zero => intro _; exact ⟨fun _ p hp => absurd hp (by omega), fun _ => rfl⟩
  | succ n ih =>
    intro hn
    have ih := ih (by omega)
    have hu : itB (roS V P L O ch) s (n + 1) = if (itB (roS V P L O ch) s n).1 then roS V P L O ch n (itB (roS V P L O ch) s n).2 else itB (roS V P L O ch) s n := rfl
    rw [hu]
    generalize itB (roS V P L O ch) s n = q at *
    have hstep : (roS V P L O ch n q.2).1 = true ↔ (hoV V n < 5 → ∀ c, c < nhV V + 1 → ¬ ltS (gon V L (wgC V P (psS O) ch) O) n < ltS (gon V L (upN (wgC V P (psS O) ch) n (plc V c)) O) n) := by
      unfold roS
      by_cases c : hoV V n < 5
      · rw [if_pos c, (ri_sp (nhV V + 1)).2, gon_W (W := wgW V P (psS O) ch q.2.1) (W' := wgC V P (psS O) ch) (fun j hj => wgW_at V P (psS O) ch q.2.1 j hj)]
        refine ⟨fun h _ c' hc' => ?_, fun h c' hc' => ?_⟩
        · have := h c' hc'
          rw [gon_W (W := upN (wgW V P (psS O) ch q.2.1) n (plc V c')) (W' := upN (wgC V P (psS O) ch) n (plc V c')) (fun j hj => by
            by_cases e : j = n
            · subst e; rw [upN_self, upN_self]
            · rw [upN_ne _ _ e, upN_ne _ _ e]; exact wgW_at V P (psS O) ch q.2.1 j hj)] at this
          exact this
        · rw [gon_W (W := upN (wgW V P (psS O) ch q.2.1) n (plc V c')) (W' := upN (wgC V P (psS O) ch) n (plc V c')) (fun j hj => by
            by_cases e : j = n
            · subst e; rw [upN_self, upN_self]
            · rw [upN_ne _ _ e, upN_ne _ _ e]; exact wgW_at V P (psS O) ch q.2.1 j hj)]
          exact h c c' hc'
      · rw [if_neg c]
        exact ⟨fun _ z => absurd z c, fun _ => rfl⟩
    by_cases c : q.1 = true
    · rw [if_pos c, hstep]
      have ih := ih.mp c
      constructor
      · intro h p hp
        by_cases e : p = n
        · subst e; exact h
        · exact ih p (by omega)
      · intro h; exact h n (by omega)
    · rw [if_neg c]
      exact ⟨fun z => absurd z c, fun z => absurd (ih.mpr (fun p hp => z p (by omega))) c⟩
/-! rows of rings -/
def mrg (V : Vil) (k : Nat) : Nat := if hoV V k < 5 then nhV V else 1
def pdg (V : Vil) (P : Nat → Nat) (t k : Nat) : Nat := if (if wkB V k t then 5 else P (k * 4 + t % 4)) = 5 then nhV V else (if wkB V k t then 5 else P (k * 4 + t % 4))
def dRg (V : Vil) (P : Nat → Nat) (t k a : Nat) : Nat := if hoV V k < 5 then a else pdg V P t k
def xRg (V : Vil) (P : Nat → Nat) (t : Nat) (ch : Nat → Nat) : Nat := nvF (fun _ => nhV V + 1) (npV V) (fun k => dRg V P t k (ch k))
theorem pdg_pl {V : Vil} {P : Nat → Nat} (hP : Pok V P) (t : Nat) {k : Nat} (hk : k < npV V) : pdg V P t k < nhV V + 1 ∧ plR (nhV V) (pdg V P t k) = (if wkB V k t then 5 else P (k * 4 + t % 4)) := by
  have h := hP k hk (t % 4) (Nat.mod_lt _ (by decide))
  unfold pdg
  by_cases c : wkB V k t = true
  · rw [if_pos c, if_pos rfl]
    exact ⟨by omega, plR_top _⟩
  · rw [if_neg c]
    by_cases e : P (k * 4 + t % 4) = 5
    · rw [if_pos e, e]; exact ⟨by omega, plR_top _⟩
    · rw [if_neg e]
      refine ⟨by omega, ?_⟩
      unfold plR
      rw [if_neg (by omega)]
theorem dRg_lt {V : Vil} {P : Nat → Nat} (hP : Pok V P) {t k a : Nat} (hk : k < npV V) (h : a < mrg V k) : dRg V P t k a < nhV V + 1 := by
  unfold mrg at h
  unfold dRg
  by_cases c : hoV V k < 5
  · rw [if_pos c] at h; rw [if_pos c]; omega
  · rw [if_neg c]; exact (pdg_pl hP t hk).1
theorem dRg_mono {V : Vil} {P : Nat → Nat} {t k a b : Nat} (h : a < b) (hb : b < mrg V k) : dRg V P t k a < dRg V P t k b := by
  unfold mrg at hb
  unfold dRg
  by_cases c : hoV V k < 5
  · rw [if_pos c, if_pos c]; exact h
  · rw [if_neg c] at hb; omega
theorem xRg_ord {V : Vil} {P : Nat → Nat} (hP : Pok V P) {t : Nat} {a b : Nat → Nat} (ha : ∀ k, k < npV V → a k < mrg V k) (hb : ∀ k, k < npV V → b k < mrg V k) : nvF (mrg V) (npV V) a < nvF (mrg V) (npV V) b ↔ xRg V P t a < xRg V P t b := (nv_mono (M := fun _ => nhV V + 1) (d := dRg V P t) (npV V) (fun k hk a h => dRg_lt hP hk h) (fun k _ a b h hb => dRg_mono h hb) a b ha hb).1
theorem xRg_lt {V : Vil} {P : Nat → Nat} (hP : Pok V P) {t : Nat} {a : Nat → Nat} (ha : ∀ k, k < npV V → a k < mrg V k) : xRg V P t a < rwN V := nvF_pow _ _ (npV V) (fun k hk => dRg_lt hP hk (ha k hk))
theorem xRg_dg {V : Vil} {P : Nat → Nat} (hP : Pok V P) {t : Nat} {a : Nat → Nat} (ha : ∀ k, k < npV V → a k < mrg V k) {p : Nat} (hp : p < npV V) : dgN (nhV V + 1) (npV V) (xRg V P t a) p = dRg V P t p (a p) := dgN_nv _ (by omega) (npV V) _ (fun k hk => dRg_lt hP hk (ha k hk)) p hp
/-- the number of a ring -/
def nRg (V : Vil) (ch : Nat → Nat) (n : Nat) : Nat := nvF (fun _ => 10) n (fun k => if hoV V k < 5 then ch k else 9)
theorem rnF_n (V : Vil) (ch : Nat → Nat) : ∀ n, rnF V ch n = nI (nRg V ch n) := by
  intro n
  induction n with
  | zero => rfl
  | succ n ih =>
    show rnF V ch n * nI 10 + (if hoV V n < 5 then nI (ch n) else nI 9) = nI (nRg V ch n * 10 + (if hoV V n < 5 then ch n else 9))
    rw [ih, ← nI_add, ← nI_mul]
    split <;> rfl
theorem nRg_ord {V : Vil} (h5 : nhV V ≤ 5) {a b : Nat → Nat} (ha : ∀ k, k < npV V → a k < mrg V k) (hb : ∀ k, k < npV V → b k < mrg V k) : nvF (mrg V) (npV V) a < nvF (mrg V) (npV V) b ↔ nRg V a (npV V) < nRg V b (npV V) := (nv_mono (M := fun _ => 10) (d := fun k a => if hoV V k < 5 then a else 9) (npV V) (fun k hk a h => by
  unfold mrg at h
  show (if hoV V k < 5 then a else 9) < 10
  by_cases c : hoV V k < 5
  · rw [if_pos c] at h; rw [if_pos c]; omega
  · rw [if_neg c]; omega) (fun k _ a b h hb => by
  unfold mrg at hb
  show (if hoV V k < 5 then a else 9) < (if hoV V k < 5 then b else 9)
  by_cases c : hoV V k < 5
  · rw [if_pos c, if_pos c]; exact h
  · rw [if_neg c] at hb; omega) a b ha hb).1
theorem nRg_lt {V : Vil} (h5 : nhV V ≤ 5) (hp5 : npV V ≤ 5) {a : Nat → Nat} (ha : ∀ k, k < npV V → a k < mrg V k) : nRg V a (npV V) < 100000 := by
  refine Nat.lt_of_lt_of_le (nvF_pow 10 _ (npV V) (fun k hk => ?_)) (Nat.le_trans (Nat.pow_le_pow_right (by decide) hp5) (by decide))
  have h := ha k hk
  unfold mrg at h
  show (if hoV V k < 5 then a k else 9) < 10
  by_cases c : hoV V k < 5
  · rw [if_pos c] at h; rw [if_pos c]; omega
  · rw [if_neg c]; omega
theorem nwB_iff (V : Vil) (t : Nat) : ∀ n, nwB V t n = true ↔ ∀ p, p < n → hoV V p < 5 → ¬ wkB V p t = true := by
  intro n
  induction n with
  | zero => exact ⟨fun _ p hp => absurd hp (by omega), fun _ => rfl⟩
  | succ n ih =>
    show (nwB V t n && !(decide (hoV V n < 5) && wkB V n t)) = true ↔ _
    rw [Bool.and_eq_true_iff, ih]
    constructor
    · rintro ⟨h1, h2⟩ p hp ho hw
      by_cases e : p = n
      · subst e; rw [decide_eq_true ho, hw] at h2; exact absurd h2 (by decide)
      · exact h1 p (by omega) ho hw
    · intro h
      refine ⟨fun p hp => h p (by omega), ?_⟩
      by_cases c : hoV V n < 5
      · have := h n (by omega) c
        rw [decide_eq_true c]
        cases hx : wkB V n t with
        | true => exact absurd hx this
        | false => rfl
      · rw [decide_eq_false c]; rfl
