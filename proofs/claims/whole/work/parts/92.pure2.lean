/-! RUNS OF QUARTERS, FREE OF WHAT LIES BEYOND -/
theorem lvF_W {W W' : Nat → Nat} {S : Scn} : ∀ n, (∀ p, p < n → W p = W' p) → lvF W S n = lvF W' S n := by
  intro n
  induction n with
  | zero => intro _; rfl
  | succ n ih =>
    intro h
    show lvStep W (lvF W S n) n = lvStep W' (lvF W' S n) n
    rw [ih (fun p hp => h p (by omega))]
    unfold lvStep
    rw [h n (by omega)]
theorem cmF_W {V : Vil} {L : Nat → Int32} {W W' : Nat → Nat} {S : Scn} (h : ∀ p, p < npV V → W p = W' p) : ∀ n, n ≤ npV V → cmF V L W S n = cmF V L W' S n := by
  intro n
  induction n with
  | zero => intro _; exact lvF_W (npV V) h
  | succ n ih =>
    intro hn
    show cmStep V L W S (cmF V L W S n) n = cmStep V L W' S (cmF V L W' S n) n
    rw [ih (by omega)]
    unfold cmStep
    rw [h n (by omega)]
theorem gon_W {V : Vil} {L : Nat → Int32} {W W' : Nat → Nat} {S : Scn} (h : ∀ p, p < npV V → W p = W' p) : gon V L W S = gon V L W' S := by
  unfold gon
  rw [cmF_W h (npV V) (Nat.le_refl _)]
def wsh (V : Vil) (P : Nat → Nat) (t p : Nat) : Nat := if wkB V p t then 5 else P (p * 4 + t % 4)
/-- so many quarters by a plan -/
def run (V : Vil) (P : Nat → Nat) (L : Nat → Int32) (S : Scn) : Nat → Scn
  | 0 => S
  | n + 1 => gon V L (wsh V P (psS (run V P L S n))) (run V P L S n)
theorem fwF_wsh (V : Vil) (P : Nat → Nat) (t : Nat) (W : Nat → Nat) : ∀ p, p < npV V → fwF V P t W (npV V) p = wsh V P t p := fun p hp => fwF_at V P t W (npV V) p hp
theorem rq_run (T : Tst) : ∀ n, (rqF T n).1 = run (vT T) (pT T) (lT T) (oT T) n := by
  intro n
  induction n with
  | zero => rfl
  | succ n ih =>
    show gon _ _ _ _ = gon _ _ _ _
    rw [ih]
    exact gon_W (fwF_wsh _ _ _ _)
theorem mg_run (V : Vil) (o : Ovr) (P : Nat → Nat) (L : Nat → Int32) (q : Scn × (Nat → Nat) × (Nat → Int32)) : ∀ n, (mgF V o P L q n).1 = run (ovr V o) P L q.1 n := by
  intro n
  induction n with
  | zero => rfl
  | succ n ih =>
    show gon _ _ _ _ = gon _ _ _ _
    rw [ih]
    exact gon_W (V := ovr V o) (fwF_wsh V _ _ _)
theorem run_ps (V : Vil) (P : Nat → Nat) (L : Nat → Int32) (S : Scn) : ∀ n, psS (run V P L S n) = psS S + n := by
  intro n
  induction n with
  | zero => rfl
  | succ n ih =>
    show psS (gon _ _ _ _) = _
    rw [gon_ps, ih]
    rfl
theorem wkB_eq {V V' : Vil} (hV : Veq V V') {p t : Nat} (hp : p < npV V) : wkB V p t = wkB V' p t := by
  unfold wkB
  rw [hV.2.2.2.2.2.2.2.1 p hp]
theorem run_eq {V V' : Vil} {P P' : Nat → Nat} {L L' : Nat → Int32} {S S' : Scn} (hO : Vok V) (hV : Veq V V') (hP : ∀ p q, p < npV V → q < 4 → P (p * 4 + q) = P' (p * 4 + q)) (hL : ∀ p, p < npV V → L p = L' p) (hS : Seq V S S') : ∀ n, Seq V (run V P L S n) (run V' P' L' S' n) := by
  intro n
  induction n with
  | zero => exact hS
  | succ n ih =>
    refine gon_eq hO hV hL (fun p hp => ?_) ih
    unfold wsh
    rw [wkB_eq hV hp, ih.1, hP p _ hp (Nat.mod_lt _ (by decide))]
/-- a plan looks only at the four of each person -/
theorem run_P {V : Vil} {P P' : Nat → Nat} {L : Nat → Int32} {S : Scn} (hP : ∀ p q, p < npV V → q < 4 → P (p * 4 + q) = P' (p * 4 + q)) : ∀ n, run V P L S n = run V P' L S n := by
  intro n
  induction n with
  | zero => rfl
  | succ n ih =>
    show gon _ _ _ _ = gon _ _ _ _
    rw [ih]
    refine gon_W (fun p hp => ?_)
    unfold wsh
    rw [hP p _ hp (Nat.mod_lt _ (by decide))]
theorem Seq.rfl' {V : Vil} {S : Scn} : Seq V S S := ⟨rfl, fun _ _ => rfl, fun _ _ => rfl, fun _ _ => rfl, fun _ _ => rfl, fun _ _ => rfl, fun _ _ => rfl⟩
theorem Veq.rfl' {V : Vil} : Veq V V := ⟨rfl, rfl, rfl, fun _ _ => rfl, fun _ _ => rfl, fun _ _ => rfl, fun _ _ => rfl, fun _ _ => rfl, fun _ _ _ _ => rfl⟩
theorem Veq.tr {A B C : Vil} (h : Veq A B) (g : Veq B C) : Veq A C := by
  obtain ⟨h1, h2, h3, h4, h5, h6, h7, h8, h9⟩ := h
  obtain ⟨g1, g2, g3, g4, g5, g6, g7, g8, g9⟩ := g
  exact ⟨h1.trans g1, h2.trans g2, h3.trans g3, fun k hk => (h4 k hk).trans (g4 k hk), fun k hk => (h5 k hk).trans (g5 k (h1 ▸ hk)), fun k hk => (h6 k hk).trans (g6 k (h1 ▸ hk)), fun k hk => (h7 k hk).trans (g7 k (h2 ▸ hk)), fun k hk => (h8 k hk).trans (g8 k (h2 ▸ hk)), fun p q hp hq => (h9 p q hp hq).trans (g9 p q (h2 ▸ hp) (h2 ▸ hq))⟩
/-- nothing set aside: the village as it is -/
theorem ovr_Veq (V : Vil) (w : Int32) (l : Bool) (hh : nhV V ≤ 5) : Veq V (ovr V (-1, -1, w, -1, false, l)) := by
  refine ⟨rfl, rfl, rfl, fun k _ => ?_, fun h hh2 => ?_, fun _ _ => rfl, fun _ _ => rfl, fun _ _ => rfl, fun _ _ _ _ => rfl⟩
  · show ruV V k = if k = 1 then (if (-1 : Int32) = -1 then ruV V 1 else -1) else if k = 0 then (if (-1 : Int32) = -1 then ruV V 0 else -1) else ruV V k
    rw [if_pos rfl, if_pos rfl]
    split
    · rename_i e; rw [e]
    · split
      · rename_i e; rw [e]
      · rfl
  · show woV V h = if (-1 : Int32) = nI h then w else woV V h
    rw [if_neg (fun e => nI_nm1 (by omega) e.symm)]
theorem sm_run (T : Tst) (p : Nat) : smF T p = alS (run (vT T) (pT T) (lT T) (oT T) 4) p - alS (oT T) p := by
  unfold smF
  rw [rq_run]
theorem smR_run (V : Vil) (o : Ovr) (P : Nat → Nat) (L : Nat → Int32) (q : Scn × (Nat → Nat) × (Nat → Int32)) (p : Nat) : smR V o P L q p = alS (run (ovr V o) P L q.1 4) p - alS q.1 p := by
  unfold smR
  rw [mg_run]
