/-! LAWS, BOUNDS, EDGES, SETTLING -/
theorem ru_ovr (V0 : Vil) (o : Ovr) (k : Nat) : ruV (ovr V0 o) k = if k = 1 then (if o.1 = -1 then ruV V0 1 else o.1) else if k = 0 then (if o.2.1 = -1 then ruV V0 0 else o.2.1) else ruV V0 k := rfl
theorem ru_1 {V V0 : Vil} {w w' : Int32} {l l' b b' : Bool} {g : Nat → Int32} {j : Nat} (hj : j < 2 ^ 31) (h : Veq V (ovr V0 (-1, -1, w, -1, b, l))) (hg : ∀ k, ¬ k = 1 → g k = ruV V k) : ∀ k, k < 6 → upd g 1 (nI j) k = ruV (ovr V0 (nI j, -1, w', -1, b', l')) k := by
  intro k hk
  have hk1 := h.2.2.2.1 k hk
  rw [ru_ovr] at hk1 ⊢
  by_cases k1 : k = 1
  · subst k1
    rw [upd_self, if_pos rfl]
    show nI j = if nI j = -1 then ruV V0 1 else nI j
    rw [if_neg (nI_nm1 hj)]
  · rw [upd_ne _ _ k1, hg k k1, hk1, if_neg k1, if_neg k1]
theorem leT_eq {V V0 : Vil} {w : Int32} {l : Bool} {g : Nat → Int32} {j : Nat} (hj : j < 2 ^ 31) (h : Veq V (ovr V0 (-1, -1, w, -1, false, l))) (hg : ∀ k, ¬ k = 1 → g k = ruV V k) : Veq (vRu V (upd g 1 (nI j))) (ovr V0 (nI j, -1, w, -1, false, l)) := Veq_ru h (ru_1 hj h hg) rfl (fun _ _ => rfl)
theorem lwT_eq {V V0 : Vil} {w : Int32} {l b : Bool} {g : Nat → Int32} {j : Nat} (hj : j < 2 ^ 31) (h : Veq V (ovr V0 (-1, -1, w, -1, false, l))) (hg : ∀ k, ¬ k = 1 → g k = ruV V k) : Veq (vRu (vLa V b) (upd g 1 (nI j))) (ovr V0 (nI j, -1, w, -1, true, b)) := by
  have hr := ru_1 (w' := w) (l' := b) (b' := true) hj h hg
  obtain ⟨h1, h2, h3, h4, h5, h6, h7, h8, h9⟩ := h
  exact ⟨h1, h2, rfl, hr, h5, h6, h7, h8, h9⟩
theorem bound_eq {T : Tst} {V0 : Vil} {w : Int32} {l : Bool} {P' : Nat → Nat} {L' : Nat → Int32} {S' : Scn} (h : Rq (vT T) (ovr V0 (-1, -1, w, -1, false, l)) (pT T) P' (lT T) L' (oT T) S') {p : Nat} (hp : p < npV (vT T)) (y : Int32) (a : Nat) (W : Nat → Nat) (B f : Nat → Int32) (bp : Nat → Nat) : ∀ (n j : Nat) (X : Tst), j + n = 29 → (∃ g, vT X = vRu (vT T) g ∧ ∀ k, ¬ k = 1 → g k = ruV (vT T) k) → pT X = pT T → lT X = lT T → oT X = oT T → (itB (boS V0 w l S' P' L' a p y) (-1, W, B, f, bp) j).1 = true → (itB (boS V0 w l S' P' L' a p y) (-1, W, B, f, bp) j).2.1 = -1 → (leF p y n j X).2 = (itB (boS V0 w l S' P' L' a p y) (-1, W, B, f, bp) 29).2.1 := by
  intro n
  induction n with
  | zero =>
    intro j X hj _ _ _ _ _ h2
    have hj : j = 29 := by omega
    subst hj
    rw [h2]
    rfl
  | succ n ih =>
    intro j X hj hX x2 x3 x4 h1 h2
    obtain ⟨g, x1, hg⟩ := hX
    have hu : leF p y (n + 1) j X = if y < bsT (fbT (leT X j) p) then leF p y n (j + 1) (fbT (leT X j) p) else (fbT (leT X j) p, nI j) := rfl
    have hs := itB_s h1
    have hfr : ∀ {i : Nat}, i ≤ 29 → (itB (boS V0 w l S' P' L' a p y) (-1, W, B, f, bp) i).1 = false → itB (boS V0 w l S' P' L' a p y) (-1, W, B, f, bp) 29 = itB (boS V0 w l S' P' L' a p y) (-1, W, B, f, bp) i := fun h h' => itB_fr h h'
    have hf2 := hfr (i := j + 1) (by omega)
    have v1 : vT (leT X j) = vRu (vT T) (upd g 1 (nI j)) := by
      show vRu (vT X) (upd (ruV (vT X)) 1 (nI j)) = _
      rw [x1]
      rfl
    have ih := ih (j + 1) (fbT (leT X j) p) (by omega) ⟨upd g 1 (nI j), (fbT_same _ _).1.trans v1, fun k hk => by rw [upd_ne _ _ hk]; exact hg k hk⟩ ((fbT_same _ _).2.2.1.trans x2) ((fbT_same _ _).2.2.2.1.trans x3) ((fbT_same _ _).2.2.2.2.1.trans x4)
    rw [hs] at ih hf2
    clear hs hfr
    generalize (itB (boS V0 w l S' P' L' a p y) (-1, W, B, f, bp) j).2 = q at *
    have hb := (fb_eq (V := vRu (vT T) (upd g 1 (nI j))) (V' := V0) (o := (nI j, -1, w, -1, false, l)) (P := pT T) (P' := P') (L := lT T) (L' := L') (S := oT T) (S' := S') (p := p) (T := leT X j) h.1 (leT_eq (by omega) h.2.1 hg) h.2.2.1 h.2.2.2.1 h.2.2.2.2 hp v1 x2 x3 x4 a q.2.1 q.2.2.1 q.2.2.2.1).1
    rw [hu, hb]
    have b1 : (boS V0 w l S' P' L' a p y j q).1 = decide (y < (fmR V0 (nI j, -1, w, -1, false, l) S' P' L' a p q.2.1 q.2.2.1 q.2.2.2.1).1) := rfl
    have b2 : (boS V0 w l S' P' L' a p y j q).2.1 = if y < (fmR V0 (nI j, -1, w, -1, false, l) S' P' L' a p q.2.1 q.2.2.1 q.2.2.2.1).1 then -1 else nI j := rfl
    by_cases hc : y < (fmR V0 (nI j, -1, w, -1, false, l) S' P' L' a p q.2.1 q.2.2.1 q.2.2.2.1).1
    · rw [if_pos hc]
      exact ih (b1.trans (decide_eq_true hc)) (b2.trans (if_pos hc))
    · rw [if_neg hc, hf2 (b1.trans (decide_eq_false hc))]
      exact (b2.trans (if_neg hc)).symm
theorem ga_eq {X : Tst} {n : Nat} {S' S2 : Scn} : ∀ m, (∀ p, p < m → alS (rqF X n).1 p = alS S2 p) → (∀ p, p < m → alS (oT X) p = alS S' p) → gaF (rqT X n) m = lgF S' S2 m := by
  intro m
  induction m with
  | zero => intro _ _; rfl
  | succ m ih =>
    intro h1 h2
    show gaF (rqT X n) m + (alS (rqF X n).1 m - alS (oT X) m) = lgF S' S2 m + (alS S2 m - alS S' m)
    rw [ih (fun p hp => h1 p (by omega)) (fun p hp => h2 p (by omega)), h1 m (by omega), h2 m (by omega)]
theorem sl_eq {X : Tst} {n : Nat} {S' S2 : Scn} : ∀ m, (∀ p, p < m → stS (rqF X n).1 p = stS S2 p) → (∀ p, p < m → stS (oT X) p = stS S' p) → slF (rqT X n) m = loF S' S2 m := by
  intro m
  induction m with
  | zero => intro _ _; rfl
  | succ m ih =>
    intro h1 h2
    show slF (rqT X n) m + (stS (oT X) m - stS (rqF X n).1 m) = loF S' S2 m + (stS S' m - stS S2 m)
    rw [ih (fun p hp => h1 p (by omega)) (fun p hp => h2 p (by omega)), h1 m (by omega), h2 m (by omega)]
theorem lw_Rq {T X : Tst} {V0 : Vil} {w : Int32} {l b : Bool} {P' : Nat → Nat} {L' : Nat → Int32} {S' : Scn} {g : Nat → Int32} {b0 : Bool} {c : Nat} (h : Rq (vT T) (ovr V0 (-1, -1, w, -1, false, l)) (pT T) P' (lT T) L' (oT T) S') (hc : c < 2 ^ 31) (x1 : vT X = vRu (vLa (vT T) b0) g) (hg : ∀ k, ¬ k = 1 → g k = ruV (vT T) k) (x2 : pT X = pT T) (x3 : lT X = lT T) (x4 : oT X = oT T) : Rq (vT (lwT X b c)) (ovr V0 (nI c, -1, w, -1, true, b)) (pT (lwT X b c)) P' (lT (lwT X b c)) L' (oT (lwT X b c)) S' ∧ vT (lwT X b c) = vRu (vLa (vT T) b) (upd g 1 (nI c)) := by
  have v1 : vT (lwT X b c) = vRu (vLa (vT T) b) (upd g 1 (nI c)) := by
    show vRu (vLa (vT X) b) (upd (ruV (vT X)) 1 (nI c)) = _
    rw [x1]
    rfl
  refine ⟨?_, v1⟩
  rw [v1]
  show Rq _ _ (pT X) _ (lT X) _ (oT X) _
  rw [x2, x3, x4]
  exact ⟨h.1, lwT_eq hc h.2.1 hg, h.2.2.1, h.2.2.2.1, h.2.2.2.2⟩
theorem law_g {X : Tst} {V0 : Vil} {o : Ovr} {P' : Nat → Nat} {L' : Nat → Int32} {S' : Scn} (h : Rq (vT X) (ovr V0 o) (pT X) P' (lT X) L' (oT X) S') (W : Nat → Nat) (B : Nat → Int32) (n : Nat) : gaF (rqT X n) (npV (vT X)) = lgF S' (mgF V0 o P' L' (S', W, B) n).1 (npV (vT X)) ∧ slF (rqT X n) (nhV (vT X)) = loF S' (mgF V0 o P' L' (S', W, B) n).1 (nhV (vT X)) := by
  have hr := h.run n
  refine ⟨ga_eq _ (fun p hp => ?_) (fun p hp => h.2.2.2.2.2.2.2.2.1 p hp), sl_eq _ (fun p hp => ?_) (fun p hp => h.2.2.2.2.2.2.2.2.2.2 p hp)⟩
  · rw [rq_run, mg_run]; exact hr.2.2.2.2.1 p hp
  · rw [rq_run, mg_run]; exact hr.2.2.2.2.2.2 p hp
theorem bl_in {T : Tst} {V0 : Vil} {w : Int32} {l : Bool} {P' : Nat → Nat} {L' : Nat → Int32} {S' : Scn} (h : Rq (vT T) (ovr V0 (-1, -1, w, -1, false, l)) (pT T) P' (lT T) L' (oT T) S') (a d k : Nat) (q : Tst × Int32 × Nat) (q' : Blt) (hq : (∃ b0 g, vT q.1 = vRu (vLa (vT T) b0) g ∧ ∀ k, ¬ k = 1 → g k = ruV (vT T) k) ∧ pT q.1 = pT T ∧ lT q.1 = lT T ∧ oT q.1 = oT T ∧ q.2.1 = q'.1 ∧ q.2.2 = q'.2.1) : ∀ n, n ≤ 29 → (∃ b0 g, vT (glF d q (decide (k = 1)) (100 * k) n).1 = vRu (vLa (vT T) b0) g ∧ ∀ k, ¬ k = 1 → g k = ruV (vT T) k) ∧ pT (glF d q (decide (k = 1)) (100 * k) n).1 = pT T ∧ lT (glF d q (decide (k = 1)) (100 * k) n).1 = lT T ∧ oT (glF d q (decide (k = 1)) (100 * k) n).1 = oT T ∧ (glF d q (decide (k = 1)) (100 * k) n).2.1 = (baF V0 w S' P' L' a d k q' n).1 ∧ (glF d q (decide (k = 1)) (100 * k) n).2.2 = (baF V0 w S' P' L' a d k q' n).2.1 := by
  intro n
  induction n with
  | zero => intro _; exact hq
  | succ n ih =>
    intro hn
    obtain ⟨⟨b0, g, x1, hg⟩, x2, x3, x4, x5, x6⟩ := ih (by omega)
    have hu : glF d q (decide (k = 1)) (100 * k) (n + 1) = glS d (glF d q (decide (k = 1)) (100 * k) n) (decide (k = 1)) n (100 * k + n) := rfl
    have hw : baF V0 w S' P' L' a d k q' (n + 1) = baS V0 w S' P' L' a d k (baF V0 w S' P' L' a d k q' n) n := rfl
    rw [hu, hw]
    generalize glF d q (decide (k = 1)) (100 * k) n = Q at *
    generalize baF V0 w S' P' L' a d k q' n = Q' at *
    obtain ⟨hr, v1⟩ := lw_Rq (X := Q.1) (b := decide (k = 1)) (c := n) h (by omega) x1 hg x2 x3 x4
    have hl := (law_g hr Q'.2.2.2.2.2.1 Q'.2.2.2.2.2.2.1 (d * 4)).1
    have hnp : npV (vT (lwT Q.1 (decide (k = 1)) n)) = npV (vT Q.1) := rfl
    have hnp0 : npV (vT Q.1) = npV V0 := by rw [x1]; exact h.2.1.2.1
    rw [hnp] at hl
    rw [Nat.mul_comm d 4] at hl
    refine ⟨⟨decide (k = 1), upd g 1 (nI n), v1, fun k hk => by rw [upd_ne _ _ hk]; exact hg k hk⟩, x2, x3, x4, ?_⟩
    show (bet Q.2.1 Q.2.2 (gaF (rqT (lwT Q.1 (decide (k = 1)) n) (d * 4)) (npV (vT Q.1))) (100 * k + n)).1 = _ ∧ (bet Q.2.1 Q.2.2 (gaF (rqT (lwT Q.1 (decide (k = 1)) n) (d * 4)) (npV (vT Q.1))) (100 * k + n)).2 = _
    rw [Nat.mul_comm d 4, hl, x5, x6, hnp0]
    unfold bet baS
    by_cases hc : Q'.1 < lgF S' (mgF V0 (nI n, -1, w, -1, true, (decide (k = 1))) P' L' (S', Q'.2.2.2.2.2.1, Q'.2.2.2.2.2.2.1) (4 * d)).1 (npV V0)
    · rw [if_pos hc, if_pos hc, if_pos hc]; exact ⟨rfl, rfl⟩
    · rw [if_neg hc, if_neg hc, if_neg hc]; exact ⟨rfl, rfl⟩
theorem bestLaw_eq {T : Tst} {V0 : Vil} {w : Int32} {l : Bool} {P' : Nat → Nat} {L' : Nat → Int32} {S' : Scn} (h : Rq (vT T) (ovr V0 (-1, -1, w, -1, false, l)) (pT T) P' (lT T) L' (oT T) S') (a d : Nat) (q' : Blt) (h1 : q'.1 = -1000000) (h2 : q'.2.1 = 0) : ∀ n, (∃ b0 g, vT (glA d T n).1 = vRu (vLa (vT T) b0) g ∧ ∀ k, ¬ k = 1 → g k = ruV (vT T) k) ∧ pT (glA d T n).1 = pT T ∧ lT (glA d T n).1 = lT T ∧ oT (glA d T n).1 = oT T ∧ (glA d T n).2.1 = (bkF V0 w S' P' L' a d q' n).1 ∧ (glA d T n).2.2 = (bkF V0 w S' P' L' a d q' n).2.1 := by
  intro n
  induction n with
  | zero => exact ⟨⟨laV (vT T), ruV (vT T), rfl, fun _ _ => rfl⟩, rfl, rfl, rfl, h1.symm, h2.symm⟩
  | succ n ih => exact bl_in h a d n (glA d T n) (bkF V0 w S' P' L' a d q' n) ih 29 (Nat.le_refl _)
/-! edges -/
theorem or_and_not (x y : Int32) : (x ||| y) &&& (y ^^^ (-1)) = x &&& (y ^^^ (-1)) := by
  apply Int32.toBitVec_inj.mp
  show (x.toBitVec ||| y.toBitVec) &&& (y.toBitVec ^^^ (-1 : Int32).toBitVec) = x.toBitVec &&& (y.toBitVec ^^^ (-1 : Int32).toBitVec)
  have e : (-1 : Int32).toBitVec = BitVec.allOnes 32 := by decide
  rw [e, BitVec.xor_allOnes]
  apply BitVec.eq_of_getLsbD_eq
  intro i hi
  simp only [BitVec.getLsbD_and, BitVec.getLsbD_or, BitVec.getLsbD_not]
  cases x.toBitVec.getLsbD i <;> cases y.toBitVec.getLsbD i <;> simp
theorem wo_Rq {T X : Tst} {V0 : Vil} {w : Int32} {l : Bool} {P' : Nat → Nat} {L' : Nat → Int32} {S' : Scn} {g L2 : Nat → Int32} {c n p : Nat} {M : Int32} (h : Rq (vT T) (ovr V0 (-1, -1, w, -1, false, l)) (pT T) P' (lT T) L' (oT T) S') (hc : c < 5) (x1 : vT X = vWo (vT T) g) (hg : ∀ k, k < nhV (vT T) → ¬ k = c → g k = woV (vT T) k) (gc : g c = nI n) (x2 : pT X = pT T) (x3 : lT X = upd L2 p M) (hL : ∀ k, ¬ k = p → L2 k = lT T k) (x4 : oT X = oT T) : Rq (vT X) (ovr V0 (-1, -1, nI n, nI c, false, l)) (pT X) P' (lT X) (upd L' p M) (oT X) S' := by
  rw [x1, x2, x3, x4]
  obtain ⟨a1, ⟨h1, h2, h3, h4, h5, h6, h7, h8, h9⟩, a3, a4, a5⟩ := h
  have hh5 := a1.1
  refine ⟨a1, ⟨h1, h2, h3, h4, fun k hk => ?_, h6, h7, h8, h9⟩, a3, fun k hk => ?_, a5⟩
  · show g k = if nI c = nI k then nI n else woV V0 k
    have hk : k < nhV (vT T) := hk
    by_cases e : k = c
    · subst e; rw [if_pos rfl, gc]
    · rw [if_neg (fun z => e (nI_inj (by omega) (by omega) z).symm), hg k hk e, h5 k hk]
      show (if (-1 : Int32) = nI k then w else woV V0 k) = _
      rw [if_neg (fun z => nI_nm1 (by omega) z.symm)]
  · by_cases e : k = p
    · subst e; rw [upd_self, upd_self]
    · rw [upd_ne _ _ e, upd_ne _ _ e, hL k e]; exact a4 k hk
theorem edge_eq {T : Tst} {V0 : Vil} {w : Int32} {l : Bool} {P' : Nat → Nat} {L' : Nat → Int32} {S' : Scn} (h : Rq (vT T) (ovr V0 (-1, -1, w, -1, false, l)) (pT T) P' (lT T) L' (oT T) S') {p y : Nat} (hp : p < npV (vT T)) (hho : hoV V0 p < 5) (a : Nat) (s : Edt) : ∀ (n j : Nat) (X : Tst), j + n = 21 → (∃ g, vT X = vWo (vT T) g ∧ ∀ k, k < nhV (vT T) → ¬ k = hoV V0 p → g k = woV (vT T) k) → pT X = pT T → (∀ k, ¬ k = p → lT X k = lT T k) → oT X = oT T → (itB (edS V0 l S' P' L' a p y) s j).1 = true → (itB (edS V0 l S' P' L' a p y) s j).2.1 = -1 → (woF p (hoV V0 p) (L' p ||| (nI 1 <<< (nI y &&& 31))) (L' p &&& ((nI 1 <<< (nI y &&& 31)) ^^^ (-1))) n j X).2 = (itB (edS V0 l S' P' L' a p y) s 21).2.1 := by
  intro n
  induction n with
  | zero =>
    intro j X hj _ _ _ _ _ h2
    have hj : j = 21 := by omega
    subst hj
    rw [h2]
    rfl
  | succ n ih =>
    intro j X hj hX x2 x3 x4 h1 h2
    obtain ⟨g, x1, hg⟩ := hX
    generalize hM : L' p ||| (nI 1 <<< (nI y &&& 31)) = M at *
    generalize hL2 : L' p &&& ((nI 1 <<< (nI y &&& 31)) ^^^ (-1)) = L2 at *
    have hu : woF p (hoV V0 p) M L2 (n + 1) j X = if smF (wo1 X (hoV V0 p) j p M) p < smF (wo2 (rqT (wo1 X (hoV V0 p) j p M) 4) p L2) p then (rqT (wo2 (rqT (wo1 X (hoV V0 p) j p M) 4) p L2) 4, nI j) else woF p (hoV V0 p) M L2 n (j + 1) (rqT (wo2 (rqT (wo1 X (hoV V0 p) j p M) 4) p L2) 4) := rfl
    have hs := itB_s h1
    have hfr : ∀ {i : Nat}, i ≤ 21 → (itB (edS V0 l S' P' L' a p y) s i).1 = false → itB (edS V0 l S' P' L' a p y) s 21 = itB (edS V0 l S' P' L' a p y) s i := fun h h' => itB_fr h h'
    have hf2 := hfr (i := j + 1) (by omega)
    have v1 : vT (wo1 X (hoV V0 p) j p M) = vWo (vT T) (upd g (hoV V0 p) (nI j)) := by
      show vWo (vT X) (upd (woV (vT X)) (hoV V0 p) (nI j)) = _
      rw [x1]
      rfl
    have hg2 : ∀ k, k < nhV (vT T) → ¬ k = hoV V0 p → upd g (hoV V0 p) (nI j) k = woV (vT T) k := fun k hk hne => by rw [upd_ne _ _ hne]; exact hg k hk hne
    have hr1 := wo_Rq (X := wo1 X (hoV V0 p) j p M) (n := j) (M := M) h hho v1 hg2 (upd_self _ _ _) x2 (show lT (wo1 X (hoV V0 p) j p M) = upd (lT X) p M from rfl) x3 x4
    have hr2 := wo_Rq (X := wo2 (rqT (wo1 X (hoV V0 p) j p M) 4) p L2) (n := j) (M := L2) h hho v1 hg2 (upd_self _ _ _) x2 (show lT (wo2 (rqT (wo1 X (hoV V0 p) j p M) 4) p L2) = upd (upd (lT X) p M) p L2 from rfl) (fun k hk => by rw [upd_ne _ _ hk]; exact x3 k hk) x4
    have hnp : p < npV (vT (wo1 X (hoV V0 p) j p M)) := by rw [v1]; exact hp
    have hnp2 : p < npV (vT (wo2 (rqT (wo1 X (hoV V0 p) j p M) 4) p L2)) := hnp
    have ih := ih (j + 1) (rqT (wo2 (rqT (wo1 X (hoV V0 p) j p M) 4) p L2) 4) (by omega) ⟨upd g (hoV V0 p) (nI j), v1, hg2⟩ x2 (fun k hk => by
      show upd (upd (lT X) p M) p L2 k = _
      rw [upd_ne _ _ hk, upd_ne _ _ hk]; exact x3 k hk) x4
    rw [hs] at ih hf2
    clear hs hfr
    generalize (itB (edS V0 l S' P' L' a p y) s j).2 = q at *
    have b1 : (edS V0 l S' P' L' a p y j q).1 = !decide (smR V0 (-1, -1, nI j, nI (hoV V0 p), false, l) P' (upd L' p M) (S', (mgF V0 (-1, -1, nI j, nI (hoV V0 p), false, l) P' (upd L' p L2) (S', q.2.2.1, q.2.2.2.1) 4).2.1, (mgF V0 (-1, -1, nI j, nI (hoV V0 p), false, l) P' (upd L' p L2) (S', q.2.2.1, q.2.2.2.1) 4).2.2) p < smR V0 (-1, -1, nI j, nI (hoV V0 p), false, l) P' (upd L' p L2) (S', q.2.2.1, q.2.2.2.1) p) := by rw [← hM, ← hL2]; rfl
    have b2 : (edS V0 l S' P' L' a p y j q).2.1 = if smR V0 (-1, -1, nI j, nI (hoV V0 p), false, l) P' (upd L' p M) (S', (mgF V0 (-1, -1, nI j, nI (hoV V0 p), false, l) P' (upd L' p L2) (S', q.2.2.1, q.2.2.2.1) 4).2.1, (mgF V0 (-1, -1, nI j, nI (hoV V0 p), false, l) P' (upd L' p L2) (S', q.2.2.1, q.2.2.2.1) 4).2.2) p < smR V0 (-1, -1, nI j, nI (hoV V0 p), false, l) P' (upd L' p L2) (S', q.2.2.1, q.2.2.2.1) p then nI j else -1 := by rw [← hM, ← hL2]; rfl
    rw [hu, sm_eq hr1 hnp (mgF V0 (-1, -1, nI j, nI (hoV V0 p), false, l) P' (upd L' p L2) (S', q.2.2.1, q.2.2.2.1) 4).2.1 (mgF V0 (-1, -1, nI j, nI (hoV V0 p), false, l) P' (upd L' p L2) (S', q.2.2.1, q.2.2.2.1) 4).2.2, sm_eq hr2 hnp2 q.2.2.1 q.2.2.2.1]
    by_cases hc : smR V0 (-1, -1, nI j, nI (hoV V0 p), false, l) P' (upd L' p M) (S', (mgF V0 (-1, -1, nI j, nI (hoV V0 p), false, l) P' (upd L' p L2) (S', q.2.2.1, q.2.2.2.1) 4).2.1, (mgF V0 (-1, -1, nI j, nI (hoV V0 p), false, l) P' (upd L' p L2) (S', q.2.2.1, q.2.2.2.1) 4).2.2) p < smR V0 (-1, -1, nI j, nI (hoV V0 p), false, l) P' (upd L' p L2) (S', q.2.2.1, q.2.2.2.1) p
    · rw [if_pos hc, hf2 (b1.trans (by rw [decide_eq_true hc]; rfl))]
      exact (b2.trans (if_pos hc)).symm
    · rw [if_neg hc]
      exact ih (b1.trans (by rw [decide_eq_false hc]; rfl)) (b2.trans (if_neg hc))
