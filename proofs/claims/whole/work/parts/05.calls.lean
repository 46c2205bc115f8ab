/-! CALLS over pictures: a callee's picture is cut out of the caller's by places, and put back. -/
def Pre0 (E : EnvT) (ad : Nat → Nat) (av : List Value) (w : List va_E) : Array Value → State → Prop := fun v U => v = av.toArray ∧ Pic E ad w U.heap ∧ va_K E.1 vwCl (tysE E) U ∧ Inj ad ∧ Gx E (Rng ad) U U.heap
def Post0 (E : EnvT) (ad : Nat → Nat) (r0 : Option Value) (w0 : List va_E) : Array Value → State → Outcome → State → Prop := fun _ st o t => o = .returned r0 ∧ Pic E ad w0 t.heap ∧ va_F (Rng ad) st t
/-- a method's contract: with these values and this picture it answers r0 and leaves w0 -/
def Md (E : EnvT) (M : MInf) (ad : Nat → Nat) (av : List Value) (w : List va_E) (r0 : Option Value) (w0 : List va_E) : Prop :=
  ∀ l : Launch, Met l M.1 (.code M.1 M.2.1 M.2.2.1 M.2.2.2.1 :: tbW) (rmD M.2.2.2.2.1 M.2.2.2.2.2.1 M.2.2.2.2.2.2) (Pre0 E ad av w) (Post0 E ad r0 w0) M.2.2.2.2.2.1 M.2.2.2.2.2.2 (Rng ad)
def lvA : List Value → List (Option Value)
  | [] => []
  | v :: vs => if v.category = 2 then some v :: none :: lvA vs else some v :: lvA vs
theorem lvA_mem : ∀ (vs : List Value) (k i o : Nat) (v : Value), (lvA vs ++ List.replicate k none)[i]? = some (some v) → (o + i, v) ∈ lv_args o vs := by
  intro vs
  induction vs with
  | nil =>
    intro k i o v h
    simp only [lvA, List.nil_append] at h
    rw [List.getElem?_replicate] at h
    split at h <;> cases h
  | cons u vs ih =>
    intro k i o v h
    by_cases hu : u.category = 2
    · simp only [lvA, hu, if_true, List.cons_append] at h
      cases i with
      | zero => simp at h; subst h; simp [lv_args]
      | succ i =>
        cases i with
        | zero => simp at h
        | succ i =>
          simp only [List.getElem?_cons_succ] at h
          have := ih k i (o + 2) v h
          rw [show o + 2 + i = o + (i + 1 + 1) by omega] at this
          simp only [lv_args, hu, if_true]
          exact List.mem_cons_of_mem _ this
    · simp only [lvA, hu, if_false, List.cons_append] at h
      cases i with
      | zero => simp at h; subst h; simp [lv_args]
      | succ i =>
        simp only [List.getElem?_cons_succ] at h
        have := ih k i (o + 1) v h
        rw [show o + 1 + i = o + (i + 1) by omega] at this
        simp only [lv_args, hu, if_false]
        exact List.mem_cons_of_mem _ this
theorem Md.of {E : EnvT} {M : MInf} {ad : Nat → Nat} {av : List Value} {w w0 : List va_E} {r0 : Option Value} {lv : List (Option Value)} (k : Nat) (hy : plainName M.1.cls = true) (hlv : lvA av ++ List.replicate k none = lv) (hle : Nat.ble (lg_sl av).length M.2.2.1 = true) (h : Tr (E, M, ad, r0, w0) M.2.2.2.2.2.1 M.2.2.2.2.2.2 0 lv [] w) : Md E M ad av w r0 w0 := by
  intro l
  refine Met.ofW (cc := M.2.1) (maxL := M.2.2.1) (ret := M.2.2.2.1) hy rfl ?_
  intro p e s m args below meth c s₁ B hml hv
  obtain ⟨rfl, hP, hK, hI, hG⟩ := hv
  have hts := atoms_spec (ws := Cond.code M.1 M.2.1 M.2.2.1 M.2.2.2.1 :: tbW) B.pre
  have hown : s.vm.findClass M.1.cls = some m.cls := findClass_of_methodNamed B.named
  have hnm : meth.name = M.1.name := (name_of_methodNamed B.named B.method).1
  have hlocks := B.notSynchronized
  have hl := lv_entry av (n := M.2.2.1) (Nat.le_of_ble_eq_true hle)
  rw [lg_entry_eq]
  generalize (lg_sl av ++ List.replicate (M.2.2.1 - (lg_sl av).length) Slot.unset).toArray = ls at hl ⊢
  refine h p l e s m av.toArray below meth c (rmD M.2.2.2.2.1 M.2.2.2.2.2.1 M.2.2.2.2.2.2) _ ⟨B.exec, B.bytes, hml, hown, fun w hw => hts w (List.mem_cons_of_mem _ hw), hK, hnm, rfl, hI, hG⟩ ?_ s.heap [] 0 0 ls (Nat.le_of_eq (Nat.zero_add _)) (Nat.le_of_eq (Nat.zero_add _)) hP va_S.rf ⟨hl.1, hl.2.1, fun i v hi => ?_⟩
  · intro pc ls H locs cells slots st g1 g2 g3 g4 g5
    have hr := B.returns
    refine W.widen g3 g4 ?_
    rcases g5 with ⟨e1, rfl, e3, e4⟩ | ⟨v, ty, e1, rfl, e3, e4, e5⟩ | ⟨v, e1, rfl, e3, e4⟩
    · exact W.vret B.exec B.bytes (hr.trans e4) (fun t ht hW => ⟨by rw [show r0 = none from e1], by rw [ht]; exact g1, g2.F ht⟩) g2.2.2 e3
    · exact W.zret B.exec B.bytes (hr.trans e4) e5 (fun t ht hW => ⟨by rw [show r0 = some (.int v) from e1], by rw [ht]; exact g1, g2.F ht⟩) g2.2.2 e3
    · exact W.lret B.exec B.bytes (hr.trans e4) (fun t ht hW => ⟨by rw [show r0 = some (.long v) from e1], by rw [ht]; exact g1, g2.F ht⟩) g2.2.2 e3
  · rw [← hlv] at hi
    have := lvA_mem av k i 0 v hi
    rw [Nat.zero_add] at this
    exact hl.2.2 (i, v) this
/-- the caller's place of a callee's place -/
def sg (L : List Nat) (n k : Nat) : Nat := match L[k]? with
  | some i => i
  | none => n + (k - L.length)
def adc (ad : Nat → Nat) (L : List Nat) (n : Nat) : Nat → Nat := fun k => ad (sg L n k)
def setL (w : List va_E) (L : List Nat) (v : List va_E) : List va_E := (L.zip v).foldl (fun w p => w.set p.1 p.2) w
theorem setL_c (w : List va_E) (i : Nat) (L : List Nat) (e : va_E) (v : List va_E) : setL w (i :: L) (e :: v) = setL (w.set i e) L v := rfl
def putB (w : List va_E) (L : List Nat) (v : List va_E) : List va_E := setL w L v ++ v.drop L.length
theorem setL_len : ∀ (L : List Nat) (w v : List va_E), (setL w L v).length = w.length := by
  intro L
  induction L with
  | nil => intro w v; rfl
  | cons i L ih =>
    intro w v
    cases v with
    | nil => rfl
    | cons e v => rw [setL_c, ih]; simp
theorem setL_out : ∀ (L : List Nat) (w v : List va_E) (k : Nat), k ∉ L → (setL w L v)[k]? = w[k]? := by
  intro L
  induction L with
  | nil => intro w v k _; rfl
  | cons i L ih =>
    intro w v k hk
    cases v with
    | nil => rfl
    | cons e v =>
      rw [setL_c, ih _ _ _ (fun h => hk (List.mem_cons_of_mem _ h)), List.getElem?_set_ne (fun h => hk (by rw [h]; exact List.mem_cons_self))]
theorem setL_in : ∀ (L : List Nat) (w v : List va_E) (j k : Nat) (e : va_E), (∀ (a b c : Nat), L[a]? = some c → L[b]? = some c → a = b) → L[j]? = some k → v[j]? = some e → k < w.length → (setL w L v)[k]? = some e := by
  intro L
  induction L with
  | nil => intro w v j k e _ h; simp at h
  | cons i L ih =>
    intro w v j k e hn hL hv hk
    cases v with
    | nil => simp at hv
    | cons x v =>
      rw [setL_c]
      cases j with
      | zero =>
        simp at hL hv
        subst hL; subst hv
        rw [setL_out, List.getElem?_set_self hk]
        intro hm
        obtain ⟨t, ht⟩ := List.getElem?_of_mem hm
        have := hn 0 (t + 1) i (by simp) (by simpa using ht)
        omega
      | succ j =>
        refine ih (w.set i x) v j k e (fun a b c h1 h2 => ?_) (by simpa using hL) (by simpa using hv) (by simpa using hk)
        have := hn (a + 1) (b + 1) c (by simpa using h1) (by simpa using h2)
        omega
theorem cut_len {w wc : List va_E} {L : List Nat} (h : L.map (fun i => w[i]?) = wc.map some) : L.length = wc.length := by
  have := congrArg List.length h
  simpa using this
theorem cut_at {w wc : List va_E} {L : List Nat} (h : L.map (fun i => w[i]?) = wc.map some) {j k : Nat} (hj : L[j]? = some k) : ∃ e, wc[j]? = some e ∧ w[k]? = some e := by
  have h1 := congrArg (fun l => l[j]?) h
  simp only [List.getElem?_map, hj, Option.map_some] at h1
  cases hc : wc[j]? with
  | none => rw [hc] at h1; simp at h1
  | some e =>
    rw [hc] at h1
    simp at h1
    exact ⟨e, rfl, h1⟩
theorem adc_inj {ad : Nat → Nat} {w wc : List va_E} {L : List Nat} (hI : Inj ad) (hn : va_nd L = true) (hc : L.map (fun i => w[i]?) = wc.map some) : Inj (adc ad L w.length) := by
  intro i j h
  have h1 := hI _ _ h
  have lt : ∀ (i k : Nat), L[i]? = some k → k < w.length := by
    intro i k hk
    obtain ⟨e, -, he⟩ := cut_at hc hk
    exact (List.getElem?_eq_some_iff.mp he).1
  have len : ∀ i, L[i]? = none → L.length ≤ i := fun i h => List.getElem?_eq_none_iff.mp h
  unfold sg at h1
  cases hi : L[i]? with
  | none =>
    cases hj : L[j]? with
    | none => rw [hi, hj] at h1; simp only at h1; have := len i hi; have := len j hj; omega
    | some b => rw [hi, hj] at h1; simp only at h1; have := lt j b hj; omega
  | some a =>
    cases hj : L[j]? with
    | none => rw [hi, hj] at h1; simp only at h1; have := lt i a hi; omega
    | some b =>
      rw [hi, hj] at h1
      simp only at h1
      subst h1
      exact va_nd_inj L hn i j a hi hj
theorem sg_in {L : List Nat} {n j k : Nat} (h : L[j]? = some k) : sg L n j = k := by unfold sg; rw [h]
theorem sg_out {L : List Nat} {n j : Nat} (h : L.length ≤ j) : sg L n j = n + (j - L.length) := by unfold sg; rw [List.getElem?_eq_none h]
theorem Pic.cut {E : EnvT} {ad : Nat → Nat} {w wc : List va_E} {L : List Nat} {H : Heap} (h : Pic E ad w H) (hc : L.map (fun i => w[i]?) = wc.map some) : Pic E (adc ad L w.length) wc H := by
  refine ⟨fun k q hq => ?_, fun j => ?_⟩
  · obtain ⟨h1, h2⟩ := prs_inv hq
    have hk : k < L.length := by rw [cut_len hc]; exact (List.getElem?_eq_some_iff.mp h1).1
    have hL : L[k]? = some L[k] := List.getElem?_eq_getElem hk
    obtain ⟨e, e1, e2⟩ := cut_at hc hL
    rw [h1] at e1
    cases e1
    have := h.1 _ _ (prs_at (ad := ad) e2)
    have hq1 : q.1 = ad L[k] := by rw [h2]; show ad (sg L w.length k) = _; rw [sg_in hL]
    rw [← hq1] at this
    exact this
  · show ad (sg L w.length (wc.length + j)) = _
    rw [← cut_len hc, sg_out (by omega), show w.length + (L.length + j - L.length) = w.length + j by omega]
    exact h.2 j
theorem Pic.back {E : EnvT} {ad : Nat → Nat} {w wc w1 : List va_E} {L : List Nat} {H H1 : Heap} (hI : Inj ad) (hn : va_nd L = true) (h : Pic E ad w H) (hc : L.map (fun i => w[i]?) = wc.map some) (hl : wc.length ≤ w1.length) (h1 : Pic E (adc ad L w.length) w1 H1) (hk : ∀ q : Nat, q < H.size → ¬ Rng (adc ad L w.length) q → H1[q]? = H[q]?) : Pic E ad (putB w L w1) H1 := by
  have hlen := cut_len hc
  refine ⟨fun k q hq => ?_, fun j => ?_⟩
  · obtain ⟨g1, g2⟩ := prs_inv hq
    unfold putB at g1
    by_cases hkw : k < w.length
    · rw [List.getElem?_append_left (by rw [setL_len]; exact hkw)] at g1
      by_cases hm : k ∈ L
      · obtain ⟨j, hj⟩ := List.getElem?_of_mem hm
        have hj1 : j < w1.length := by have := (List.getElem?_eq_some_iff.mp hj).1; omega
        have hw1 : w1[j]? = some w1[j] := List.getElem?_eq_getElem hj1
        rw [setL_in L w w1 j k _ (fun a b c x y => va_nd_inj L hn a b c x y) hj hw1 hkw] at g1
        have := h1.1 _ _ (prs_at (ad := adc ad L w.length) hw1)
        have e2 : q.2 = w1[j] := (Option.some.inj g1).symm
        have e1 : q.1 = adc ad L w.length j := by rw [g2]; show _ = ad (sg L w.length j); rw [sg_in hj]
        rw [← e1, ← e2] at this
        exact this
      · rw [setL_out L w w1 k hm] at g1
        have a1 := h.1 _ _ (prs_at (ad := ad) g1)
        have e1 : q = (ad k, q.2) := by rw [← g2]
        rw [e1]
        refine a1.kept (hk _ a1.lt ?_)
        rintro ⟨i, hi⟩
        have h9 : sg L w.length i = k := hI _ _ hi
        unfold sg at h9
        cases hL : L[i]? with
        | none => rw [hL] at h9; simp only at h9; omega
        | some b => rw [hL] at h9; simp only at h9; subst h9; exact hm (List.mem_of_getElem? hL)
    · rw [List.getElem?_append_right (by rw [setL_len]; omega), setL_len, List.getElem?_drop] at g1
      have := h1.1 _ _ (prs_at (ad := adc ad L w.length) g1)
      have e1 : q.1 = adc ad L w.length (L.length + (k - w.length)) := by rw [g2]; show _ = ad (sg L w.length _); rw [sg_out (by omega)]; congr 1; omega
      rw [← e1] at this
      exact this
  · have h9 : ad (sg L w.length (w1.length + j)) = H1.size + j := h1.2 j
    rw [sg_out (by omega)] at h9
    rw [← h9]
    congr 1
    unfold putB
    rw [List.length_append, setL_len, List.length_drop]
    omega
theorem good_all {y : MethodName} {cc : ByteArray} {n : Nat} {r : Option FieldType} (h : Cond.code y cc n r ∈ tbW) : GoodIn tbW (Cond.code y cc n r :: tbW) := by
  intro w hw
  rcases List.mem_cons.mp hw with rfl | hw
  · exact ⟨h, good_of_word (tbW_gd h)⟩
  · exact ⟨hw, good_of_word (tbW_gd hw)⟩
/-- what a call site needs of the tables -/
def CAt (own : String) (idx : Nat) (M : MInf) (n lev : Nat) : Prop := Cond.methodLink own idx M.1 ∈ tbW ∧ Cond.code M.1 M.2.1 M.2.2.1 M.2.2.2.1 ∈ tbW ∧ Cond.initialized M.1.cls ∈ tbW ∧ (M.1.cls ≠ "java/lang/invoke/MethodHandle" ∧ M.1.cls ≠ "java/lang/invoke/VarHandle" ∧ (parseMethodDescriptor M.1.desc).map (fun d => d.parameters.length) = some n) ∧ M.2.2.2.2.1 + 1 ≤ lev ∧ M.2.2.1 ≤ 17
section TRC
variable {C : CtxT} {kb nb kb' nb' pc pc' : Nat} {lv : List (Option Value)} {st rest : List Value} {w wc w1 : List va_E} {M : MInf} {L : List Nat} {r1 : Option Value} {av As : List Value}
/-- behind a call -/
theorem Tr.ofRun (hcut : L.map (fun i => w[i]?) = wc.map some) (hnd : va_nd L = true) (hlen : Nat.ble wc.length w1.length = true) (hk : kb' + M.2.2.2.2.2.1 = kb) (hn : nb' + M.2.2.2.2.2.2 = nb) (hp : pc + 3 = pc')
    (hrun : ∀ (p : Program) (l : Launch) (e : Env) (s : State) (m : MethodId) (args : Array Value) (below : List Frame) (meth : Method) (c : Code) (R : Room), Cx C p s m args meth c R → ∀ (H : Heap) (locs : List Loc) (cells slots : Nat) (ls : Array Slot), Pic C.1 C.2.2.1 w H → va_S (Rng C.2.2.1) s.heap H locs → ls.size = C.2.1.2.2.1 → cells + M.2.2.2.2.2.1 ≤ R.cells ∧ slots + M.2.2.2.2.2.2 ≤ R.slots →
      va_Run p l e R s m args below meth c H locs cells slots M.2.2.2.2.2.1 M.2.2.2.2.2.2 (F0 m pc ls st) rest (Post0 C.1 (adc C.2.2.1 L w.length) r1 w1 av.toArray) (Rng (adc C.2.2.1 L w.length)))
    (kk : Tr C kb' nb' pc' lv (r1.toList ++ rest) (putB w L w1)) : Tr C kb nb pc lv st w := by
  subst hp
  intro p l e s m args below meth c R Z hC hR H locs cells slots ls h1 h2 h3 h4 h5
  obtain ⟨hx, hb, hml, hown, hts, hK, hnm, hRm, hI, hG⟩ := id hC
  intro T hT X
  obtain ⟨v, st₀, t, T', L', h0, X', hL', e1, e2, ⟨hv, hP1, hz, hfr⟩, hgo⟩ := hrun p l e s m args below meth c R hC H locs cells slots ls h3 h4 h5.1 ⟨by rw [hRm]; simp only [rmD]; omega, by rw [hRm]; simp only [rmD]; omega⟩ T hT X
  cases hv
  rw [h0] at hz hfr
  have hsub : ∀ q, Rng (adc C.2.2.1 L w.length) q → Rng C.2.2.1 q := fun q ⟨i, hi⟩ => ⟨_, hi⟩
  obtain ⟨t2, a1, b1⟩ := kk p l e s m args below meth c R Z hC hR T'.heap (locs ++ L') (cells + M.2.2.2.2.2.1) (slots + M.2.2.2.2.2.2) ls (by omega) (by omega) (by rw [e1]; exact h3.back hI hnd hcut (Nat.le_of_ble_eq_true hlen) hP1 hfr)
    ⟨Nat.le_trans h4.1 (by rw [e1]; exact hz), fun q g1 g2 => by rw [e1, hfr q (Nat.lt_of_lt_of_le g1 h4.1) (fun z => g2 (hsub q z))]; exact h4.2.1 q g1 g2, fun q hq => by
      rcases List.mem_append.mp hq with h | h
      · exact h4.2.2 q h
      · exact hsub _ (hL' q h)⟩ h5 T' rfl X'
  exact ⟨t2, hgo t2 a1, b1⟩
theorem pre_call {E : EnvT} {ad : Nat → Nat} {s U : State} {H : Heap} {locs : List Loc} (hI : Inj ad) (hK : va_K E.1 vwCl (tysE E) s) (hG : Gx E (Rng ad) s s.heap) (hP : Pic E ad w H) (hS : va_S (Rng ad) s.heap H locs) (hcut : L.map (fun i => w[i]?) = wc.map some) (hnd : va_nd L = true) (hU : U.heap = H) (hW : s.WarmedH U.vm) : Pre0 E (adc ad L w.length) av wc av.toArray U := by
  refine ⟨rfl, by rw [hU]; exact hP.cut hcut, va_K.moved hW.alike hK, adc_inj hI hnd hcut, ?_⟩
  rw [hU]
  exact hG.warm hW (fun q ⟨i, hi⟩ => ⟨_, hi⟩) hS.2.1
theorem blind0 {E : EnvT} {ad : Nat → Nat} : FrameBlind (Pre0 E ad av wc) := by
  intro a U g mk h
  obtain ⟨h1, h2, h3, h4, h5⟩ := h
  exact ⟨h1, h2, va_K.moved (u := U) (U := U.calling g mk a) (Vm.Alike.refl U.vm) h3, h4, h5.same rfl⟩
theorem callB0 {p : Program} {s : State} {m : MethodId} {args : Array Value} {meth : Method} {c : Code} {R : Room} {n idx : Nat} (hC : Cx C p s m args meth c R) (hc : CAt C.2.1.1.cls idx M n C.2.1.2.2.2.2.1) : CallB R s args C.2.1.1.cls idx M.1 M.2.1 M.2.2.1 M.2.2.2.1 (.code M.1 M.2.1 M.2.2.1 M.2.2.2.1 :: tbW) (rmD M.2.2.2.2.1 M.2.2.2.2.2.1 M.2.2.2.2.2.2) M.2.2.2.2.2.1 M.2.2.2.2.2.2 n := by
  obtain ⟨hx, hb, hml, hown, hts, hK, hnm, hRm, hI, hG⟩ := id hC
  obtain ⟨c1, c2, c3, c4, c5, c6⟩ := hc
  exact callB_of n hts (good_all c2) rfl rfl rfl (hts _ c3) (hts _ c1) c4 ⟨by rw [hRm]; exact c5, by rw [hRm]; simp only [rmD]; omega⟩
/-- invokevirtual on an object of the picture -/
theorem Tr.callV {idx n q ci : Nat} {fs : List Value} (hM : Md C.1 M (adc C.2.2.1 L w.length) (.ref (C.2.2.1 q) :: As) wc r1 w1) (hd : decode C.2.1.2.1 pc = .ok (.invokevirtual idx, 3)) (hc : CAt C.2.1.1.cls idx M n C.2.1.2.2.2.2.1) (hi : Cond.instanceMethod M.1 ∈ tbW ∧ Cond.selects M.1.cls M.1 M.1 ∈ tbW) (hq : w[q]? = some (.inr (ci, fs))) (hci : (vwCl[ci]?).map (fun r => r.1) = some M.1.cls) (hst : st = As.reverse ++ .ref (C.2.2.1 q) :: rest) (hlen' : As.length = n) (hcat : Nat.ble (rest.map fun v => v.category).sum 8 = true)
    (hcut : L.map (fun i => w[i]?) = wc.map some) (hnd : va_nd L = true) (hlen : Nat.ble wc.length w1.length = true) (hk : kb' + M.2.2.2.2.2.1 = kb) (hn : nb' + M.2.2.2.2.2.2 = nb) (hp : pc + 3 = pc') (kk : Tr C kb' nb' pc' lv (r1.toList ++ rest) (putB w L w1)) : Tr C kb nb pc lv st w := by
  refine Tr.ofRun (M := M) (wc := wc) (av := .ref (C.2.2.1 q) :: As) hcut hnd hlen hk hn hp ?_ kk
  intro p l e s m args below meth c R hC H locs cells slots ls h3 h4 h5 hf
  obtain ⟨hx, hb, hml, hown, hts, hK, hnm, hRm, hI, hG⟩ := id hC
  have hci' : ∃ r, vwCl[ci]? = some r ∧ r.1 = M.1.cls := by
    cases h : vwCl[ci]? with
    | none => rw [h] at hci; cases hci
    | some r => rw [h] at hci; exact ⟨r, rfl, Option.some.inj hci⟩
  obtain ⟨r, hr, hr1⟩ := hci'
  have hrec := va_recv hK h3.1 hr (prs_at (ad := C.2.2.1) hq)
  rw [hr1] at hrec
  exact va_runV (As := As) ⟨hx, hb, hml, hown, hts⟩ (hM l) ⟨callB0 hC hc, hts _ hi.1, hts _ hi.2⟩ ⟨blind0, hrec, fun U hU hW => pre_call hI hK hG h3 h4 hcut hnd hU hW⟩ rfl hlen' h5 hst (lv_room (Nat.le_of_ble_eq_true hcat)) hd hf
/-- invokestatic -/
theorem Tr.callS {idx n : Nat} (hM : Md C.1 M (adc C.2.2.1 L w.length) As wc r1 w1) (hd : decode C.2.1.2.1 pc = .ok (.invokestatic idx, 3)) (hc : CAt C.2.1.1.cls idx M n C.2.1.2.2.2.2.1) (hi : Cond.static M.1 ∈ tbW) (hst : st = As.reverse ++ rest) (hlen' : As.length = n) (hcat : Nat.ble (rest.map fun v => v.category).sum 8 = true)
    (hcut : L.map (fun i => w[i]?) = wc.map some) (hnd : va_nd L = true) (hlen : Nat.ble wc.length w1.length = true) (hk : kb' + M.2.2.2.2.2.1 = kb) (hn : nb' + M.2.2.2.2.2.2 = nb) (hp : pc + 3 = pc') (kk : Tr C kb' nb' pc' lv (r1.toList ++ rest) (putB w L w1)) : Tr C kb nb pc lv st w := by
  refine Tr.ofRun (M := M) (wc := wc) (av := As) hcut hnd hlen hk hn hp ?_ kk
  intro p l e s m args below meth c R hC H locs cells slots ls h3 h4 h5 hf
  obtain ⟨hx, hb, hml, hown, hts, hK, hnm, hRm, hI, hG⟩ := id hC
  exact va_runS (As := As) ⟨hx, hb, hml, hown, hts⟩ (hM l) ⟨callB0 hC hc, hts _ hi⟩ ⟨blind0, fun U hU hW => pre_call hI hK hG h3 h4 hcut hnd hU hW⟩ rfl hlen' h5 hst (lv_room (Nat.le_of_ble_eq_true hcat)) hd hf
/-- a constructor of a class that isn't private there -/
theorem Tr.callI {idx n q : Nat} (hM : Md C.1 M (adc C.2.2.1 L w.length) (.ref (C.2.2.1 q) :: As) wc r1 w1) (hd : decode C.2.1.2.1 pc = .ok (.invokespecial idx, 3)) (hc : CAt C.2.1.1.cls idx M n C.2.1.2.2.2.2.1) (hi : Cond.instanceMethod M.1 ∈ tbW) (hnm : M.1.name = "<init>") (hrt : M.2.2.2.1 = none) (hst : st = As.reverse ++ .ref (C.2.2.1 q) :: rest) (hlen' : As.length = n) (hcat : Nat.ble (rest.map fun v => v.category).sum 8 = true)
    (hcut : L.map (fun i => w[i]?) = wc.map some) (hnd : va_nd L = true) (hlen : Nat.ble wc.length w1.length = true) (hk : kb' + M.2.2.2.2.2.1 = kb) (hn : nb' + M.2.2.2.2.2.2 = nb) (hp : pc + 3 = pc') (kk : Tr C kb' nb' pc' lv (r1.toList ++ rest) (putB w L w1)) : Tr C kb nb pc lv st w := by
  refine Tr.ofRun (M := M) (wc := wc) (av := .ref (C.2.2.1 q) :: As) hcut hnd hlen hk hn hp ?_ kk
  intro p l e s m args below meth c R hC H locs cells slots ls h3 h4 h5 hf
  obtain ⟨hx, hb, hml, hown, hts, hK, hnm', hRm, hI, hG⟩ := id hC
  have hB := callB0 hC hc
  have hMl := hM l
  rw [hrt] at hB hMl
  exact va_runI (As := As) ⟨hx, hb, hml, hown, hts⟩ hMl ⟨hB, hnm, hts _ hi⟩ ⟨blind0, fun U hU hW => pre_call hI hK hG h3 h4 hcut hnd hU hW⟩ rfl hlen' h5 hst (lv_room (Nat.le_of_ble_eq_true hcat)) hd hf
/-- a nest mate's private constructor -/
def CNt (own : String) (idx : Nat) (M : MInf) (n lev : Nat) (host : String) : Prop := Cond.methodLinkNest own idx M.1 host ∈ lw_tbl ∧ Cond.code M.1 M.2.1 M.2.2.1 M.2.2.2.1 ∈ tbW ∧ Cond.initialized M.1.cls ∈ tbW ∧ (M.1.cls ≠ "java/lang/invoke/MethodHandle" ∧ M.1.cls ≠ "java/lang/invoke/VarHandle" ∧ (parseMethodDescriptor M.1.desc).map (fun d => d.parameters.length) = some n) ∧ M.2.2.2.2.1 + 1 ≤ lev ∧ M.2.2.1 ≤ 17
theorem Tr.callN {idx n q : Nat} {host : String} (hM : Md C.1 M (adc C.2.2.1 L w.length) (.ref (C.2.2.1 q) :: As) wc r1 w1) (hd : decode C.2.1.2.1 pc = .ok (.invokespecial idx, 3)) (hc : CNt C.2.1.1.cls idx M n C.2.1.2.2.2.2.1 host) (hi : Cond.instanceMethod M.1 ∈ tbW) (hnm : M.1.name = "<init>") (hrt : M.2.2.2.1 = none) (hst : st = As.reverse ++ .ref (C.2.2.1 q) :: rest) (hlen' : As.length = n) (hcat : Nat.ble (rest.map fun v => v.category).sum 8 = true)
    (hcut : L.map (fun i => w[i]?) = wc.map some) (hnd : va_nd L = true) (hlen : Nat.ble wc.length w1.length = true) (hk : kb' + M.2.2.2.2.2.1 = kb) (hn : nb' + M.2.2.2.2.2.2 = nb) (hp : pc + 3 = pc') (kk : Tr C kb' nb' pc' lv (r1.toList ++ rest) (putB w L w1)) : Tr C kb nb pc lv st w := by
  refine Tr.ofRun (M := M) (wc := wc) (av := .ref (C.2.2.1 q) :: As) hcut hnd hlen hk hn hp ?_ kk
  intro p l e s m args below meth c R hC H locs cells slots ls h3 h4 h5 hf
  obtain ⟨hx, hb, hml, hown, hts, hK, hnm', hRm, hI, hG⟩ := id hC
  obtain ⟨c1, c2, c3, c4, c5, c6⟩ := hc
  have hMl := hM l
  rw [hrt] at hMl c2
  exact va_runIN (As := As) ⟨hx, hb, hml, hown, hts⟩ hMl ⟨va_cnB n hts (good_all c2) rfl rfl rfl (hG.2.2.2.2.2.2.2.1 _ _ _ _ c1) (hts _ c3) c4 ⟨by rw [hRm]; exact c5, by rw [hRm]; simp only [rmD]; omega⟩, hnm, hts _ hi⟩ ⟨blind0, fun U hU hW => pre_call hI hK hG h3 h4 hcut hnd hU hW⟩ rfl hlen' h5 hst (lv_room (Nat.le_of_ble_eq_true hcat)) hd hf
/-- Object's constructor -/
theorem Tr.objInit {idx a : Nat} (hd : decode C.2.1.2.1 pc = .ok (.invokespecial idx, 3)) (hl : Cond.methodLink C.2.1.1.cls idx Lib.objectInit ∈ tbW) (h8 : Cond.instanceMethod Lib.objectInit ∈ tbW) (h9 : Cond.code Lib.objectInit ⟨#[0xb1]⟩ 1 none ∈ tbW) (hlev : Nat.ble 1 C.2.1.2.2.2.2.1 = true) (hcat : Nat.ble (rest.map fun v => v.category).sum 8 = true) (hp : pc + 3 = pc') (k : Tr C kb nb pc' lv rest w) : Tr C kb nb pc lv (.ref a :: rest) w := by
  subst hp
  intro p l e s m args below meth c R Z hC hR H locs cells slots ls h1 h2 h3 h4 h5
  obtain ⟨hx, hb, hml, hown, hts, hK, hnm, hRm, hI, hG⟩ := id hC
  have hv := Nat.le_of_ble_eq_true hlev
  have hv2 := Nat.le_of_ble_eq_true hcat
  refine W.objInit hx hb hown (hts _ hl) (hts _ h8) (hts _ h9) rfl (by rw [hml]; exact h5.1) rfl hd (by rw [hRm]; exact hv) (by rw [hRm]; have := lv_room (m := m) (pc := pc) (ls := ls) (rest := (Value.ref a :: rest)) hv2; simp only [rmD]; omega) ?_
  exact k p l e s m args below meth c R Z hC hR H locs cells slots ls h1 h2 h3 h4 h5
end TRC
