/-! System.arraycopy of ints; cells whose functions agree where it counts; small facts -/
section TRE
variable {C : CtxT} {kb nb pc pc' : Nat} {lv : List (Option Value)} {rest st : List Value} {w : List va_E}
def ACt (own : String) (idx : Nat) : Prop := Cond.methodLink own idx arraycopyName ∈ tbW
theorem ac_nat : Cond.native arraycopyName ∈ tbW := tbW_mem (by decide +kernel) rfl
theorem ac_sta : Cond.static arraycopyName ∈ tbW := tbW_mem (by decide +kernel) rfl
theorem ac_ini : Cond.initialized "java/lang/System" ∈ tbW := tbW_mem (by decide +kernel) rfl
/-- n ints out of any int array that is known there, into one of the picture -/
theorem copy_core {idx src q n0 n1 a b n : Nat} {f g : Nat → Int32} (hd : decode C.2.1.2.1 pc = .ok (.invokestatic idx, 3)) (hc : ACt C.2.1.1.cls idx) (hlev : Nat.ble 1 C.2.1.2.2.2.2.1 = true) (hcat : (rest.map fun v => v.category).sum = 0)
    (hsrc : ∀ (p : Program) (s : State) (m : MethodId) (args : Array Value) (meth : Method) (c : Code) (R : Room), Cx C p s m args meth c R → ∀ (H : Heap) (locs : List Loc), Pic C.1 C.2.2.1 w H → va_S (Rng C.2.2.1) s.heap H locs → ∃ cs : Cell, H[src]? = some cs ∧ (∀ k, cs.vm ≠ .statics k) ∧ cs.vm ≠ .unknown ∧ (∃ (k0 : Class) (cm : ClassId), s.vm.classes[cs.cls]? = some k0 ∧ k0.kind = .array cm .int) ∧ n0 ≤ cs.slots.size ∧ ∀ j, j < n0 → cs.slots[j]? = some (.int (f j)))
    (hw : w[q]? = some (aI C.1 n1 g)) (h4 : a + n ≤ n0) (h5 : b + n ≤ n1) (hm : n0 < 2 ^ 31 ∧ n1 < 2 ^ 31) (hp : pc + 3 = pc') (kk : Tr C kb nb pc' lv rest (w.set q (aI C.1 n1 (va_cpy f g a b n)))) : Tr C kb nb pc lv (.int (nI n) :: .int (nI b) :: .ref (C.2.2.1 q) :: .int (nI a) :: .ref src :: rest) w := by
  subst hp
  intro p l e s m args below meth c R Z hC hR H locs cells slots ls y1 y2 y3 y4 y5
  obtain ⟨hx, hb, hml, hown, hts, hK, hnm, hRm, hI, hG⟩ := id hC
  obtain ⟨cs, s1, s2, s3, ⟨k0, cm, s4, s5⟩, s6, s7⟩ := hsrc p s m args meth c R hC H locs y3 y4
  have hc1 : H[C.2.2.1 q]? = some (vp_cell (C.1.2.1 0) (n1, .inl g)) := y3.1 q _ (prs_at hw)
  obtain ⟨-, k1, hk1, cm1, hkk1⟩ := (hK.2 0 _ rfl).1 n1 (fun j => .int (g j))
  have ea : (nI a).toNatClampNeg = a := nI_clamp (by omega)
  have eb : (nI b).toNatClampNeg = b := nI_clamp (by omega)
  have en : (nI n).toNatClampNeg = n := nI_clamp (by omega)
  intro T hT X
  have hv := Nat.le_of_ble_eq_true hlev
  obtain ⟨vm', X', step⟩ := X.arraycopy hx hown (hts _ hc) (hts _ ac_nat) (hts _ ac_sta) (hts _ ac_ini) (src := src) (dst := C.2.2.1 q) (cs := cs) (cd := vp_cell (C.1.2.1 0) (n1, .inl g)) (srcPos := nI a) (destPos := nI b) (n := nI n) (by rw [hT]; exact s1) (by rw [hT]; exact hc1)
    s2 (fun _ h => by cases h) s3 (fun h => by cases h) s4 hk1 s5 hkk1 (by simp [refKind]) (nI_pos (by omega)) (nI_pos (by omega)) (nI_pos (by omega))
    (by rw [nI_toInt (by omega), nI_toInt (by omega)]; omega)
    (by rw [nI_toInt (by omega), nI_toInt (by omega)]; show ¬ _ > ((arrV (C.1.2.1 0) n1 (fun j => .int (g j))).slots.size : Int); rw [arrV_size]; omega)
    (fun vm₁ _ i hi => by
      rw [en] at hi
      have e9 : cs.slots.getD ((nI a).toNatClampNeg + i) .null = .int (f (a + i)) := by
        rw [ea, Array.getD_eq_getD_getElem?, s7 _ (by omega)]
        rfl
      rw [e9]
      exact ⟨rfl, trivial⟩)
    (g := F0 m pc ls (.int (nI n) :: .int (nI b) :: .ref (C.2.2.1 q) :: .int (nI a) :: .ref src :: rest)) rfl (by rw [hml]; exact y5.1) (rest := rest) rfl (by rw [hb]; exact hd) (by rw [hRm]; exact hv)
    (by rw [hRm, hcat]; show 2 * 0 + 0 + _ ≤ 36 * _; have : nativeFrameWords "java/lang/System" "arraycopy" 5 + 11 ≤ 36 := by decide +kernel
        omega)
  have e1 : copied cs (vp_cell (C.1.2.1 0) (n1, .inl g)) (nI a) (nI b) (nI n) = vp_cell (C.1.2.1 0) (n1, .inl (va_cpy f g a b n)) := by
    show Cell.storeRun _ (nI b).toNatClampNeg (cs.stretch (nI a).toNatClampNeg (nI n).toNatClampNeg) = _
    rw [ea, eb, en]
    exact va_copiedX (fun z => .int z) cs (C.1.2.1 0) f g s7 h4
  rw [e1] at X' step
  have hl : C.2.2.1 q < H.size := (Array.getElem?_eq_some_iff.mp hc1).1
  have hheap : ((T.setVm vm').setCell (C.2.2.1 q) (vp_cell (C.1.2.1 0) (n1, .inl (va_cpy f g a b n)))).heap = H.setIfInBounds (C.2.2.1 q) (vp_cell (C.1.2.1 0) (n1, .inl (va_cpy f g a b n))) := by rw [← hT]; rfl
  have oq : ∀ z : Nat, z ≠ C.2.2.1 q → (H.setIfInBounds (C.2.2.1 q) (vp_cell (C.1.2.1 0) (n1, .inl (va_cpy f g a b n))))[z]? = H[z]? := fun z hz => by simp [Array.getElem?_setIfInBounds, Ne.symm hz]
  obtain ⟨t, a1, b1⟩ := kk p l e s m args below meth c R Z hC hR _ _ cells slots ls y1 y2 (y3.set (y3.1.set (prs_D hI) (prs_at hw) (show (H.setIfInBounds _ _)[_]? = some _ by simp [Array.getElem?_setIfInBounds, hl]) oq) (by simp))
    ⟨by simp; exact y4.1, fun z g1 g2 => by
      rw [oq z (fun e9 => g2 (by rw [e9]; exact ⟨q, rfl⟩))]
      exact y4.2.1 z g1 g2, fun z hz => by
      rcases List.mem_append.mp hz with h | h
      · exact y4.2.2 z h
      · obtain ⟨z9, -, hz9⟩ := List.mem_map.mp h
        rw [← hz9]
        exact ⟨q, rfl⟩⟩ y5 _ hheap X'
  exact ⟨t, step t a1, b1⟩
theorem Tr.copyI {idx q0 q n0 n1 a b n : Nat} {f g : Nat → Int32} (hd : decode C.2.1.2.1 pc = .ok (.invokestatic idx, 3)) (hc : ACt C.2.1.1.cls idx) (hlev : Nat.ble 1 C.2.1.2.2.2.2.1 = true) (hcat : (rest.map fun v => v.category).sum = 0) (hw0 : w[q0]? = some (aI C.1 n0 f)) (hw : w[q]? = some (aI C.1 n1 g)) (h4 : a + n ≤ n0) (h5 : b + n ≤ n1) (hm : n0 < 2 ^ 31 ∧ n1 < 2 ^ 31) (hp : pc + 3 = pc') (kk : Tr C kb nb pc' lv rest (w.set q (aI C.1 n1 (va_cpy f g a b n)))) : Tr C kb nb pc lv (.int (nI n) :: .int (nI b) :: .ref (C.2.2.1 q) :: .int (nI a) :: .ref (C.2.2.1 q0) :: rest) w := by
  refine copy_core hd hc hlev hcat ?_ hw h4 h5 hm hp kk
  intro p s m args meth c R hC H locs h3 h4
  obtain ⟨hx, hb, hml, hown, hts, hK, hnm, hRm, hI, hG⟩ := id hC
  obtain ⟨-, k1, hk1, cm1, hkk1⟩ := (hK.2 0 _ rfl).1 n0 (fun j => .int (f j))
  refine ⟨vp_cell (C.1.2.1 0) (n0, .inl f), h3.1 q0 _ (prs_at hw0), (fun k h => by cases h), (fun h => by cases h), ⟨k1, cm1, hk1, hkk1⟩, ?_, fun j hj => ?_⟩
  · show _ ≤ (arrV _ _ _).slots.size; rw [arrV_size]; exact Nat.le_refl _
  · show (arrV _ _ _).slots[_]? = _; rw [arrV_read _ _ hj]
theorem Tr.copyU {idx q : Nat} {g : Nat → Int32} (hd : decode C.2.1.2.1 pc = .ok (.invokestatic idx, 3)) (hc : ACt C.2.1.1.cls idx) (hlev : Nat.ble 1 C.2.1.2.2.2.2.1 = true) (hcat : (rest.map fun v => v.category).sum = 0) (hw : w[q]? = some (aI C.1 6 g)) (hp : pc + 3 = pc') (kk : Tr C kb nb pc' lv rest (w.set q (aI C.1 6 (va_cpy ruU g 0 0 6)))) : Tr C kb nb pc lv (.int (nI 6) :: .int (nI 0) :: .ref (C.2.2.1 q) :: .int (nI 0) :: .ref (C.1.2.2 202) :: rest) w := by
  refine copy_core (n0 := 6) hd hc hlev hcat ?_ hw (by decide) (by decide) ⟨by decide, by decide⟩ hp kk
  intro p s m args meth c R hC H locs h3 h4
  obtain ⟨hx, hb, hml, hown, hts, hK, hnm, hRm, hI, hG⟩ := id hC
  obtain ⟨cell, g1, ⟨g2, k0, g3, cm, g4⟩, g5, g6, g7, g8, g9⟩ := hG.2.2.2.2.2.2.1.2
  exact ⟨cell, by rw [h4.2.1 _ (Array.getElem?_eq_some_iff.mp g1).1 g9]; exact g1, g2, g5, ⟨k0, cm, g3, g4⟩, g6, g8⟩
theorem Pic.fn {E : EnvT} {ad : Nat → Nat} {H : Heap} {q n : Nat} {f f' : Nat → Int32} {j : Nat} (h : Pic E ad w H) (hw : w[q]? = some (.inl (E.2.1 j, n, .inl f))) (he : ∀ k, k < n → f k = f' k) : Pic E ad (w.set q (.inl (E.2.1 j, n, .inl f'))) H := by
  refine ⟨fun k x hx => ?_, fun k => by rw [List.length_set]; exact h.2 k⟩
  rw [prs_set, Nat.zero_add] at hx
  by_cases hk : q = k
  · subst hk
    rw [List.getElem?_set_self (by rw [prs_len]; exact (List.getElem?_eq_some_iff.mp hw).1)] at hx
    cases hx
    have h1 := h.1 q _ (prs_at hw)
    show H[ad q]? = some (vp_cell _ _)
    have h2 : H[ad q]? = some (vp_cell (E.2.1 j) (n, .inl f)) := h1
    rw [h2, vp_cell_i, vp_cell_i]
    congr 1
    unfold arrV
    congr 1
    apply Array.ext
    · simp
    · intro i g1 g2
      simp only [Array.getElem_ofFn]
      rw [he i (by simpa using g1)]
  · rw [List.getElem?_set_ne hk] at hx
    exact h.1 k x hx
theorem Tr.fn {q n j : Nat} {f : Nat → Int32} (f' : Nat → Int32) (hw : w[q]? = some (.inl (C.1.2.1 j, n, .inl f))) (he : ∀ k, k < n → f k = f' k) (kk : Tr C kb nb pc lv st (w.set q (.inl (C.1.2.1 j, n, .inl f')))) : Tr C kb nb pc lv st w := by
  intro p l e s m args below meth c R Z hC hR H locs cells slots ls h1 h2 h3 h4 h5
  exact kk p l e s m args below meth c R Z hC hR H locs cells slots ls h1 h2 (h3.fn hw he) h4 h5
end TRE
theorem cpy_all {f g : Nat → Int32} {n k : Nat} (h : k < n) : va_cpy f g 0 0 n k = f k := by
  unfold va_cpy
  rw [if_pos (by omega)]
  congr 1
  omega
/-- a place by its code: 5 and more is none -/
def cl (c : Nat) : Int32 := if c < 5 then nI c else -1
theorem cl_lt {c : Nat} (h : c < 5) : cl c = nI c := if_pos h
theorem cl_ge {c : Nat} (h : ¬ c < 5) : cl c = -1 := if_neg h
theorem cl_none {c : Nat} : cl c = -1 ↔ ¬ c < 5 := by
  unfold cl
  by_cases h : c < 5
  · rw [if_pos h]
    refine ⟨fun q => absurd q ?_, fun q => absurd h q⟩
    rcases (show c = 0 ∨ c = 1 ∨ c = 2 ∨ c = 3 ∨ c = 4 by omega) with rfl | rfl | rfl | rfl | rfl <;> decide
  · rw [if_neg h]; simp [h]
theorem cl_eq {c h : Nat} (hh : h < 5) : cl c = nI h ↔ c = h := by
  unfold cl
  by_cases hc : c < 5
  · rw [if_pos hc, nI_eq (by omega) (by omega)]
  · rw [if_neg hc]
    refine ⟨fun q => ?_, fun q => by omega⟩
    exfalso
    rcases (show h = 0 ∨ h = 1 ∨ h = 2 ∨ h = 3 ∨ h = 4 by omega) with rfl | rfl | rfl | rfl | rfl <;> revert q <;> decide
theorem cl_inj {a b : Nat} (ha : a ≤ 5) (hb : b ≤ 5) : cl a = cl b ↔ a = b := by
  by_cases h : b < 5
  · rw [cl_lt h, cl_eq h]
  · rw [cl_ge h, cl_none]; omega
theorem icN (n : Nat) : Int32.ofInt (Int.ofNat n) = nI n := by
  show Int32.ofInt (n : Int) = Int32.ofNat n
  first | exact Int32.ofInt_eq_ofNat | exact Int32.ofInt_natCast n | exact Int32.ofInt_eq_ofNat n | rfl
