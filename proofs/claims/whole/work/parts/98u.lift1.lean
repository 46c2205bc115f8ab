/-! LIFTS: the reference's methods over all its cells -/
theorem Pic.ints {E : EnvT} {ad : Nat → Nat} {w : List va_E} {H : Heap} {q n : Nat} {f g : Nat → Int32} (hw : w[q]? = some (aI E n f)) (he : ∀ k, k < n → f k = g k) : Pic E ad (w.set q (aI E n g)) H ↔ Pic E ad w H := by
  have hcell : vp_cell (E.2.1 0) (n, .inl f) = vp_cell (E.2.1 0) (n, .inl g) := by
    show arrV (E.2.1 0) n (fun k => .int (f k)) = arrV (E.2.1 0) n (fun k => .int (g k))
    unfold arrV
    congr 1
    apply Array.ext
    · simp
    · intro i g1 g2
      simp only [Array.getElem_ofFn]
      rw [he i (by simpa using g1)]
  have hq := (List.getElem?_eq_some_iff.mp hw).1
  refine ⟨fun h => ⟨fun k x hx => ?_, fun k => by have := h.2 k; rw [List.length_set] at this; exact this⟩, fun h => ⟨fun k x hx => ?_, fun k => by rw [List.length_set]; exact h.2 k⟩⟩
  · by_cases hk : q = k
    · subst hk
      rw [prs_at hw] at hx
      cases hx
      have h1 := h.1 q (ad q, aI E n g) (by rw [prs_set, Nat.zero_add]; exact List.getElem?_set_self (by rw [prs_len]; exact hq))
      show H[ad q]? = some (vp_cell _ _)
      have h2 : H[ad q]? = some (vp_cell (E.2.1 0) (n, .inl g)) := h1
      rw [h2, ← hcell]
    · exact h.1 k x (by rw [prs_set, List.getElem?_set_ne hk]; exact hx)
  · rw [prs_set, Nat.zero_add] at hx
    by_cases hk : q = k
    · subst hk
      rw [List.getElem?_set_self (by rw [prs_len]; exact hq)] at hx
      cases hx
      have h1 := h.1 q _ (prs_at hw)
      show H[ad q]? = some (vp_cell _ _)
      have h2 : H[ad q]? = some (vp_cell (E.2.1 0) (n, .inl f)) := h1
      rw [h2, hcell]
    · rw [List.getElem?_set_ne hk] at hx
      exact h.1 k x hx
set_option maxHeartbeats 4000000 in
set_option maxRecDepth 100000 in
theorem lm_t (E : EnvT) {M : MInf} {As : List Value} {r0 : Option Value} (V : Vil) (D : Dvi) (tp : Nat) (T : Nat → Nat) (k : Tki) (f : Nat) (fa : Int32) (VR : Vil) (XR : Vix) (N : Nwi) (J : Jk) (K : Nat → Int32) (kb : Nat → Bool) (fn : Nat) (hb : Bool) (F : Nat → Nat) (b : Bki) (J2 : Jk) (N2 : Nwi) (h : ∀ ad r i, Md E M ad (.ref (ad 0) :: As) (mtJ E ad r i V J (rwF N.1 N.2.1 N.2.2.1 N.2.2.2)) r0 (mtJ E ad r i V J2 (rwF N2.1 N2.2.1 N2.2.2.1 N2.2.2.2))) (ad : Nat → Nat) : Md E M ad (.ref (ad 0) :: As) (mA E ad V D tp T k f fa VR XR N J K kb fn hb F b) r0 (mA E ad V D tp T k f fa VR XR N2 J2 K kb fn hb F b) := by
  have h1 := h (adc ad [0, 2, 5, 7, 8, 9, 10, 22, 23, 21, 20, 26, 27] 32) (rA ad) (iA V D tp k f fa VR XR J fn hb b)
  have h3 := Md.frame (w := (mA E ad V D tp T k f fa VR XR N J K kb fn hb F b)) (L := [0, 2, 5, 7, 8, 9, 10, 22, 23, 21, 20, 26, 27]) h1 rfl rfl rfl
  exact cast (congrArg (fun z => Md E M ad (.ref (ad 0) :: As) (mA E ad V D tp T k f fa VR XR N J K kb fn hb F b) r0 z) (putB_eq (w' := (mA E ad V D tp T k f fa VR XR N2 J2 K kb fn hb F b)) (Lc := [1, 3, 4, 6, 11, 12, 13, 14, 15, 16, 17, 18, 19, 24, 25, 28, 29, 30, 31]) 32 rfl rfl rfl rfl ⟨⟨_, rfl, rfl⟩, ⟨_, rfl, rfl⟩, ⟨_, rfl, rfl⟩, ⟨_, rfl, rfl⟩, ⟨_, rfl, rfl⟩, ⟨_, rfl, rfl⟩, ⟨_, rfl, rfl⟩, ⟨_, rfl, rfl⟩, ⟨_, rfl, rfl⟩, ⟨_, rfl, rfl⟩, ⟨_, rfl, rfl⟩, ⟨_, rfl, rfl⟩, ⟨_, rfl, rfl⟩, ⟨_, rfl, rfl⟩, ⟨_, rfl, rfl⟩, ⟨_, rfl, rfl⟩, ⟨_, rfl, rfl⟩, ⟨_, rfl, rfl⟩, ⟨_, rfl, rfl⟩, trivial⟩ (by decide) rfl)) h3
set_option maxHeartbeats 4000000 in
set_option maxRecDepth 100000 in
theorem lm_p (E : EnvT) {M : MInf} {As : List Value} {r0 : Option Value} (V : Vil) (D : Dvi) (tp : Nat) (T : Nat → Nat) (k : Tki) (f : Nat) (fa : Int32) (VR : Vil) (XR : Vix) (N : Nwi) (J : Jk) (K : Nat → Int32) (kb : Nat → Bool) (fn : Nat) (hb : Bool) (F : Nat → Nat) (b : Bki) (tp2 : Nat) (T2 : Nat → Nat) (h : ∀ ad r i, Md E M ad (.ref (ad 0) :: As) (mpC E ad r i tp (fun k => sb (T k))) r0 (mpC E ad r i tp2 (fun k => sb (T2 k)))) (ad : Nat → Nat) : Md E M ad (.ref (ad 0) :: As) (mA E ad V D tp T k f fa VR XR N J K kb fn hb F b) r0 (mA E ad V D tp2 T2 k f fa VR XR N J K kb fn hb F b) := by
  have h1 := h (adc ad [0, 1] 32) (rA ad) (iA V D tp k f fa VR XR J fn hb b)
  have h3 := Md.frame (w := (mA E ad V D tp T k f fa VR XR N J K kb fn hb F b)) (L := [0, 1]) h1 rfl rfl rfl
  exact cast (congrArg (fun z => Md E M ad (.ref (ad 0) :: As) (mA E ad V D tp T k f fa VR XR N J K kb fn hb F b) r0 z) (putB_eq (w' := (mA E ad V D tp2 T2 k f fa VR XR N J K kb fn hb F b)) (Lc := [2, 3, 4, 5, 6, 7, 8, 9, 10, 11, 12, 13, 14, 15, 16, 17, 18, 19, 20, 21, 22, 23, 24, 25, 26, 27, 28, 29, 30, 31]) 32 rfl rfl rfl rfl ⟨⟨_, rfl, rfl⟩, ⟨_, rfl, rfl⟩, ⟨_, rfl, rfl⟩, ⟨_, rfl, rfl⟩, ⟨_, rfl, rfl⟩, ⟨_, rfl, rfl⟩, ⟨_, rfl, rfl⟩, ⟨_, rfl, rfl⟩, ⟨_, rfl, rfl⟩, ⟨_, rfl, rfl⟩, ⟨_, rfl, rfl⟩, ⟨_, rfl, rfl⟩, ⟨_, rfl, rfl⟩, ⟨_, rfl, rfl⟩, ⟨_, rfl, rfl⟩, ⟨_, rfl, rfl⟩, ⟨_, rfl, rfl⟩, ⟨_, rfl, rfl⟩, ⟨_, rfl, rfl⟩, ⟨_, rfl, rfl⟩, ⟨_, rfl, rfl⟩, ⟨_, rfl, rfl⟩, ⟨_, rfl, rfl⟩, ⟨_, rfl, rfl⟩, ⟨_, rfl, rfl⟩, ⟨_, rfl, rfl⟩, ⟨_, rfl, rfl⟩, ⟨_, rfl, rfl⟩, ⟨_, rfl, rfl⟩, ⟨_, rfl, rfl⟩, trivial⟩ (by decide) rfl)) h3
set_option maxHeartbeats 4000000 in
set_option maxRecDepth 100000 in
theorem lm_n (E : EnvT) {M : MInf} {As : List Value} {r0 : Option Value} (V : Vil) (D : Dvi) (tp : Nat) (T : Nat → Nat) (k : Tki) (f : Nat) (fa : Int32) (VR : Vil) (XR : Vix) (N : Nwi) (J : Jk) (K : Nat → Int32) (kb : Nat → Bool) (fn : Nat) (hb : Bool) (F : Nat → Nat) (b : Bki) (tp2 : Nat) (N2 : Nwi) (h : ∀ ad r i, Md E M ad (.ref (ad 0) :: As) (mnC E ad r i (nhV V) (npV V) tp T (rwF N.1 N.2.1 N.2.2.1 N.2.2.2)) r0 (mnC E ad r i (nhV V) (npV V) tp2 T (rwF N2.1 N2.2.1 N2.2.2.1 N2.2.2.2))) (ad : Nat → Nat) : Md E M ad (.ref (ad 0) :: As) (mA E ad V D tp T k f fa VR XR N J K kb fn hb F b) r0 (mA E ad V D tp2 T k f fa VR XR N2 J K kb fn hb F b) := by
  have h1 := h (adc ad [0, 1, 20] 32) (rA ad) (iA V D tp k f fa VR XR J fn hb b)
  have h3 := Md.frame (w := (mA E ad V D tp T k f fa VR XR N J K kb fn hb F b)) (L := [0, 1, 20]) h1 rfl rfl rfl
  exact cast (congrArg (fun z => Md E M ad (.ref (ad 0) :: As) (mA E ad V D tp T k f fa VR XR N J K kb fn hb F b) r0 z) (putB_eq (w' := (mA E ad V D tp2 T k f fa VR XR N2 J K kb fn hb F b)) (Lc := [2, 3, 4, 5, 6, 7, 8, 9, 10, 11, 12, 13, 14, 15, 16, 17, 18, 19, 21, 22, 23, 24, 25, 26, 27, 28, 29, 30, 31]) 32 rfl rfl rfl rfl ⟨⟨_, rfl, rfl⟩, ⟨_, rfl, rfl⟩, ⟨_, rfl, rfl⟩, ⟨_, rfl, rfl⟩, ⟨_, rfl, rfl⟩, ⟨_, rfl, rfl⟩, ⟨_, rfl, rfl⟩, ⟨_, rfl, rfl⟩, ⟨_, rfl, rfl⟩, ⟨_, rfl, rfl⟩, ⟨_, rfl, rfl⟩, ⟨_, rfl, rfl⟩, ⟨_, rfl, rfl⟩, ⟨_, rfl, rfl⟩, ⟨_, rfl, rfl⟩, ⟨_, rfl, rfl⟩, ⟨_, rfl, rfl⟩, ⟨_, rfl, rfl⟩, ⟨_, rfl, rfl⟩, ⟨_, rfl, rfl⟩, ⟨_, rfl, rfl⟩, ⟨_, rfl, rfl⟩, ⟨_, rfl, rfl⟩, ⟨_, rfl, rfl⟩, ⟨_, rfl, rfl⟩, ⟨_, rfl, rfl⟩, ⟨_, rfl, rfl⟩, ⟨_, rfl, rfl⟩, ⟨_, rfl, rfl⟩, trivial⟩ (by decide) rfl)) h3
set_option maxHeartbeats 4000000 in
set_option maxRecDepth 100000 in
theorem lm_f (E : EnvT) {M : MInf} {As : List Value} {r0 : Option Value} (V : Vil) (D : Dvi) (tp : Nat) (T : Nat → Nat) (k : Tki) (f : Nat) (fa : Int32) (VR : Vil) (XR : Vix) (N : Nwi) (J : Jk) (K : Nat → Int32) (kb : Nat → Bool) (fn : Nat) (hb : Bool) (F : Nat → Nat) (b : Bki) (tp2 fn2 : Nat) (hb2 : Bool) (F2 : Nat → Nat) (h : ∀ ad r i, Md E M ad (.ref (ad 0) :: As) (mfC E ad r i (npV V) tp fn hb T F) r0 (mfC E ad r i (npV V) tp2 fn2 hb2 T F2)) (ad : Nat → Nat) : Md E M ad (.ref (ad 0) :: As) (mA E ad V D tp T k f fa VR XR N J K kb fn hb F b) r0 (mA E ad V D tp2 T k f fa VR XR N J K kb fn2 hb2 F2 b) := by
  have h1 := h (adc ad [0, 1, 28] 32) (rA ad) (iA V D tp k f fa VR XR J fn hb b)
  have h3 := Md.frame (w := (mA E ad V D tp T k f fa VR XR N J K kb fn hb F b)) (L := [0, 1, 28]) h1 rfl rfl rfl
  exact cast (congrArg (fun z => Md E M ad (.ref (ad 0) :: As) (mA E ad V D tp T k f fa VR XR N J K kb fn hb F b) r0 z) (putB_eq (w' := (mA E ad V D tp2 T k f fa VR XR N J K kb fn2 hb2 F2 b)) (Lc := [2, 3, 4, 5, 6, 7, 8, 9, 10, 11, 12, 13, 14, 15, 16, 17, 18, 19, 20, 21, 22, 23, 24, 25, 26, 27, 29, 30, 31]) 32 rfl rfl rfl rfl ⟨⟨_, rfl, rfl⟩, ⟨_, rfl, rfl⟩, ⟨_, rfl, rfl⟩, ⟨_, rfl, rfl⟩, ⟨_, rfl, rfl⟩, ⟨_, rfl, rfl⟩, ⟨_, rfl, rfl⟩, ⟨_, rfl, rfl⟩, ⟨_, rfl, rfl⟩, ⟨_, rfl, rfl⟩, ⟨_, rfl, rfl⟩, ⟨_, rfl, rfl⟩, ⟨_, rfl, rfl⟩, ⟨_, rfl, rfl⟩, ⟨_, rfl, rfl⟩, ⟨_, rfl, rfl⟩, ⟨_, rfl, rfl⟩, ⟨_, rfl, rfl⟩, ⟨_, rfl, rfl⟩, ⟨_, rfl, rfl⟩, ⟨_, rfl, rfl⟩, ⟨_, rfl, rfl⟩, ⟨_, rfl, rfl⟩, ⟨_, rfl, rfl⟩, ⟨_, rfl, rfl⟩, ⟨_, rfl, rfl⟩, ⟨_, rfl, rfl⟩, ⟨_, rfl, rfl⟩, ⟨_, rfl, rfl⟩, trivial⟩ (by decide) rfl)) h3
set_option maxHeartbeats 4000000 in
set_option maxRecDepth 100000 in
theorem lm_k (E : EnvT) {M : MInf} {As : List Value} {r0 : Option Value} (V : Vil) (D : Dvi) (tp : Nat) (T : Nat → Nat) (k : Tki) (f : Nat) (fa : Int32) (VR : Vil) (XR : Vix) (N : Nwi) (J : Jk) (K : Nat → Int32) (kb : Nat → Bool) (fn : Nat) (hb : Bool) (F : Nat → Nat) (b : Bki) (K2 : Nat → Int32) (kb2 : Nat → Bool) (h : ∀ ad r i, Md E M ad (.ref (ad 0) :: As) (mkC E ad r i (rwF N.1 N.2.1 N.2.2.1 N.2.2.2) K kb) r0 (mkC E ad r i (rwF N.1 N.2.1 N.2.2.1 N.2.2.2) K2 kb2)) (ad : Nat → Nat) : Md E M ad (.ref (ad 0) :: As) (mA E ad V D tp T k f fa VR XR N J K kb fn hb F b) r0 (mA E ad V D tp T k f fa VR XR N J K2 kb2 fn hb F b) := by
  have h1 := h (adc ad [0, 20, 24, 25] 32) (rA ad) (iA V D tp k f fa VR XR J fn hb b)
  have h3 := Md.frame (w := (mA E ad V D tp T k f fa VR XR N J K kb fn hb F b)) (L := [0, 20, 24, 25]) h1 rfl rfl rfl
  exact cast (congrArg (fun z => Md E M ad (.ref (ad 0) :: As) (mA E ad V D tp T k f fa VR XR N J K kb fn hb F b) r0 z) (putB_eq (w' := (mA E ad V D tp T k f fa VR XR N J K2 kb2 fn hb F b)) (Lc := [1, 2, 3, 4, 5, 6, 7, 8, 9, 10, 11, 12, 13, 14, 15, 16, 17, 18, 19, 21, 22, 23, 26, 27, 28, 29, 30, 31]) 32 rfl rfl rfl rfl ⟨⟨_, rfl, rfl⟩, ⟨_, rfl, rfl⟩, ⟨_, rfl, rfl⟩, ⟨_, rfl, rfl⟩, ⟨_, rfl, rfl⟩, ⟨_, rfl, rfl⟩, ⟨_, rfl, rfl⟩, ⟨_, rfl, rfl⟩, ⟨_, rfl, rfl⟩, ⟨_, rfl, rfl⟩, ⟨_, rfl, rfl⟩, ⟨_, rfl, rfl⟩, ⟨_, rfl, rfl⟩, ⟨_, rfl, rfl⟩, ⟨_, rfl, rfl⟩, ⟨_, rfl, rfl⟩, ⟨_, rfl, rfl⟩, ⟨_, rfl, rfl⟩, ⟨_, rfl, rfl⟩, ⟨_, rfl, rfl⟩, ⟨_, rfl, rfl⟩, ⟨_, rfl, rfl⟩, ⟨_, rfl, rfl⟩, ⟨_, rfl, rfl⟩, ⟨_, rfl, rfl⟩, ⟨_, rfl, rfl⟩, ⟨_, rfl, rfl⟩, ⟨_, rfl, rfl⟩, trivial⟩ (by decide) rfl)) h3
set_option maxHeartbeats 4000000 in
set_option maxRecDepth 100000 in
theorem lm_d (E : EnvT) {M : MInf} {As : List Value} {r0 : Option Value} (V : Vil) (D : Dvi) (tp : Nat) (T : Nat → Nat) (k : Tki) (f : Nat) (fa : Int32) (VR : Vil) (XR : Vix) (N : Nwi) (J : Jk) (K : Nat → Int32) (kb : Nat → Bool) (fn : Nat) (hb : Bool) (F : Nat → Nat) (b : Bki)  (h : ∀ ad r i, Md E M ad (.ref (ad 0) :: As) (mdC E ad r i V D.1 D.2.1) r0 (mdC E ad r i V D.1 D.2.1)) (ad : Nat → Nat) : Md E M ad (.ref (ad 0) :: As) (mA E ad V D tp T k f fa VR XR N J K kb fn hb F b) r0 (mA E ad V D tp T k f fa VR XR N J K kb fn hb F b) := by
  have h1 := h (adc ad [0, 2, 4, 5, 6, 7, 8, 9] 32) (rA ad) (iA V D tp k f fa VR XR J fn hb b)
  have h3 := Md.frame (w := (mA E ad V D tp T k f fa VR XR N J K kb fn hb F b)) (L := [0, 2, 4, 5, 6, 7, 8, 9]) h1 rfl rfl rfl
  exact cast (congrArg (fun z => Md E M ad (.ref (ad 0) :: As) (mA E ad V D tp T k f fa VR XR N J K kb fn hb F b) r0 z) (putB_eq (w' := (mA E ad V D tp T k f fa VR XR N J K kb fn hb F b)) (Lc := [1, 3, 10, 11, 12, 13, 14, 15, 16, 17, 18, 19, 20, 21, 22, 23, 24, 25, 26, 27, 28, 29, 30, 31]) 32 rfl rfl rfl rfl ⟨⟨_, rfl, rfl⟩, ⟨_, rfl, rfl⟩, ⟨_, rfl, rfl⟩, ⟨_, rfl, rfl⟩, ⟨_, rfl, rfl⟩, ⟨_, rfl, rfl⟩, ⟨_, rfl, rfl⟩, ⟨_, rfl, rfl⟩, ⟨_, rfl, rfl⟩, ⟨_, rfl, rfl⟩, ⟨_, rfl, rfl⟩, ⟨_, rfl, rfl⟩, ⟨_, rfl, rfl⟩, ⟨_, rfl, rfl⟩, ⟨_, rfl, rfl⟩, ⟨_, rfl, rfl⟩, ⟨_, rfl, rfl⟩, ⟨_, rfl, rfl⟩, ⟨_, rfl, rfl⟩, ⟨_, rfl, rfl⟩, ⟨_, rfl, rfl⟩, ⟨_, rfl, rfl⟩, ⟨_, rfl, rfl⟩, ⟨_, rfl, rfl⟩, trivial⟩ (by decide) rfl)) h3
set_option maxHeartbeats 4000000 in
set_option maxRecDepth 100000 in
theorem lm_a (E : EnvT) {M : MInf} {As : List Value} {r0 : Option Value} (V : Vil) (D : Dvi) (tp : Nat) (T : Nat → Nat) (k : Tki) (f : Nat) (fa : Int32) (VR : Vil) (XR : Vix) (N : Nwi) (J : Jk) (K : Nat → Int32) (kb : Nat → Bool) (fn : Nat) (hb : Bool) (F : Nat → Nat) (b : Bki)  (h : ∀ ad r i, Md E M ad (.ref (ad 0) :: As) [mfO r i (nI f) fa] r0 [mfO r i (nI f) fa]) (ad : Nat → Nat) : Md E M ad (.ref (ad 0) :: As) (mA E ad V D tp T k f fa VR XR N J K kb fn hb F b) r0 (mA E ad V D tp T k f fa VR XR N J K kb fn hb F b) := by
  have h1 := h (adc ad [0] 32) (rA ad) (iA V D tp k f fa VR XR J fn hb b)
  have h3 := Md.frame (w := (mA E ad V D tp T k f fa VR XR N J K kb fn hb F b)) (L := [0]) h1 rfl rfl rfl
  exact cast (congrArg (fun z => Md E M ad (.ref (ad 0) :: As) (mA E ad V D tp T k f fa VR XR N J K kb fn hb F b) r0 z) (putB_eq (w' := (mA E ad V D tp T k f fa VR XR N J K kb fn hb F b)) (Lc := [1, 2, 3, 4, 5, 6, 7, 8, 9, 10, 11, 12, 13, 14, 15, 16, 17, 18, 19, 20, 21, 22, 23, 24, 25, 26, 27, 28, 29, 30, 31]) 32 rfl rfl rfl rfl ⟨⟨_, rfl, rfl⟩, ⟨_, rfl, rfl⟩, ⟨_, rfl, rfl⟩, ⟨_, rfl, rfl⟩, ⟨_, rfl, rfl⟩, ⟨_, rfl, rfl⟩, ⟨_, rfl, rfl⟩, ⟨_, rfl, rfl⟩, ⟨_, rfl, rfl⟩, ⟨_, rfl, rfl⟩, ⟨_, rfl, rfl⟩, ⟨_, rfl, rfl⟩, ⟨_, rfl, rfl⟩, ⟨_, rfl, rfl⟩, ⟨_, rfl, rfl⟩, ⟨_, rfl, rfl⟩, ⟨_, rfl, rfl⟩, ⟨_, rfl, rfl⟩, ⟨_, rfl, rfl⟩, ⟨_, rfl, rfl⟩, ⟨_, rfl, rfl⟩, ⟨_, rfl, rfl⟩, ⟨_, rfl, rfl⟩, ⟨_, rfl, rfl⟩, ⟨_, rfl, rfl⟩, ⟨_, rfl, rfl⟩, ⟨_, rfl, rfl⟩, ⟨_, rfl, rfl⟩, ⟨_, rfl, rfl⟩, ⟨_, rfl, rfl⟩, ⟨_, rfl, rfl⟩, trivial⟩ (by decide) rfl)) h3
set_option maxHeartbeats 4000000 in
set_option maxRecDepth 100000 in
theorem lm_c (E : EnvT) {M : MInf} {As : List Value} (V : Vil) (D : Dvi) (tp : Nat) (T : Nat → Nat) (k : Tki) (f : Nat) (fa : Int32) (VR : Vil) (XR : Vix) (N : Nwi) (J : Jk) (K : Nat → Int32) (kb : Nat → Bool) (fn : Nat) (hb : Bool) (F : Nat → Nat) (b : Bki) (R : Int32 → Int32) (h : ∀ ad r i, Md E M ad (.ref (ad 0) :: As) [mcO ad r i tp, aI E 57 (rwF N.1 N.2.1 N.2.2.1 N.2.2.2)] (some (.int (R (i 12)))) [mcO ad r i tp, aI E 57 (rwF N.1 N.2.1 N.2.2.1 N.2.2.2)]) (ad : Nat → Nat) : Md E M ad (.ref (ad 0) :: As) (mA E ad V D tp T k f fa VR XR N J K kb fn hb F b) (some (.int (R D.2.2))) (mA E ad V D tp T k f fa VR XR N J K kb fn hb F b) := by
  have h1 := h (adc ad [0, 20] 32) (rA ad) (iA V D tp k f fa VR XR J fn hb b)
  have h3 := Md.frame (w := (mA E ad V D tp T k f fa VR XR N J K kb fn hb F b)) (L := [0, 20]) h1 rfl rfl rfl
  exact cast (congrArg (fun z => Md E M ad (.ref (ad 0) :: As) (mA E ad V D tp T k f fa VR XR N J K kb fn hb F b) (some (.int (R D.2.2))) z) (putB_eq (w' := (mA E ad V D tp T k f fa VR XR N J K kb fn hb F b)) (Lc := [1, 2, 3, 4, 5, 6, 7, 8, 9, 10, 11, 12, 13, 14, 15, 16, 17, 18, 19, 21, 22, 23, 24, 25, 26, 27, 28, 29, 30, 31]) 32 rfl rfl rfl rfl ⟨⟨_, rfl, rfl⟩, ⟨_, rfl, rfl⟩, ⟨_, rfl, rfl⟩, ⟨_, rfl, rfl⟩, ⟨_, rfl, rfl⟩, ⟨_, rfl, rfl⟩, ⟨_, rfl, rfl⟩, ⟨_, rfl, rfl⟩, ⟨_, rfl, rfl⟩, ⟨_, rfl, rfl⟩, ⟨_, rfl, rfl⟩, ⟨_, rfl, rfl⟩, ⟨_, rfl, rfl⟩, ⟨_, rfl, rfl⟩, ⟨_, rfl, rfl⟩, ⟨_, rfl, rfl⟩, ⟨_, rfl, rfl⟩, ⟨_, rfl, rfl⟩, ⟨_, rfl, rfl⟩, ⟨_, rfl, rfl⟩, ⟨_, rfl, rfl⟩, ⟨_, rfl, rfl⟩, ⟨_, rfl, rfl⟩, ⟨_, rfl, rfl⟩, ⟨_, rfl, rfl⟩, ⟨_, rfl, rfl⟩, ⟨_, rfl, rfl⟩, ⟨_, rfl, rfl⟩, ⟨_, rfl, rfl⟩, ⟨_, rfl, rfl⟩, trivial⟩ (by decide) rfl)) h3
set_option maxHeartbeats 4000000 in
set_option maxRecDepth 100000 in
theorem lm_g (E : EnvT) {M : MInf} {As : List Value} {r0 : Option Value} (V : Vil) (D : Dvi) (tp : Nat) (T : Nat → Nat) (k : Tki) (f : Nat) (fa : Int32) (VR : Vil) (XR : Vix) (N : Nwi) (J : Jk) (K : Nat → Int32) (kb : Nat → Bool) (fn : Nat) (hb : Bool) (F : Nat → Nat) (b : Bki) (g2 : Nat → Int32) (N2 : Nwi) (hg : ∀ j, j < 57 → g2 j = rwF N2.1 N2.2.1 N2.2.2.1 N2.2.2.2 j) (h : ∀ ad r i, Md E M ad (.ref (ad 0) :: As) (mkC E ad r i (rwF N.1 N.2.1 N.2.2.1 N.2.2.2) K kb) r0 (mkC E ad r i g2 K kb)) (ad : Nat → Nat) : Md E M ad (.ref (ad 0) :: As) (mA E ad V D tp T k f fa VR XR N J K kb fn hb F b) r0 (mA E ad V D tp T k f fa VR XR N2 J K kb fn hb F b) := by
  have h1 := (h (adc ad [0, 20, 24, 25] 32) (rA ad) (iA V D tp k f fa VR XR J fn hb b)).mono (fun _ z => z) (fun H z => (Pic.ints (q := 1) (g := (rwF N2.1 N2.2.1 N2.2.2.1 N2.2.2.2)) rfl hg).mpr z)
  have h3 := Md.frame (w := (mA E ad V D tp T k f fa VR XR N J K kb fn hb F b)) (L := [0, 20, 24, 25]) h1 rfl rfl rfl
  exact cast (congrArg (fun z => Md E M ad (.ref (ad 0) :: As) (mA E ad V D tp T k f fa VR XR N J K kb fn hb F b) r0 z) (putB_eq (w' := (mA E ad V D tp T k f fa VR XR N2 J K kb fn hb F b)) (Lc := [1, 2, 3, 4, 5, 6, 7, 8, 9, 10, 11, 12, 13, 14, 15, 16, 17, 18, 19, 21, 22, 23, 26, 27, 28, 29, 30, 31]) 32 rfl rfl rfl rfl ⟨⟨_, rfl, rfl⟩, ⟨_, rfl, rfl⟩, ⟨_, rfl, rfl⟩, ⟨_, rfl, rfl⟩, ⟨_, rfl, rfl⟩, ⟨_, rfl, rfl⟩, ⟨_, rfl, rfl⟩, ⟨_, rfl, rfl⟩, ⟨_, rfl, rfl⟩, ⟨_, rfl, rfl⟩, ⟨_, rfl, rfl⟩, ⟨_, rfl, rfl⟩, ⟨_, rfl, rfl⟩, ⟨_, rfl, rfl⟩, ⟨_, rfl, rfl⟩, ⟨_, rfl, rfl⟩, ⟨_, rfl, rfl⟩, ⟨_, rfl, rfl⟩, ⟨_, rfl, rfl⟩, ⟨_, rfl, rfl⟩, ⟨_, rfl, rfl⟩, ⟨_, rfl, rfl⟩, ⟨_, rfl, rfl⟩, ⟨_, rfl, rfl⟩, ⟨_, rfl, rfl⟩, ⟨_, rfl, rfl⟩, ⟨_, rfl, rfl⟩, ⟨_, rfl, rfl⟩, trivial⟩ (by decide) rfl)) h3
