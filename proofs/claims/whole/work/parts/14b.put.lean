/-! putting back, place by place -/
def samA (a b : List va_E) : List Nat → Prop
  | [] => True
  | i :: r => (∃ e, a[i]? = some e ∧ b[i]? = some e) ∧ samA a b r
theorem samA_at {a b : List va_E} : ∀ (l : List Nat), samA a b l → ∀ i ∈ l, a[i]? = b[i]? := by
  intro l
  induction l with
  | nil => intro _ i hi; cases hi
  | cons k r ih =>
    intro h i hi
    rcases List.mem_cons.mp hi with rfl | hi
    · obtain ⟨⟨e, e1, e2⟩, -⟩ := h
      rw [e1, e2]
    · exact ih h.2 i hi
theorem putB_eq {w w1 w' : List va_E} {L Lc : List Nat} (n : Nat) (hn : w.length = n) (hn' : w'.length = n) (h4 : w1.length = L.length) (h1 : L.map (fun i => w'[i]?) = w1.map some) (h2 : samA w' w Lc) (h5 : (List.range n).all (fun k => L.contains k || Lc.contains k) = true) (hnd : va_nd L = true) : putB w L w1 = w' := by
  subst hn
  apply List.ext_getElem?
  intro k
  unfold putB
  rw [← h4, List.drop_length, List.append_nil]
  by_cases hk : k < w.length
  · by_cases hm : k ∈ L
    · obtain ⟨j, hj⟩ := List.getElem?_of_mem hm
      obtain ⟨e, e1, e2⟩ := cut_at h1 hj
      rw [setL_in L w w1 j k e (fun a b c x y => va_nd_inj L hnd a b c x y) hj e1 hk, e2]
    · rw [setL_out L w w1 k hm]
      have h6 := List.all_eq_true.mp h5 k (List.mem_range.mpr hk)
      simp only [Bool.or_eq_true, List.contains_iff_mem] at h6
      have hc : k ∈ Lc := h6.resolve_left hm
      exact (samA_at Lc h2 k hc).symm
  · rw [List.getElem?_eq_none (by rw [setL_len]; omega), List.getElem?_eq_none (by omega)]
