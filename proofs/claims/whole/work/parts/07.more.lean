/-! MORE RULES: calls with the caller's own picture, calls that only read, constants, statics and texts, arraycopy. -/
theorem setL_same : ∀ (L : List Nat) (w v : List va_E), (∀ (j k : Nat) (e : va_E), L[j]? = some k → v[j]? = some e → w[k]? = some e) → setL w L v = w := by
  intro L
  induction L with
  | nil => intro w v _; rfl
  | cons i L ih =>
    intro w v h
    cases v with
    | nil => rfl
    | cons e v =>
      have h0 : w[i]? = some e := h 0 i e (by simp) (by simp)
      have hs : w.set i e = w := by
        apply List.ext_getElem?
        intro n
        by_cases hn : i = n
        · subst hn
          rw [List.getElem?_set_self (List.getElem?_eq_some_iff.mp h0).1, h0]
        · rw [List.getElem?_set_ne hn]
      rw [setL_c, hs]
      exact ih w v (fun j k x h1 h2 => h (j + 1) k x (by simpa using h1) (by simpa using h2))
theorem putB_same {w wc : List va_E} {L : List Nat} (h : L.map (fun i => w[i]?) = wc.map some) : putB w L wc = w := by
  unfold putB
  rw [cut_len h, List.drop_length, List.append_nil]
  refine setL_same L w wc (fun j k e h1 h2 => ?_)
  obtain ⟨x, e1, e2⟩ := cut_at h h1
  rw [h2] at e1
  cases e1
  exact e2
theorem va_nd_range_aux : ∀ (n : Nat), va_nd (List.range n) = true := by
  have key : ∀ (l : List Nat), l.Nodup → va_nd l = true := by
    intro l
    induction l with
    | nil => intro _; rfl
    | cons a l ih =>
      intro h
      rw [List.nodup_cons] at h
      simp [va_nd, h.1, ih h.2]
  exact fun n => key _ List.nodup_range
theorem cut_all (w : List va_E) : (List.range w.length).map (fun i => w[i]?) = w.map some := by
  apply List.ext_getElem?
  intro k
  rw [List.getElem?_map, List.getElem?_map]
  by_cases h : k < w.length
  · rw [List.getElem?_range h]; simp [h]
  · rw [List.getElem?_eq_none (by simpa using h), List.getElem?_eq_none (by simpa using h)]; rfl
theorem adc_all (ad : Nat → Nat) (n : Nat) : adc ad (List.range n) n = ad := by
  funext k
  show ad (sg (List.range n) n k) = ad k
  congr 1
  by_cases h : k < n
  · exact sg_in (List.getElem?_range h)
  · rw [sg_out (by simpa using h), List.length_range]; omega
theorem putB_all {w w1 : List va_E} (h : w.length ≤ w1.length) : putB w (List.range w.length) w1 = w1 := by
  have hr : ∀ k, k < w.length → (List.range w.length)[k]? = some k := fun k hk => List.getElem?_range hk
  apply List.ext_getElem?
  intro k
  unfold putB
  by_cases hk : k < w.length
  · rw [List.getElem?_append_left (by rw [setL_len]; exact hk)]
    have h1 : w1[k]? = some w1[k] := List.getElem?_eq_getElem (by omega)
    rw [h1]
    refine setL_in _ w w1 k k _ (fun a b c x y => va_nd_inj _ (va_nd_range_aux _) a b c x y) (hr k hk) h1 hk
  · rw [List.getElem?_append_right (by rw [setL_len]; omega), setL_len, List.getElem?_drop, List.length_range]
    congr 1
    omega
section TRD
variable {C : CtxT} {kb nb kb' nb' pc pc' : Nat} {lv : List (Option Value)} {st rest : List Value} {w wc w1 : List va_E} {M : MInf} {L : List Nat} {r1 : Option Value} {av As : List Value}
/-- a call that leaves its picture as it was -/
theorem Tr.callVr {idx n q ci : Nat} {fs : List Value} (hM : Md C.1 M (adc C.2.2.1 L w.length) (.ref (C.2.2.1 q) :: As) wc r1 wc) (hd : decode C.2.1.2.1 pc = .ok (.invokevirtual idx, 3)) (hc : CAt C.2.1.1.cls idx M n C.2.1.2.2.2.2.1) (hi : Cond.instanceMethod M.1 ∈ tbW ∧ Cond.selects M.1.cls M.1 M.1 ∈ tbW) (hq : w[q]? = some (.inr (ci, fs))) (hci : (vwCl[ci]?).map (fun r => r.1) = some M.1.cls) (hst : st = As.reverse ++ .ref (C.2.2.1 q) :: rest) (hlen' : As.length = n) (hcat : Nat.ble (rest.map fun v => v.category).sum 8 = true)
    (hcut : L.map (fun i => w[i]?) = wc.map some) (hnd : va_nd L = true) (hk : kb' + M.2.2.2.2.2.1 = kb) (hn : nb' + M.2.2.2.2.2.2 = nb) (hp : pc + 3 = pc') (kk : Tr C kb' nb' pc' lv (r1.toList ++ rest) w) : Tr C kb nb pc lv st w :=
  Tr.callV hM hd hc hi hq hci hst hlen' hcat hcut hnd (Nat.ble_eq_true_of_le (Nat.le_refl _)) hk hn hp (by rw [putB_same hcut]; exact kk)
theorem Tr.callSr {idx n : Nat} (hM : Md C.1 M (adc C.2.2.1 L w.length) As wc r1 wc) (hd : decode C.2.1.2.1 pc = .ok (.invokestatic idx, 3)) (hc : CAt C.2.1.1.cls idx M n C.2.1.2.2.2.2.1) (hi : Cond.static M.1 ∈ tbW) (hst : st = As.reverse ++ rest) (hlen' : As.length = n) (hcat : Nat.ble (rest.map fun v => v.category).sum 8 = true)
    (hcut : L.map (fun i => w[i]?) = wc.map some) (hnd : va_nd L = true) (hk : kb' + M.2.2.2.2.2.1 = kb) (hn : nb' + M.2.2.2.2.2.2 = nb) (hp : pc + 3 = pc') (kk : Tr C kb' nb' pc' lv (r1.toList ++ rest) w) : Tr C kb nb pc lv st w :=
  Tr.callS hM hd hc hi hst hlen' hcat hcut hnd (Nat.ble_eq_true_of_le (Nat.le_refl _)) hk hn hp (by rw [putB_same hcut]; exact kk)
/-- a call on the caller's whole picture -/
theorem Tr.callVs {idx n q ci : Nat} {fs : List Value} (hM : Md C.1 M C.2.2.1 (.ref (C.2.2.1 q) :: As) w r1 w1) (hd : decode C.2.1.2.1 pc = .ok (.invokevirtual idx, 3)) (hc : CAt C.2.1.1.cls idx M n C.2.1.2.2.2.2.1) (hi : Cond.instanceMethod M.1 ∈ tbW ∧ Cond.selects M.1.cls M.1 M.1 ∈ tbW) (hq : w[q]? = some (.inr (ci, fs))) (hci : (vwCl[ci]?).map (fun r => r.1) = some M.1.cls) (hst : st = As.reverse ++ .ref (C.2.2.1 q) :: rest) (hlen' : As.length = n) (hcat : Nat.ble (rest.map fun v => v.category).sum 8 = true)
    (hlen : w.length ≤ w1.length) (hk : kb' + M.2.2.2.2.2.1 = kb) (hn : nb' + M.2.2.2.2.2.2 = nb) (hp : pc + 3 = pc') (kk : Tr C kb' nb' pc' lv (r1.toList ++ rest) w1) : Tr C kb nb pc lv st w :=
  Tr.callV (L := List.range w.length) (by rw [adc_all]; exact hM) hd hc hi hq hci hst hlen' hcat (cut_all w) (va_nd_range_aux _) (Nat.ble_eq_true_of_le hlen) hk hn hp (by rw [putB_all hlen]; exact kk)
theorem Tr.callSs {idx n : Nat} (hM : Md C.1 M C.2.2.1 As w r1 w1) (hd : decode C.2.1.2.1 pc = .ok (.invokestatic idx, 3)) (hc : CAt C.2.1.1.cls idx M n C.2.1.2.2.2.2.1) (hi : Cond.static M.1 ∈ tbW) (hst : st = As.reverse ++ rest) (hlen' : As.length = n) (hcat : Nat.ble (rest.map fun v => v.category).sum 8 = true)
    (hlen : w.length ≤ w1.length) (hk : kb' + M.2.2.2.2.2.1 = kb) (hn : nb' + M.2.2.2.2.2.2 = nb) (hp : pc + 3 = pc') (kk : Tr C kb' nb' pc' lv (r1.toList ++ rest) w1) : Tr C kb nb pc lv st w :=
  Tr.callS (L := List.range w.length) (by rw [adc_all]; exact hM) hd hc hi hst hlen' hcat (cut_all w) (va_nd_range_aux _) (Nat.ble_eq_true_of_le hlen) hk hn hp (by rw [putB_all hlen]; exact kk)
-- statics
theorem Tr.gsCS {idx : Nat} (hd : decode C.2.1.2.1 pc = .ok (.getstatic idx, 3)) (hl : Cond.fieldLink C.2.1.1.cls idx "java/lang/String" "COMPACT_STRINGS" "Z" ∈ tbW) (hp : pc + 3 = pc') (k : Tr C kb nb pc' lv (.int 1 :: st) w) : Tr C kb nb pc lv st w := by
  subst hp
  intro p l e s m args below meth c R Z hC hR H locs cells slots ls h1 h2 h3 h4 h5
  obtain ⟨hx, hb, hml, hown, hts, hK, hnm, hRm, hI, hG⟩ := id hC
  exact va_gets hx hb hG.2.2.1 h4 hown (hts _ hl) (fun _ z => z) hd (k p l e s m args below meth c R Z hC hR H locs cells slots ls h1 h2 h3 h4 h5)
theorem Tr.gsSF {idx : Nat} (hd : decode C.2.1.2.1 pc = .ok (.getstatic idx, 3)) (hl : Cond.fieldLink C.2.1.1.cls idx "jdk/internal/util/Preconditions" "SIOOBE_FORMATTER" "Ljava/util/function/BiFunction;" ∈ tbW) (hp : pc + 3 = pc') (k0 : Tr C kb nb pc' lv (.null :: st) w) (k1 : ∀ x : Nat, Tr C kb nb pc' lv (.ref x :: st) w) : Tr C kb nb pc lv st w := by
  subst hp
  intro p l e s m args below meth c R Z hC hR H locs cells slots ls h1 h2 h3 h4 h5
  obtain ⟨hx, hb, hml, hown, hts, hK, hnm, hRm, hI, hG⟩ := id hC
  have hz := hG.2.2.2.1
  cases hq : C.1.2.2 203 with
  | zero =>
    rw [hq] at hz
    exact va_gets hx hb hz h4 hown (hts _ hl) (fun _ z => z) hd (k0 p l e s m args below meth c R Z hC hR H locs cells slots ls h1 h2 h3 h4 h5)
  | succ n =>
    rw [hq] at hz
    exact va_gets hx hb hz h4 hown (hts _ hl) (fun _ z => z) hd (k1 n p l e s m args below meth c R Z hC hR H locs cells slots ls h1 h2 h3 h4 h5)
theorem Tr.gsRL {idx : Nat} (hd : decode C.2.1.2.1 pc = .ok (.getstatic idx, 3)) (hl : Cond.fieldLinkNest C.2.1.1.cls idx "OwnedByGuests" "RULE_LEAST" "[I" "OwnedByGuests" ∈ lw_tbl) (hp : pc + 3 = pc') (k : Tr C kb nb pc' lv (.ref (C.1.2.2 200) :: st) w) : Tr C kb nb pc lv st w := by
  subst hp
  intro p l e s m args below meth c R Z hC hR H locs cells slots ls h1 h2 h3 h4 h5
  obtain ⟨hx, hb, hml, hown, hts, hK, hnm, hRm, hI, hG⟩ := id hC
  exact va_getsN hx hb hG.2.2.2.2.1.1 h4 hown (va_Nw.use rfl (hG.2.2.2.2.2.2.2.2.1 _ _ _ _ _ _ hl)) (fun _ z => z) hd (k p l e s m args below meth c R Z hC hR H locs cells slots ls h1 h2 h3 h4 h5)
theorem Tr.gsRM {idx : Nat} (hd : decode C.2.1.2.1 pc = .ok (.getstatic idx, 3)) (hl : Cond.fieldLinkNest C.2.1.1.cls idx "OwnedByGuests" "RULE_MOST" "[I" "OwnedByGuests" ∈ lw_tbl) (hp : pc + 3 = pc') (k : Tr C kb nb pc' lv (.ref (C.1.2.2 201) :: st) w) : Tr C kb nb pc lv st w := by
  subst hp
  intro p l e s m args below meth c R Z hC hR H locs cells slots ls h1 h2 h3 h4 h5
  obtain ⟨hx, hb, hml, hown, hts, hK, hnm, hRm, hI, hG⟩ := id hC
  exact va_getsN hx hb hG.2.2.2.2.2.1.1 h4 hown (va_Nw.use rfl (hG.2.2.2.2.2.2.2.2.1 _ _ _ _ _ _ hl)) (fun _ z => z) hd (k p l e s m args below meth c R Z hC hR H locs cells slots ls h1 h2 h3 h4 h5)
theorem Tr.gsRU {idx : Nat} (hd : decode C.2.1.2.1 pc = .ok (.getstatic idx, 3)) (hl : Cond.fieldLinkNest C.2.1.1.cls idx "OwnedByGuests" "RULE_UNTOLD" "[I" "OwnedByGuests" ∈ lw_tbl) (hp : pc + 3 = pc') (k : Tr C kb nb pc' lv (.ref (C.1.2.2 202) :: st) w) : Tr C kb nb pc lv st w := by
  subst hp
  intro p l e s m args below meth c R Z hC hR H locs cells slots ls h1 h2 h3 h4 h5
  obtain ⟨hx, hb, hml, hown, hts, hK, hnm, hRm, hI, hG⟩ := id hC
  exact va_getsN hx hb hG.2.2.2.2.2.2.1.1 h4 hown (va_Nw.use rfl (hG.2.2.2.2.2.2.2.2.1 _ _ _ _ _ _ hl)) (fun _ z => z) hd (k p l e s m args below meth c R Z hC hR H locs cells slots ls h1 h2 h3 h4 h5)
theorem Tr.tldL {a : Nat} (hd : decode C.2.1.2.1 pc = .ok (.iaload, 1)) (ha : a < 6) (hp : pc + 1 = pc') (k : Tr C kb nb pc' lv (.int (ruL a) :: st) w) : Tr C kb nb pc lv (.int (nI a) :: .ref (C.1.2.2 200) :: st) w := by
  subst hp
  intro p l e s m args below meth c R Z hC hR H locs cells slots ls h1 h2 h3 h4 h5
  obtain ⟨hx, hb, hml, hown, hts, hK, hnm, hRm, hI, hG⟩ := id hC
  exact va_ti hx hb hG.2.2.2.2.1.2 h4 (vp_in_nI ha (by decide)) (by rw [nI_clamp (by omega)]) hd (k p l e s m args below meth c R Z hC hR H locs cells slots ls h1 h2 h3 h4 h5)
theorem Tr.tldM {a : Nat} (hd : decode C.2.1.2.1 pc = .ok (.iaload, 1)) (ha : a < 6) (hp : pc + 1 = pc') (k : Tr C kb nb pc' lv (.int (ruM a) :: st) w) : Tr C kb nb pc lv (.int (nI a) :: .ref (C.1.2.2 201) :: st) w := by
  subst hp
  intro p l e s m args below meth c R Z hC hR H locs cells slots ls h1 h2 h3 h4 h5
  obtain ⟨hx, hb, hml, hown, hts, hK, hnm, hRm, hI, hG⟩ := id hC
  exact va_ti hx hb hG.2.2.2.2.2.1.2 h4 (vp_in_nI ha (by decide)) (by rw [nI_clamp (by omega)]) hd (k p l e s m args below meth c R Z hC hR H locs cells slots ls h1 h2 h3 h4 h5)
-- texts
theorem Tr.sVal {idx i : Nat} (hd : decode C.2.1.2.1 pc = .ok (.getfield idx, 3)) (hl : Cond.fieldLink C.2.1.1.cls idx "java/lang/String" "value" "[B" ∈ tbW) (hi : i < 12) (hp : pc + 3 = pc') (k : Tr C kb nb pc' lv (.ref (C.1.2.2 (100 + i)) :: st) w) : Tr C kb nb pc lv (.ref (C.1.2.2 i) :: st) w := by
  subst hp
  intro p l e s m args below meth c R Z hC hR H locs cells slots ls h1 h2 h3 h4 h5
  obtain ⟨hx, hb, hml, hown, hts, hK, hnm, hRm, hI, hG⟩ := id hC
  exact vk_getf hx hb (hG.1.1 i hi).2.2.1 h4 hown (hts _ hl) (fun _ z => z) hd (k p l e s m args below meth c R Z hC hR H locs cells slots ls h1 h2 h3 h4 h5)
theorem Tr.sCod {idx i : Nat} (hd : decode C.2.1.2.1 pc = .ok (.getfield idx, 3)) (hl : Cond.fieldLink C.2.1.1.cls idx "java/lang/String" "coder" "B" ∈ tbW) (hi : i < 12) (hp : pc + 3 = pc') (k : Tr C kb nb pc' lv (.int 0 :: st) w) : Tr C kb nb pc lv (.ref (C.1.2.2 i) :: st) w := by
  subst hp
  intro p l e s m args below meth c R Z hC hR H locs cells slots ls h1 h2 h3 h4 h5
  obtain ⟨hx, hb, hml, hown, hts, hK, hnm, hRm, hI, hG⟩ := id hC
  exact vk_getf hx hb (hG.1.1 i hi).2.1 h4 hown (hts _ hl) (fun _ z => z) hd (k p l e s m args below meth c R Z hC hR H locs cells slots ls h1 h2 h3 h4 h5)
theorem Tr.sLen {i : Nat} (hd : decode C.2.1.2.1 pc = .ok (.arraylength, 1)) (hi : i < 12) (hp : pc + 1 = pc') (k : Tr C kb nb pc' lv (.int (nI (lenS.getD i 0)) :: st) w) : Tr C kb nb pc lv (.ref (C.1.2.2 (100 + i)) :: st) w := by
  subst hp
  intro p l e s m args below meth c R Z hC hR H locs cells slots ls h1 h2 h3 h4 h5
  obtain ⟨hx, hb, hml, hown, hts, hK, hnm, hRm, hI, hG⟩ := id hC
  exact va_tlen hx hb (hG.1.1 i hi).2.2.2 h4 rfl hd (k p l e s m args below meth c R Z hC hR H locs cells slots ls h1 h2 h3 h4 h5)
theorem Tr.sByte {i a : Nat} (hd : decode C.2.1.2.1 pc = .ok (.baload, 1)) (hi : i < 12) (ha : a < lenS.getD i 0) (hp : pc + 1 = pc') (k : Tr C kb nb pc' lv (.int ((bytS.getD i []).getD a 0) :: st) w) : Tr C kb nb pc lv (.int (nI a) :: .ref (C.1.2.2 (100 + i)) :: st) w := by
  subst hp
  intro p l e s m args below meth c R Z hC hR H locs cells slots ls h1 h2 h3 h4 h5
  obtain ⟨hx, hb, hml, hown, hts, hK, hnm, hRm, hI, hG⟩ := id hC
  have hb9 : ∀ i, i < 12 → lenS.getD i 0 < 100 := by decide +kernel
  have hb8 := hb9 i hi
  exact va_tb hx hb (hG.1.1 i hi).2.2.2 h4 (vp_in_nI ha (by omega)) (by rw [nI_clamp (by omega)]) hd (k p l e s m args below meth c R Z hC hR H locs cells slots ls h1 h2 h3 h4 h5)
/-- invokevirtual on a text; the callee sees no cell -/
theorem Tr.callT {idx n i : Nat} (hM : Md C.1 M (adc C.2.2.1 [] w.length) (.ref (C.1.2.2 i) :: As) [] r1 []) (hd : decode C.2.1.2.1 pc = .ok (.invokevirtual idx, 3)) (hc : CAt C.2.1.1.cls idx M n C.2.1.2.2.2.2.1) (hi : Cond.instanceMethod M.1 ∈ tbW ∧ Cond.selects M.1.cls M.1 M.1 ∈ tbW) (hi12 : i < 12) (hcl : M.1.cls = "java/lang/String") (hst : st = As.reverse ++ .ref (C.1.2.2 i) :: rest) (hlen' : As.length = n) (hcat : Nat.ble (rest.map fun v => v.category).sum 8 = true)
    (hk : kb' + M.2.2.2.2.2.1 = kb) (hn : nb' + M.2.2.2.2.2.2 = nb) (hp : pc + 3 = pc') (kk : Tr C kb' nb' pc' lv (r1.toList ++ rest) w) : Tr C kb nb pc lv st w := by
  have hcut : ([] : List Nat).map (fun i => w[i]?) = ([] : List va_E).map some := rfl
  refine Tr.ofRun (M := M) (L := []) (wc := []) (w1 := []) (av := .ref (C.1.2.2 i) :: As) hcut rfl rfl hk hn hp ?_ (by rw [putB_same hcut]; exact kk)
  intro p l e s m args below meth c R hC H locs cells slots ls h3 h4 h5 hf
  obtain ⟨hx, hb, hml, hown, hts, hK, hnm, hRm, hI, hG⟩ := id hC
  have hrec := vk_recv (hE := hG.1) hi12 h4
  rw [← hcl] at hrec
  exact va_runV (As := As) ⟨hx, hb, hml, hown, hts⟩ (hM l) ⟨callB0 hC hc, hts _ hi.1, hts _ hi.2⟩ ⟨blind0, hrec, fun U hU hW => pre_call hI hK hG h3 h4 hcut rfl hU hW⟩ rfl hlen' h5 hst (lv_room (Nat.le_of_ble_eq_true hcat)) hd hf
end TRD
