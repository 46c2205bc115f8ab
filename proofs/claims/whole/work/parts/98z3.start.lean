/-! THE LAW FROM ITS ENTRY -/
def x00 : Xst := (false, 0, 0, 0, 0, 0, 0, (fun _ => 0), 0, (-1), zV, zX, (cV zV), (cX zX), (sBeg (cV zV) (cX zX), pBeg (cV zV), (fun _ => nI 31), 1, false, (fun _ => 0)), z0T, zB, zS, (fun _ => 0), (fun _ => 0), false, zQ, zQ, zQ)
def m00 : Mst := ((0, 0, false, lw0, (fun _ => 0), (fun _ => 0), (fun _ => 0), (fun _ => 0), (fun _ => 0)), ((fun _ => 0), (fun _ => 0), 0), 0, (fun _ => 0), (0, 0, 0, 0, 0, 0), 0, (-1), zV, zX, (bgS 0 0 (fun _ => 0) (fun _ => 0) (fun _ => 0), bpP 0 (fun _ => 0) (fun _ => 0) 5, bpL (fun _ => 0) 5, 1), (-1, false, 0, 0, (fun _ => 0), (fun _ => 0), (fun _ => 0), (fun _ => 0), (fun _ => 0)), (fun _ => 0), (fun _ => false), 0, false, (fun _ => 0), (0, (fun _ => 0), (fun _ => 0), (fun _ => 0)))
theorem ru00 : ∀ k, k < 6 → ruU k = lw0 k := by
  intro k hk
  rcases (show k = 0 ∨ k = 1 ∨ k = 2 ∨ k = 3 ∨ k = 4 ∨ k = 5 by omega) with rfl | rfl | rfl | rfl | rfl | rfl <;> rfl
theorem no0 {Q : Prop} {p : Nat} (h : p < 0) : Q := absurd h (Nat.not_lt_zero p)
set_option maxHeartbeats 4000000 in
set_option maxRecDepth 100000 in
theorem rr00 : RR 0 x00 m00 := by
  refine ⟨⟨rfl, by decide, rfl, fun _ => (by decide : 0 < 256), (by decide : 0 < 100000)⟩, ⟨⟨(by decide : 0 ≤ 5), (by decide : 0 ≤ 5), fun h z => no0 z, fun h z => no0 z, fun h p z => no0 z⟩, ⟨rfl, rfl, rfl, ru00, fun h z => no0 z, fun h z => no0 z, fun h z => no0 z, fun h z => no0 z, fun p q z => no0 z⟩, fun h z => no0 z, fun h z => no0 z, rfl⟩, ⟨⟨rfl, fun h z => no0 z, fun h z => no0 z, fun h z => no0 z, fun h z => no0 z, fun h z => no0 z, fun h z => no0 z⟩, fun p q z => no0 z, fun p z => no0 z, rfl, (by decide : 1 < 2 ^ 31), fun p z => no0 z, fun p z => no0 z, fun k _ => (by decide : 5 ≤ 5), (by decide : 0 ≤ 0), ⟨fun h z => no0 z, fun p q z => no0 z, (⟨by decide, by decide⟩ : Ib (ruU 2) 0 20), (⟨by decide, by decide⟩ : Ib (ruU 3) 0 20), (⟨by decide, by decide⟩ : Ib (ruU 4) 0 9)⟩, fun h z => no0 z⟩, ⟨⟨rfl, fun z => Bool.noConfusion z⟩, ⟨rfl, fun z => Bool.noConfusion z⟩, ⟨rfl, fun z => Bool.noConfusion z⟩⟩, ⟨rfl, rfl⟩, ⟨rfl, fun z => Bool.noConfusion z, fun k _ => (by decide : 0 < 5), fun k _ => (by decide : 0 < 5)⟩, ⟨fun k => ⟨(by decide : 0 < 1000), (by decide : 0 < 5), (by decide : 0 ≤ 5)⟩, fun k => (by decide : 0 ≤ 5)⟩⟩
set_option maxHeartbeats 4000000 in
set_option maxRecDepth 100000 in
theorem law_start (E : EnvT) (ad : Nat → Nat) (hLL : E.2.2 301 ≤ 3072) : ∃ w0, Tr (E, mL_law, ad, some (.int (bI true)), w0) 600000 7302250 0 [some (.ref (E.2.2 300)), none, none, none] [] [] := by
  obtain ⟨w0, hw⟩ := law_loop E ad 599809 7251431 hLL 513 0 x00 m00 rfl rr00
  refine ⟨w0, ?_⟩
  refine Tr.new (kb' := 599999) (nb' := 7302241) dL_law_0 nL_7 rfl rfl (Eq.refl 3) ?_
  refine Tr.dup dL_law_3 rfl (Eq.refl 4) ?_
  refine Tr.callI (kb' := 599841) (nb' := 7292164) (L := [0]) (i_own0 E _) dL_law_4 (kL_9 (Nat.le_of_ble_eq_true rfl)) iX9_init rfl rfl rfl rfl rfl rfl rfl rfl rfl rfl (Eq.refl 7) ?_
  refine Tr.pic (w' := ([(.inr (9, [.ref (ad 1), .ref (ad 3), .ref (ad 15), .ref (ad 26), .ref (ad 38), .ref (ad 39), .ref (ad 110), .ref (ad 122), .int 0]) : va_E)] ++ (tpC E ad 1 0 (0, 0, 0, 0) 0 (fun _ => 0) ++ (([(.inr (5, [.ref (ad 1), .ref (ad 4), .int 0, .int (-1)]) : va_E)] ++ viC E ad 4 zV zX) ++ (viC E ad 15 (cV zV) (cX zX) ++ (coC E ad 26 (sBeg (cV zV) (cX zX)) (pBeg (cV zV)) (fun _ => nI 31) 1 false (fun _ => 0) ++ ([aR E 4 3 (va_up (va_up (va_up (fun _ => none) 0 (some (ad 123))) 1 (some (ad 135))) 2 (some (ad 147)))] ++ (([.inr (6, [.ref (ad 40), .ref (ad 51), .ref (ad 54), .ref (ad 61), .ref (ad 68), .ref (ad 69), .ref (ad 70), .ref (ad 73), .ref (ad 74), .int 0, .int 0, .int 0, .int 0])] ++ (viC E ad 40 zV zX ++ (wyC E ad 51 (fun _ => 0) (fun _ => 0) ++ (scC E ad 54 zS ++ (scC E ad 61 zS ++ ([aR E 5 5 (va_up (va_up (va_up (va_up (va_up (fun _ => none) 0 (some (ad 75))) 1 (some (ad 82))) 2 (some (ad 89))) 3 (some (ad 96))) 4 (some (ad 103))), aI E 5 (fun _ => 0)] ++ (chC E ad 70 (fun _ => 0) (fun _ => 0) 0 ++ ([aJ E 7776 (fun _ => 0), aI E 5 (fun _ => 0)] ++ (scC E ad 75 zS ++ (scC E ad 82 zS ++ (scC E ad 89 zS ++ (scC E ad 96 zS ++ scC E ad 103 zS)))))))))))) ++ (ldC E ad 110 zB zS (fun _ => 0) ++ ([aI E 5 (fun _ => 0)] ++ (coQ E ad 123 zQ ++ (coQ E ad 135 zQ ++ coQ E ad 147 zQ)))))))))))) rfl ?_
  refine Tr.refs (q := 38) (j := 4) (n := 3) (f := (va_up (va_up (va_up (fun _ => none) 0 (some (ad 123))) 1 (some (ad 135))) 2 (some (ad 147)))) (g := (fun k => some (ad (123 + 12 * k)))) rfl (c3_e ad) ?_
  refine Tr.refs (q := 68) (j := 5) (n := 5) (f := (va_up (va_up (va_up (va_up (va_up (fun _ => none) 0 (some (ad 75))) 1 (some (ad 82))) 2 (some (ad 89))) 3 (some (ad 96))) 4 (some (ad 103)))) (g := (fun k => some (ad (39 + 36 + 7 * k)))) rfl (c5_e ad) ?_
  refine Tr.pic (w' := XS E ad x00) rfl ?_
  refine Tr.astore_n (i := 1) dL_law_7 rfl rfl rfl (Eq.refl 8) ?_
  refine Tr.new (kb' := 599840) (nb' := 7292103) dL_law_8 nL_10 rfl rfl (Eq.refl 11) ?_
  refine Tr.dup dL_law_11 rfl (Eq.refl 12) ?_
  refine Tr.callI (kb' := 599809) (nb' := 7251431) (L := [159]) (i_ref E _) dL_law_12 (kL_12 (Nat.le_of_ble_eq_true rfl)) iX10_init rfl rfl rfl rfl rfl rfl rfl rfl rfl rfl (Eq.refl 15) ?_
  refine Tr.pic (w' := WW E ad x00 m00) rfl ?_
  refine Tr.astore_n (i := 2) dL_law_15 rfl rfl rfl (Eq.refl 16) ?_
  refine Tr.iconst (v := nI (6 * 0)) dL_law_16 rfl (Eq.refl 17) ?_
  refine Tr.istore_n (i := 3) dL_law_17 rfl rfl rfl (Eq.refl 18) ?_
  exact hw
