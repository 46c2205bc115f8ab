/-! THE REFERENCE: plans, feasts -/
/-- a byte as the reference keeps it -/
def sb (n : Nat) : Int32 := if n < 128 then nI n else nI n - nI 256
theorem sb_all : ∀ n : Fin 256, (sb n.1 = nI 111 ↔ n.1 = 111) ∧ (∀ m : Fin 6, ixB (sb n.1 - nI 48) m.1 = ixB (nI n.1 - nI 48) m.1) ∧ (ixB (nI n.1 - nI 48) 5 = true → sb n.1 = nI n.1) := by decide +kernel
theorem sb_o {n : Nat} (h : n < 256) : sb n = nI 111 ↔ n = 111 := (sb_all ⟨n, h⟩).1
theorem sb_ix {n m : Nat} (h : n < 256) (hm : m ≤ 5) : ixB (sb n - nI 48) m = ixB (nI n - nI 48) m := (sb_all ⟨n, h⟩).2.1 ⟨m, by omega⟩
theorem ixB_5 {x : Int32} {m : Nat} (hm : m ≤ 5) (h : ixB x m = true) : ixB x 5 = true := by
  obtain ⟨k, hk, rfl⟩ := ixB_n hm h
  rw [ixB_i (by omega) (by decide)]
  exact decide_eq_true (by omega)
theorem sb_e {n m : Nat} (h : n < 256) (hm : m ≤ 5) (hx : ixB (nI n - nI 48) m = true) : sb n = nI n := (sb_all ⟨n, h⟩).2.2 (ixB_5 hm hx)
def mnO (ad r : Nat → Nat) (i : Nat → Int32) (nh np tp : Nat) : va_E := .inr (10, [.ref (ad 1), .int (nI tp), .int (i 2), .int (i 3), .int (i 4), .int (i 5), .int (i 6), .int (i 7), .int (i 8), .int (i 9), .int (nI nh), .int (nI np), .int (i 12), .int (i 13), .int (i 14), .int (i 15), .int (i 16), .int (i 17), .int (i 18), .ref (r 19), .ref (r 20), .ref (r 21), .ref (r 22), .ref (r 23), .ref (r 24), .ref (r 25), .ref (r 26), .ref (r 27), .ref (r 28), .ref (r 29), .ref (r 30), .ref (r 31), .ref (r 32), .ref (r 33), .ref (r 34), .ref (r 35), .ref (r 36), .int (i 37), .ref (ad 2), .ref (r 39), .int (i 40), .int (i 41), .int (i 42), .int (i 43), .int (i 44), .int (i 45), .ref (r 46), .ref (r 47), .ref (r 48), .ref (r 49), .ref (r 50), .ref (r 51), .int (i 52), .int (i 53), .ref (r 54), .int (i 55), .int (i 56), .ref (r 57), .ref (r 58), .ref (r 59), .int (i 60)])
def mnC (E : EnvT) (ad r : Nat → Nat) (i : Nat → Int32) (nh np tp : Nat) (T : Nat → Nat) (g : Nat → Int32) : List va_E := [mnO ad r i nh np tp, aB E 900 (fun k => sb (T k)), aI E 57 g]
def rM (ad r : Nat → Nat) (k : Nat) : Nat := if k = 0 then ad 1 else if k = 38 then ad 2 else r k
def iM (tp : Nat) (i : Nat → Int32) (k : Nat) : Int32 := if k = 1 then nI tp else i k
theorem mn_pl {E : EnvT} {ad r : Nat → Nat} {i : Nat → Int32} {nh np tp : Nat} {T : Nat → Nat} {S : Scn} {P : Nat → Nat} {L : Nat → Int32} {a p q x : Nat} (h : p * 4 + q < 20) : (mnC E ad r i nh np tp T (rwF S P L a)).set 2 (aI E 57 (upd (rwF S P L a) (35 + 4 * p + q) (nI x))) = mnC E ad r i nh np tp T (rwF S (upN P (p * 4 + q) x) L a) := congrArg (fun f9 => mnC E ad r i nh np tp T f9) (wr_pl' h)
set_option maxHeartbeats 4000000 in
set_option maxRecDepth 100000 in
theorem m_placeOf (E : EnvT) (ad : Nat → Nat) (T : Nat → Nat) (k nh : Nat) (hn : nh ≤ 5) (hT : T k < 256) (h : rpB nh T k = true) : Md E mX10_placeOf ad [.int (sb (T k))] [] (some (.int (nI (rpP T k)))) [] := by
  refine Md.of 0 (by decide) rfl rfl ?_
  refine Tr.iload_n (i := 0) dX10_placeOf_0 rfl rfl (Eq.refl 1) ?_
  refine Tr.bipush (v := nI 111) dX10_placeOf_1 (by decide +kernel) (Eq.refl 3) ?_
  refine Tr.icmp_ne (tgt := 10) dX10_placeOf_3 (by decide) (Eq.refl 6) (fun h3 => ?_) (fun h3 => ?_)
  · rw [sb_o hT] at h3
    have hpx : rpP T k = nN (sgI T k) := if_neg h3
    have hix : ixB (sgI T k) nh = true := by unfold rpB at h; rw [decide_eq_false h3, Bool.false_or] at h; exact h
    have hsb : sb (T k) = nI (T k) := sb_e hT hn hix
    obtain ⟨k9, hk9, hk9x⟩ := ixB_n hn hix
    rw [hpx, hk9x, nN_n (by omega), hsb]
    refine Tr.iload_n (i := 0) dX10_placeOf_10 rfl rfl (Eq.refl 11) ?_
    refine Tr.bipush (v := nI 48) dX10_placeOf_11 (by decide +kernel) (Eq.refl 13) ?_
    refine Tr.isub dX10_placeOf_13 (Eq.refl 14) ?_
    refine Tr.top (y := nI k9) hk9x ?_
    refine Tr.iret dX10_placeOf_14 rfl (by first | rfl | exact bI_nar _) ?_ ?_
    · rfl
    · rfl
  · rw [sb_o hT] at h3
    rw [show rpP T k = 5 from if_pos h3]
    refine Tr.iconst (v := nI 5) dX10_placeOf_6 (icN 5) (Eq.refl 7) ?_
    refine Tr.goto (pc' := 14) dX10_placeOf_7 (by decide) ?_
    refine Tr.iret dX10_placeOf_14 rfl (by first | rfl | exact bI_nar _) ?_ ?_
    · rfl
    · rfl
set_option maxHeartbeats 4000000 in
set_option maxRecDepth 100000 in
theorem m_plan (E : EnvT) (ad r : Nat → Nat) (i : Nat → Int32) (nh np tp : Nat) (T : Nat → Nat) (S : Scn) (P : Nat → Nat) (L : Nat → Int32) (a : Nat) (x : Int32) (hn : nh ≤ 5) (hp5 : np ≤ 5) (hl : tp ≤ 900) (hT : ∀ k, k < 900 → T k < 256) : Md E mX10_plan ad [.ref (ad 0), .int x] (mnC E ad r i nh np tp T (rwF S P L a)) (some (.int (if (ixB x np) then (if (rpA nh tp T) then 1 else -1) else -2))) (mnC E ad r i nh np 0 T (rwF S (if (ixB x np) then (if (rpA nh tp T) then rpF T (nN x) P 4 else P) else P) L a)) := by
  by_cases hc : (ixB x np) = true
  · rw [if_pos hc, if_pos hc]
    obtain ⟨p, hp, rfl⟩ := ixB_n hp5 hc
    rw [nN_n (show p < 2 ^ 31 by omega)]
    by_cases he : tp = 4
    · have hcx : (rpA nh tp T) = (itB (rpS nh T) () 4).1 := by unfold rpA; rw [decide_eq_true he, Bool.true_and]
      rw [hcx]
      clear hcx
      have hok := rp_ok (nh := nh) (T := T) 4
      generalize hR : (itB (rpS nh T) () 4) = R at *
      refine Md.of 2 (by decide) rfl rfl ?_
      refine Tr.aload_n (i := 0) dX10_plan_0 rfl rfl (Eq.refl 1) ?_
      refine Tr.getf dX10_plan_1 fX10_71 rfl rfl (Eq.refl 4) ?_
      refine Tr.istore_n (i := 2) dX10_plan_4 rfl rfl rfl (Eq.refl 5) ?_
      refine Tr.aload_n (i := 0) dX10_plan_5 rfl rfl (Eq.refl 6) ?_
      refine Tr.iconst (v := nI 0) dX10_plan_6 (icN 0) (Eq.refl 7) ?_
      refine Tr.putf dX10_plan_7 pX10_71 rfl (rfl) (rfl) rfl (Eq.refl 10) ?_
      refine Tr.pic (w' := (mnC E ad r i nh np 0 T (rwF S P L a))) rfl ?_
      refine Tr.aload_n (i := 0) dX10_plan_10 rfl rfl (Eq.refl 11) ?_
      refine Tr.iload_n (i := 1) dX10_plan_11 rfl rfl (Eq.refl 12) ?_
      refine Tr.callVr (L := [0]) (m_isPerson E _ (rM ad r) (iM 0 i) nh np (nI p) hp5) dX10_plan_12 (kX10_309 (Nat.le_of_ble_eq_true rfl)) iX10_isPerson rfl rfl rfl rfl rfl rfl rfl rfl rfl (Eq.refl 15) ?_
      refine Tr.if_neB (tgt := 21) dX10_plan_15 (by decide) (Eq.refl 18) (fun h15 => ?_) (fun h15 => ?_)
      · refine Tr.iload_n (i := 2) dX10_plan_21 rfl rfl (Eq.refl 22) ?_
        refine Tr.iconst (v := nI 4) dX10_plan_22 (icN 4) (Eq.refl 23) ?_
        refine Tr.icmp_eqN (tgt := 28) dX10_plan_23 (by decide) (Eq.refl 26) (by omega) (by omega) (fun h23 => ?_) (fun h23 => ?_)
        · refine Tr.iconst (v := nI 0) dX10_plan_28 (icN 0) (Eq.refl 29) ?_
          refine Tr.istore_n (i := 3) dX10_plan_29 rfl rfl rfl (Eq.refl 30) ?_
          skip
          refine Tr.mask [true, true, false, true] (lv' := [some (.ref (ad 0)), some (.int (nI p)), none, some (.int (nI 0))]) rfl ?_
          refine Tr.pic (w' := (mnC E ad r i nh np 0 T (rwF S P L a))) rfl ?_
          refine loopD (P := fun j => (itB (rpS nh T) () j).1 = true → Tr _ 0 0 30 [some (.ref (ad 0)), some (.int (nI p)), none, some (.int (nI j))] [] (mnC E ad r i nh np 0 T (rwF S P L a))) 4 (fun hn9 => ?_) (fun j hj ih hn9 => ?_) rfl
          · rw [hR] at hn9
            rw [if_pos hn9, if_pos hn9]
            refine Tr.iload_n (i := 3) dX10_plan_30 rfl rfl (Eq.refl 31) ?_
            refine Tr.iconst (v := nI 4) dX10_plan_31 (icN 4) (Eq.refl 32) ?_
            refine Tr.icmp_geN (tgt := 70) dX10_plan_32 (by decide) (Eq.refl 35) (by omega) (by omega) (fun h32 => ?_) (fun h32 => ?_)
            · refine Tr.iconst (v := nI 0) dX10_plan_70 (icN 0) (Eq.refl 71) ?_
              refine Tr.istore_n (i := 3) dX10_plan_71 rfl rfl rfl (Eq.refl 72) ?_
              skip
              refine Tr.mask [true, true, false, true] (lv' := [some (.ref (ad 0)), some (.int (nI p)), none, some (.int (nI 0))]) rfl ?_
              refine Tr.pic (w' := (mnC E ad r i nh np 0 T (rwF S (rpF T p P 0) L a))) rfl ?_
              refine loopD (P := fun j => Tr _ 0 0 72 [some (.ref (ad 0)), some (.int (nI p)), none, some (.int (nI j))] [] (mnC E ad r i nh np 0 T (rwF S (rpF T p P j) L a))) 4 ?_ (fun j hj ih => ?_)
              · refine Tr.iload_n (i := 3) dX10_plan_72 rfl rfl (Eq.refl 73) ?_
                refine Tr.iconst (v := nI 4) dX10_plan_73 (icN 4) (Eq.refl 74) ?_
                refine Tr.icmp_geN (tgt := 105) dX10_plan_74 (by decide) (Eq.refl 77) (by omega) (by omega) (fun h74 => ?_) (fun h74 => ?_)
                · refine Tr.iconst (v := nI 1) dX10_plan_105 (icN 1) (Eq.refl 106) ?_
                  refine Tr.iret dX10_plan_106 rfl (by first | rfl | exact bI_nar _) ?_ ?_
                  · rfl
                  · rfl
                · exact absurd h74 (by omega)
              · have hu : rpF T p P (j + 1) = upN (rpF T p P j) (p * 4 + j) (rpP T j) := rfl
                rw [hu] at ih
                clear hu
                have hok3 := hok hn9 j hj
                have hTj := hT j (by omega)
                generalize rpF T p P j = P1 at *
                refine Tr.iload_n (i := 3) dX10_plan_72 rfl rfl (Eq.refl 73) ?_
                refine Tr.iconst (v := nI 4) dX10_plan_73 (icN 4) (Eq.refl 74) ?_
                refine Tr.icmp_geN (tgt := 105) dX10_plan_74 (by decide) (Eq.refl 77) (by omega) (by omega) (fun h74 => ?_) (fun h74 => ?_)
                · exact absurd h74 (by omega)
                · refine Tr.aload_n (i := 0) dX10_plan_77 rfl rfl (Eq.refl 78) ?_
                  refine Tr.getf dX10_plan_78 fX10_219 rfl rfl (Eq.refl 81) ?_
                  refine Tr.bipush (v := nI 35) dX10_plan_81 (by decide +kernel) (Eq.refl 83) ?_
                  refine Tr.iconst (v := nI 4) dX10_plan_83 (icN 4) (Eq.refl 84) ?_
                  refine Tr.iload_n (i := 1) dX10_plan_84 rfl rfl (Eq.refl 85) ?_
                  refine Tr.imulN dX10_plan_85 (Eq.refl 86) ?_
                  refine Tr.iaddN dX10_plan_86 (Eq.refl 87) ?_
                  refine Tr.iload_n (i := 3) dX10_plan_87 rfl rfl (Eq.refl 88) ?_
                  refine Tr.iaddN dX10_plan_88 (Eq.refl 89) ?_
                  refine Tr.aload_n (i := 0) dX10_plan_89 rfl rfl (Eq.refl 90) ?_
                  refine Tr.getf dX10_plan_90 fX10_16 rfl rfl (Eq.refl 93) ?_
                  refine Tr.iload_n (i := 3) dX10_plan_93 rfl rfl (Eq.refl 94) ?_
                  refine Tr.baldN dX10_plan_94 rfl (by omega) (by decide) (Eq.refl 95) ?_
                  refine Tr.callSr (L := []) (m_placeOf E _ T j nh hn hTj hok3) dX10_plan_95 (kX10_374 (Nat.le_of_ble_eq_true rfl)) sX10_placeOf rfl rfl rfl rfl rfl rfl rfl (Eq.refl 98) ?_
                  refine Tr.iastN dX10_plan_98 rfl (by omega) (by decide) (Eq.refl 99) ?_
                  refine Tr.pic (mn_pl (by omega)) ?_
                  refine Tr.iincN dX10_plan_99 rfl rfl rfl (Eq.refl 102) ?_
                  refine Tr.goto (pc' := 72) dX10_plan_102 (by decide) ?_
                  exact Tr.eqs rfl rfl rfl ih
            · exact absurd h32 (by omega)
          · have hs := itB_s hn9
            have hf : (itB (rpS nh T) () (j + 1)).1 = false → R = (itB (rpS nh T) () (j + 1)) := fun z9 => by rw [← hR]; exact itB_fr (Nat.succ_le_of_lt hj) z9
            rw [hs] at ih hf
            have hu : rpS nh T j (itB (rpS nh T) () j).2 = (rpB nh T j, ()) := rfl
            rw [hu] at ih hf
            clear hu hs
            have hTj := hT j (by omega)
            refine Tr.iload_n (i := 3) dX10_plan_30 rfl rfl (Eq.refl 31) ?_
            refine Tr.iconst (v := nI 4) dX10_plan_31 (icN 4) (Eq.refl 32) ?_
            refine Tr.icmp_geN (tgt := 70) dX10_plan_32 (by decide) (Eq.refl 35) (by omega) (by omega) (fun h32 => ?_) (fun h32 => ?_)
            · exact absurd h32 (by omega)
            · refine Tr.aload_n (i := 0) dX10_plan_35 rfl rfl (Eq.refl 36) ?_
              refine Tr.getf dX10_plan_36 fX10_16 rfl rfl (Eq.refl 39) ?_
              refine Tr.iload_n (i := 3) dX10_plan_39 rfl rfl (Eq.refl 40) ?_
              refine Tr.baldN dX10_plan_40 rfl (by omega) (by decide) (Eq.refl 41) ?_
              refine Tr.bipush (v := nI 111) dX10_plan_41 (by decide +kernel) (Eq.refl 43) ?_
              refine Tr.icmp_eq (tgt := 64) dX10_plan_43 (by decide) (Eq.refl 46) (fun h43 => ?_) (fun h43 => ?_)
              · rw [sb_o hTj] at h43
                have hrb : rpB nh T j = true := by unfold rpB; rw [decide_eq_true h43, Bool.true_or]
                refine Tr.iincN dX10_plan_64 rfl rfl rfl (Eq.refl 67) ?_
                refine Tr.goto (pc' := 30) dX10_plan_67 (by decide) ?_
                exact Tr.eqs rfl rfl rfl (ih hrb)
              · rw [sb_o hTj] at h43
                refine Tr.aload_n (i := 0) dX10_plan_46 rfl rfl (Eq.refl 47) ?_
                refine Tr.aload_n (i := 0) dX10_plan_47 rfl rfl (Eq.refl 48) ?_
                refine Tr.getf dX10_plan_48 fX10_16 rfl rfl (Eq.refl 51) ?_
                refine Tr.iload_n (i := 3) dX10_plan_51 rfl rfl (Eq.refl 52) ?_
                refine Tr.baldN dX10_plan_52 rfl (by omega) (by decide) (Eq.refl 53) ?_
                refine Tr.bipush (v := nI 48) dX10_plan_53 (by decide +kernel) (Eq.refl 55) ?_
                refine Tr.isub dX10_plan_55 (Eq.refl 56) ?_
                refine Tr.callVr (L := [0]) (m_isHouse E _ (rM ad r) (iM 0 i) nh np (sb (T j) - nI 48) hn) dX10_plan_56 (kX10_371 (Nat.le_of_ble_eq_true rfl)) iX10_isHouse rfl rfl rfl rfl rfl rfl rfl rfl rfl (Eq.refl 59) ?_
                rw [sb_ix hTj hn]
                refine Tr.if_neB (tgt := 64) dX10_plan_59 (by decide) (Eq.refl 62) (fun h59 => ?_) (fun h59 => ?_)
                · have hrb : rpB nh T j = true := by unfold rpB; rw [show ixB (sgI T j) nh = true from h59, Bool.or_true]
                  refine Tr.iincN dX10_plan_64 rfl rfl rfl (Eq.refl 67) ?_
                  refine Tr.goto (pc' := 30) dX10_plan_67 (by decide) ?_
                  exact Tr.eqs rfl rfl rfl (ih hrb)
                · have hrb : rpB nh T j = false := by unfold rpB; rw [show ixB (sgI T j) nh = false from h59, decide_eq_false h43]; rfl
                  have hRf : R.1 = false := by rw [hf hrb]; exact hrb
                  rw [if_neg (by rw [hRf]; decide), if_neg (by rw [hRf]; decide)]
                  refine Tr.iconst (v := (-1)) dX10_plan_62 (by decide +kernel) (Eq.refl 63) ?_
                  refine Tr.iret dX10_plan_63 rfl (by first | rfl | exact bI_nar _) ?_ ?_
                  · rfl
                  · rfl
        · exact absurd he h23
      · exact absurd (hc.symm.trans h15) (by decide)
    · have hcx : (rpA nh tp T) = false := by unfold rpA; rw [decide_eq_false he, Bool.false_and]
      rw [hcx, if_neg (by decide), if_neg (by decide)]
      refine Md.of 2 (by decide) rfl rfl ?_
      refine Tr.aload_n (i := 0) dX10_plan_0 rfl rfl (Eq.refl 1) ?_
      refine Tr.getf dX10_plan_1 fX10_71 rfl rfl (Eq.refl 4) ?_
      refine Tr.istore_n (i := 2) dX10_plan_4 rfl rfl rfl (Eq.refl 5) ?_
      refine Tr.aload_n (i := 0) dX10_plan_5 rfl rfl (Eq.refl 6) ?_
      refine Tr.iconst (v := nI 0) dX10_plan_6 (icN 0) (Eq.refl 7) ?_
      refine Tr.putf dX10_plan_7 pX10_71 rfl (rfl) (rfl) rfl (Eq.refl 10) ?_
      refine Tr.pic (w' := (mnC E ad r i nh np 0 T (rwF S P L a))) rfl ?_
      refine Tr.aload_n (i := 0) dX10_plan_10 rfl rfl (Eq.refl 11) ?_
      refine Tr.iload_n (i := 1) dX10_plan_11 rfl rfl (Eq.refl 12) ?_
      refine Tr.callVr (L := [0]) (m_isPerson E _ (rM ad r) (iM 0 i) nh np (nI p) hp5) dX10_plan_12 (kX10_309 (Nat.le_of_ble_eq_true rfl)) iX10_isPerson rfl rfl rfl rfl rfl rfl rfl rfl rfl (Eq.refl 15) ?_
      refine Tr.if_neB (tgt := 21) dX10_plan_15 (by decide) (Eq.refl 18) (fun h15 => ?_) (fun h15 => ?_)
      · refine Tr.iload_n (i := 2) dX10_plan_21 rfl rfl (Eq.refl 22) ?_
        refine Tr.iconst (v := nI 4) dX10_plan_22 (icN 4) (Eq.refl 23) ?_
        refine Tr.icmp_eqN (tgt := 28) dX10_plan_23 (by decide) (Eq.refl 26) (by omega) (by omega) (fun h23 => ?_) (fun h23 => ?_)
        · exact absurd h23 he
        · refine Tr.iconst (v := (-1)) dX10_plan_26 (by decide +kernel) (Eq.refl 27) ?_
          refine Tr.iret dX10_plan_27 rfl (by first | rfl | exact bI_nar _) ?_ ?_
          · rfl
          · rfl
      · exact absurd (hc.symm.trans h15) (by decide)
  · rw [if_neg hc, if_neg hc]
    refine Md.of 2 (by decide) rfl rfl ?_
    refine Tr.aload_n (i := 0) dX10_plan_0 rfl rfl (Eq.refl 1) ?_
    refine Tr.getf dX10_plan_1 fX10_71 rfl rfl (Eq.refl 4) ?_
    refine Tr.istore_n (i := 2) dX10_plan_4 rfl rfl rfl (Eq.refl 5) ?_
    refine Tr.aload_n (i := 0) dX10_plan_5 rfl rfl (Eq.refl 6) ?_
    refine Tr.iconst (v := nI 0) dX10_plan_6 (icN 0) (Eq.refl 7) ?_
    refine Tr.putf dX10_plan_7 pX10_71 rfl (rfl) (rfl) rfl (Eq.refl 10) ?_
    refine Tr.pic (w' := (mnC E ad r i nh np 0 T (rwF S P L a))) rfl ?_
    refine Tr.aload_n (i := 0) dX10_plan_10 rfl rfl (Eq.refl 11) ?_
    refine Tr.iload_n (i := 1) dX10_plan_11 rfl rfl (Eq.refl 12) ?_
    refine Tr.callVr (L := [0]) (m_isPerson E _ (rM ad r) (iM 0 i) nh np x hp5) dX10_plan_12 (kX10_309 (Nat.le_of_ble_eq_true rfl)) iX10_isPerson rfl rfl rfl rfl rfl rfl rfl rfl rfl (Eq.refl 15) ?_
    refine Tr.if_neB (tgt := 21) dX10_plan_15 (by decide) (Eq.refl 18) (fun h15 => ?_) (fun h15 => ?_)
    · exact absurd h15 hc
    · refine Tr.bipush (v := (-2)) dX10_plan_18 (by decide +kernel) (Eq.refl 20) ?_
      refine Tr.iret dX10_plan_20 rfl (by first | rfl | exact bI_nar _) ?_ ?_
      · rfl
      · rfl
def mfeO (ad r : Nat → Nat) (i : Nat → Int32) (np tp fn : Nat) (hb : Bool) : va_E := .inr (10, [.ref (ad 1), .int (nI tp), .int (i 2), .int (i 3), .int (i 4), .int (i 5), .int (i 6), .int (i 7), .int (i 8), .int (i 9), .int (i 10), .int (nI np), .int (i 12), .int (i 13), .int (i 14), .int (i 15), .int (i 16), .int (i 17), .int (i 18), .ref (r 19), .ref (r 20), .ref (r 21), .ref (r 22), .ref (r 23), .ref (r 24), .ref (r 25), .ref (r 26), .ref (r 27), .ref (r 28), .ref (r 29), .ref (r 30), .ref (r 31), .ref (r 32), .ref (r 33), .ref (r 34), .ref (r 35), .ref (r 36), .int (i 37), .ref (r 38), .ref (r 39), .int (i 40), .int (i 41), .int (i 42), .int (i 43), .int (i 44), .int (i 45), .ref (r 46), .ref (r 47), .ref (r 48), .ref (r 49), .ref (r 50), .ref (r 51), .int (i 52), .int (i 53), .ref (ad 2), .int (nI fn), .int (bI hb), .ref (r 57), .ref (r 58), .ref (r 59), .int (i 60)])
def mfC (E : EnvT) (ad r : Nat → Nat) (i : Nat → Int32) (np tp fn : Nat) (hb : Bool) (T F : Nat → Nat) : List va_E := [mfeO ad r i np tp fn hb, aB E 900 (fun k => sb (T k)), aI E 5 (fun k => nI (F k))]
theorem mf_le {E E2 : EnvT} {ad r ad2 r2 : Nat → Nat} {i i2 : Nat → Int32} {np tp fn np2 tp2 fn2 : Nat} {hb hb2 : Bool} {T F T2 F2 : Nat → Nat} : (mfC E ad r i np tp fn hb T F).length ≤ (mfC E2 ad2 r2 i2 np2 tp2 fn2 hb2 T2 F2).length := Nat.le_refl 3
def rFe (ad r : Nat → Nat) (k : Nat) : Nat := if k = 0 then ad 1 else if k = 54 then ad 2 else r k
def iFe (tp fn : Nat) (hb : Bool) (i : Nat → Int32) (k : Nat) : Int32 := if k = 1 then nI tp else if k = 55 then nI fn else if k = 56 then bI hb else i k
/-- from p so many turns on, by the row alone -/
def mbF (F : Nat → Nat) (p : Nat) : Nat → Nat
  | 0 => p
  | n + 1 => F (mbF F p n)
theorem mbF_lt {F : Nat → Nat} {p : Nat} (hF : ∀ k, k < 5 → F k < 5) (hp : p < 5) : ∀ n, mbF F p n < 5 := by
  intro n
  induction n with
  | zero => exact hp
  | succ n ih => exact hF _ ih
set_option maxHeartbeats 4000000 in
set_option maxRecDepth 100000 in
theorem m_behindTurns (E : EnvT) (ad r : Nat → Nat) (i : Nat → Int32) (np tp fn : Nat) (hb : Bool) (T F : Nat → Nat) (p n : Nat) (hF : ∀ k, k < 5 → F k < 5) (hp : p < 5) (hn : n < 2 ^ 31) : Md E mX10_behindTurns ad [.ref (ad 0), .int (nI p), .int (nI n)] (mfC E ad r i np tp fn hb T F) (some (.int (nI (mbF F p n)))) (mfC E ad r i np tp fn hb T F) := by
  refine Md.of 2 (by decide) rfl rfl ?_
  refine Tr.iload_n (i := 1) dX10_behindTurns_0 rfl rfl (Eq.refl 1) ?_
  refine Tr.istore_n (i := 3) dX10_behindTurns_1 rfl rfl rfl (Eq.refl 2) ?_
  refine Tr.iconst (v := nI 0) dX10_behindTurns_2 (icN 0) (Eq.refl 3) ?_
  refine Tr.istore dX10_behindTurns_3 rfl rfl (Eq.refl 5) ?_
  refine Tr.mask [true, true, true, true, true] (lv' := [some (.ref (ad 0)), some (.int (nI p)), some (.int (nI n)), some (.int (nI (mbF F p 0))), some (.int (nI 0))]) rfl ?_
  refine loopD (P := fun j => Tr _ 0 0 5 [some (.ref (ad 0)), some (.int (nI p)), some (.int (nI n)), some (.int (nI (mbF F p j))), some (.int (nI j))] [] (mfC E ad r i np tp fn hb T F)) n ?_ (fun j hj ih => ?_)
  · refine Tr.iload dX10_behindTurns_5 rfl (Eq.refl 7) ?_
    refine Tr.iload_n (i := 2) dX10_behindTurns_7 rfl rfl (Eq.refl 8) ?_
    refine Tr.icmp_geN (tgt := 24) dX10_behindTurns_8 (by decide) (Eq.refl 11) (by omega) (by omega) (fun h8 => ?_) (fun h8 => ?_)
    · refine Tr.iload_n (i := 3) dX10_behindTurns_24 rfl rfl (Eq.refl 25) ?_
      refine Tr.iret dX10_behindTurns_25 rfl (by first | rfl | exact bI_nar _) ?_ ?_
      · rfl
      · rfl
    · exact absurd h8 (by omega)
  · have hl := mbF_lt hF hp j
    refine Tr.iload dX10_behindTurns_5 rfl (Eq.refl 7) ?_
    refine Tr.iload_n (i := 2) dX10_behindTurns_7 rfl rfl (Eq.refl 8) ?_
    refine Tr.icmp_geN (tgt := 24) dX10_behindTurns_8 (by decide) (Eq.refl 11) (by omega) (by omega) (fun h8 => ?_) (fun h8 => ?_)
    · exact absurd h8 (by omega)
    · refine Tr.aload_n (i := 0) dX10_behindTurns_11 rfl rfl (Eq.refl 12) ?_
      refine Tr.getf dX10_behindTurns_12 fX10_256 rfl rfl (Eq.refl 15) ?_
      refine Tr.iload_n (i := 3) dX10_behindTurns_15 rfl rfl (Eq.refl 16) ?_
      refine Tr.ialdN dX10_behindTurns_16 rfl (by omega) (by decide) (Eq.refl 17) ?_
      refine Tr.istore_n (i := 3) dX10_behindTurns_17 rfl rfl rfl (Eq.refl 18) ?_
      refine Tr.iincN dX10_behindTurns_18 rfl rfl rfl (Eq.refl 21) ?_
      refine Tr.goto (pc' := 5) dX10_behindTurns_21 (by decide) ?_
      exact Tr.eqs rfl rfl rfl ih
def ahI (F : Nat → Nat) (t p : Nat) (_ : Unit) : Bool × Unit := (decide (mbF F p t = p), ())
def ahR (F : Nat → Nat) (n t : Nat) : Bool := (itB (ahI F t) () n).1
set_option maxHeartbeats 4000000 in
set_option maxRecDepth 100000 in
theorem m_allHome (E : EnvT) (ad r : Nat → Nat) (i : Nat → Int32) (np tp fn : Nat) (hb : Bool) (T F : Nat → Nat) (t : Nat) (hf : fn ≤ 5) (hF : ∀ k, k < 5 → F k < 5) (ht : t < 2 ^ 31) : Md E mX10_allHome ad [.ref (ad 0), .int (nI t)] (mfC E ad r i np tp fn hb T F) (some (.int (bI (ahR F fn t)))) (mfC E ad r i np tp fn hb T F) := by
  show Md E _ ad _ _ (some (.int (bI (itB (ahI F t) () fn).1))) _
  generalize hR : itB (ahI F t) () fn = R
  refine Md.of 1 (by decide) rfl rfl ?_
  refine Tr.iconst (v := nI 0) dX10_allHome_0 (icN 0) (Eq.refl 1) ?_
  refine Tr.istore_n (i := 2) dX10_allHome_1 rfl rfl rfl (Eq.refl 2) ?_
  refine Tr.mask [true, true, true] (lv' := [some (.ref (ad 0)), some (.int (nI t)), some (.int (nI 0))]) rfl ?_
  refine loopD (P := fun j => (itB (ahI F t) () j).1 = true → Tr _ 0 0 2 [some (.ref (ad 0)), some (.int (nI t)), some (.int (nI j))] [] (mfC E ad r i np tp fn hb T F)) fn (fun hn => ?_) (fun j hj ih hn => ?_) rfl
  · rw [hR] at hn
    refine Tr.iload_n (i := 2) dX10_allHome_2 rfl rfl (Eq.refl 3) ?_
    refine Tr.aload_n (i := 0) dX10_allHome_3 rfl rfl (Eq.refl 4) ?_
    refine Tr.getf dX10_allHome_4 fX10_463 rfl rfl (Eq.refl 7) ?_
    refine Tr.icmp_geN (tgt := 28) dX10_allHome_7 (by decide) (Eq.refl 10) (by omega) (by omega) (fun h7 => ?_) (fun h7 => ?_)
    · refine Tr.iconst (v := nI 1) dX10_allHome_28 (icN 1) (Eq.refl 29) ?_
      refine Tr.iret dX10_allHome_29 rfl (by first | rfl | exact bI_nar _) ?_ ?_
      · rw [hn]; rfl
      · rfl
    · exact absurd h7 (by omega)
  · have hs := itB_s hn
    have hf9 : (itB (ahI F t) () (j + 1)).1 = false → R = itB (ahI F t) () (j + 1) := fun z9 => by rw [← hR]; exact itB_fr (Nat.succ_le_of_lt hj) z9
    rw [hs] at ih hf9
    have hu : ahI F t j (itB (ahI F t) () j).2 = (decide (mbF F j t = j), ()) := rfl
    rw [hu] at ih hf9
    clear hu hs
    have hl := mbF_lt hF (show j < 5 by omega) t
    refine Tr.iload_n (i := 2) dX10_allHome_2 rfl rfl (Eq.refl 3) ?_
    refine Tr.aload_n (i := 0) dX10_allHome_3 rfl rfl (Eq.refl 4) ?_
    refine Tr.getf dX10_allHome_4 fX10_463 rfl rfl (Eq.refl 7) ?_
    refine Tr.icmp_geN (tgt := 28) dX10_allHome_7 (by decide) (Eq.refl 10) (by omega) (by omega) (fun h7 => ?_) (fun h7 => ?_)
    · exact absurd h7 (by omega)
    · refine Tr.aload_n (i := 0) dX10_allHome_10 rfl rfl (Eq.refl 11) ?_
      refine Tr.iload_n (i := 2) dX10_allHome_11 rfl rfl (Eq.refl 12) ?_
      refine Tr.iload_n (i := 1) dX10_allHome_12 rfl rfl (Eq.refl 13) ?_
      refine Tr.callVs (m_behindTurns E ad r i np tp fn hb T F j t hF (by omega) ht) dX10_allHome_13 (kX10_469 (Nat.le_of_ble_eq_true rfl)) iX10_behindTurns rfl rfl rfl rfl rfl (mf_le) rfl rfl (Eq.refl 16) ?_
      refine Tr.iload_n (i := 2) dX10_allHome_16 rfl rfl (Eq.refl 17) ?_
      refine Tr.icmp_eqN (tgt := 22) dX10_allHome_17 (by decide) (Eq.refl 20) (by omega) (by omega) (fun h17 => ?_) (fun h17 => ?_)
      · refine Tr.iincN dX10_allHome_22 rfl rfl rfl (Eq.refl 25) ?_
        refine Tr.goto (pc' := 2) dX10_allHome_25 (by decide) ?_
        exact Tr.eqs rfl rfl rfl (ih (decide_eq_true h17))
      · refine Tr.iconst (v := nI 0) dX10_allHome_20 (icN 0) (Eq.refl 21) ?_
        refine Tr.iret dX10_allHome_21 rfl (by first | rfl | exact bI_nar _) ?_ ?_
        · rw [hf9 (decide_eq_false h17)]; rw [show (decide (mbF F j t = j), ()).1 = false from decide_eq_false h17]; rfl
        · rfl
set_option maxHeartbeats 4000000 in
set_option maxRecDepth 100000 in
theorem mf_isPerson (E : EnvT) (ad r : Nat → Nat) (i : Nat → Int32) (np tp fn : Nat) (hb : Bool) (T F : Nat → Nat) (x : Int32) (h : np ≤ 5) : Md E mX10_isPerson ad [.ref (ad 0), .int x] (mfC E ad r i np tp fn hb T F) (some (.int (bI (ixB x np)))) (mfC E ad r i np tp fn hb T F) := by
  refine Md.of 0 (by decide) rfl rfl ?_
  refine Tr.iload_n (i := 1) dX10_isPerson_0 rfl rfl (Eq.refl 1) ?_
  refine Tr.i2l dX10_isPerson_1 rfl (Eq.refl 2) ?_
  refine Tr.lconst (v := 0) dX10_isPerson_2 (by decide +kernel) (Eq.refl 3) ?_
  refine Tr.aload_n (i := 0) dX10_isPerson_3 rfl rfl (Eq.refl 4) ?_
  refine Tr.getf dX10_isPerson_4 fX10_285 rfl rfl (Eq.refl 7) ?_
  refine Tr.i2l dX10_isPerson_7 rfl (Eq.refl 8) ?_
  refine Tr.lconst (v := 1) dX10_isPerson_8 (by decide +kernel) (Eq.refl 9) ?_
  refine Tr.lsub dX10_isPerson_9 (Eq.refl 10) ?_
  refine Tr.callSr (L := []) (m_in E _ x.toInt64 0 ((nI np).toInt64 - 1)) dX10_isPerson_10 (kX10_52 (Nat.le_of_ble_eq_true rfl)) sX10_in rfl rfl rfl rfl rfl rfl rfl (Eq.refl 13) ?_
  rw [in_ix x h]
  refine Tr.iret dX10_isPerson_13 rfl (by first | rfl | exact bI_nar _) ?_ ?_
  · rfl
  · rfl
set_option maxHeartbeats 4000000 in
set_option maxRecDepth 100000 in
theorem m_turned (E : EnvT) (ad r : Nat → Nat) (i : Nat → Int32) (np tp fn : Nat) (hb : Bool) (T F : Nat → Nat) (x y : Int32) (hp5 : np ≤ 5) (hF : ∀ k, k < 5 → F k < 5) : Md E mX10_turned ad [.ref (ad 0), .int x, .int y] (mfC E ad r i np tp fn hb T F) (some (.int (if (ixB x np && rgB y (nI 0) (nI 999)) then (if hb then nI (mbF F (nN x) (nN y)) else -1) else -2))) (mfC E ad r i np tp fn hb T F) := by
  by_cases hc : (ixB x np && rgB y (nI 0) (nI 999)) = true
  · rw [if_pos hc]
    have hc1 : ixB x np = true := (Bool.and_eq_true_iff.mp hc).1
    have hc2 : rgB y (nI 0) (nI 999) = true := (Bool.and_eq_true_iff.mp hc).2
    obtain ⟨p, hp, rfl⟩ := ixB_n hp5 hc1
    obtain ⟨k, -, hk, rfl⟩ := rgB_n (by decide) (by decide) hc2
    rw [nN_n (show p < 2 ^ 31 by omega), nN_n (show k < 2 ^ 31 by omega)]
    refine Md.of 0 (by decide) rfl rfl ?_
    refine Tr.aload_n (i := 0) dX10_turned_0 rfl rfl (Eq.refl 1) ?_
    refine Tr.iload_n (i := 1) dX10_turned_1 rfl rfl (Eq.refl 2) ?_
    refine Tr.callVs (mf_isPerson E ad r i np tp fn hb T F (nI p) hp5) dX10_turned_2 (kX10_309 (Nat.le_of_ble_eq_true rfl)) iX10_isPerson rfl rfl rfl rfl rfl (mf_le) rfl rfl (Eq.refl 5) ?_
    refine Tr.if_eqB (tgt := 20) dX10_turned_5 (by decide) (Eq.refl 8) (fun h5 => ?_) (fun h5 => ?_)
    · exact absurd (hc1.symm.trans h5) (by decide)
    · refine Tr.iload_n (i := 2) dX10_turned_8 rfl rfl (Eq.refl 9) ?_
      refine Tr.i2l dX10_turned_9 rfl (Eq.refl 10) ?_
      refine Tr.lconst (v := 0) dX10_turned_10 (by decide +kernel) (Eq.refl 11) ?_
      refine Tr.ldc2 dX10_turned_11 qX10_472 (Eq.refl 14) ?_
      refine Tr.callSr (L := []) (m_in E _ (nI k).toInt64 0 999) dX10_turned_14 (kX10_52 (Nat.le_of_ble_eq_true rfl)) sX10_in rfl rfl rfl rfl rfl rfl rfl (Eq.refl 17) ?_
      rw [in32' (nI k) (a := nI 0) (b := nI 999) (by decide) (by decide)]
      refine Tr.if_neB (tgt := 25) dX10_turned_17 (by decide) (Eq.refl 20) (fun h17 => ?_) (fun h17 => ?_)
      · refine Tr.aload_n (i := 0) dX10_turned_25 rfl rfl (Eq.refl 26) ?_
        refine Tr.getf dX10_turned_26 fX10_294 rfl rfl (Eq.refl 29) ?_
        refine Tr.if_eqB (tgt := 41) dX10_turned_29 (by decide) (Eq.refl 32) (fun h29 => ?_) (fun h29 => ?_)
        · rw [if_neg (by rw [h29]; decide)]
          refine Tr.iconst (v := (-1)) dX10_turned_41 (by decide +kernel) (Eq.refl 42) ?_
          refine Tr.iret dX10_turned_42 rfl (by first | rfl | exact bI_nar _) ?_ ?_
          · rfl
          · rfl
        · rw [if_pos h29]
          refine Tr.aload_n (i := 0) dX10_turned_32 rfl rfl (Eq.refl 33) ?_
          refine Tr.iload_n (i := 1) dX10_turned_33 rfl rfl (Eq.refl 34) ?_
          refine Tr.iload_n (i := 2) dX10_turned_34 rfl rfl (Eq.refl 35) ?_
          refine Tr.callVs (m_behindTurns E ad r i np tp fn hb T F p k hF (by omega) (by omega)) dX10_turned_35 (kX10_469 (Nat.le_of_ble_eq_true rfl)) iX10_behindTurns rfl rfl rfl rfl rfl (mf_le) rfl rfl (Eq.refl 38) ?_
          refine Tr.goto (pc' := 42) dX10_turned_38 (by decide) ?_
          refine Tr.iret dX10_turned_42 rfl (by first | rfl | exact bI_nar _) ?_ ?_
          · rfl
          · rfl
      · exact absurd (hc2.symm.trans h17) (by decide)
  · rw [if_neg hc]
    refine Md.of 0 (by decide) rfl rfl ?_
    refine Tr.aload_n (i := 0) dX10_turned_0 rfl rfl (Eq.refl 1) ?_
    refine Tr.iload_n (i := 1) dX10_turned_1 rfl rfl (Eq.refl 2) ?_
    refine Tr.callVs (mf_isPerson E ad r i np tp fn hb T F x hp5) dX10_turned_2 (kX10_309 (Nat.le_of_ble_eq_true rfl)) iX10_isPerson rfl rfl rfl rfl rfl (mf_le) rfl rfl (Eq.refl 5) ?_
    refine Tr.if_eqB (tgt := 20) dX10_turned_5 (by decide) (Eq.refl 8) (fun h5 => ?_) (fun h5 => ?_)
    · refine Tr.bipush (v := (-2)) dX10_turned_20 (by decide +kernel) (Eq.refl 22) ?_
      refine Tr.goto (pc' := 42) dX10_turned_22 (by decide) ?_
      refine Tr.iret dX10_turned_42 rfl (by first | rfl | exact bI_nar _) ?_ ?_
      · rfl
      · rfl
    · refine Tr.iload_n (i := 2) dX10_turned_8 rfl rfl (Eq.refl 9) ?_
      refine Tr.i2l dX10_turned_9 rfl (Eq.refl 10) ?_
      refine Tr.lconst (v := 0) dX10_turned_10 (by decide +kernel) (Eq.refl 11) ?_
      refine Tr.ldc2 dX10_turned_11 qX10_472 (Eq.refl 14) ?_
      refine Tr.callSr (L := []) (m_in E _ y.toInt64 0 999) dX10_turned_14 (kX10_52 (Nat.le_of_ble_eq_true rfl)) sX10_in rfl rfl rfl rfl rfl rfl rfl (Eq.refl 17) ?_
      rw [in32' y (a := nI 0) (b := nI 999) (by decide) (by decide)]
      refine Tr.if_neB (tgt := 25) dX10_turned_17 (by decide) (Eq.refl 20) (fun h17 => ?_) (fun h17 => ?_)
      · exact absurd (by rw [h5, h17]; rfl) hc
      · refine Tr.bipush (v := (-2)) dX10_turned_20 (by decide +kernel) (Eq.refl 22) ?_
        refine Tr.goto (pc' := 42) dX10_turned_22 (by decide) ?_
        refine Tr.iret dX10_turned_42 rfl (by first | rfl | exact bI_nar _) ?_ ?_
        · rfl
        · rfl
