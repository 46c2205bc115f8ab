/-! THE REFERENCE: the best law; settling -/
abbrev Blt : Type := Int32 × Nat × Bool × Int32 × Int32 × (Nat → Nat) × (Nat → Int32) × (Nat → Int32)
def baS (V : Vil) (w : Int32) (S : Scn) (P : Nat → Nat) (L : Nat → Int32) (a d k : Nat) (q : Blt) (c : Nat) : Blt :=
  (if q.1 < lgF S (mgF V (nI c, -1, w, -1, true, (decide (k = 1))) P L (S, q.2.2.2.2.2.1, q.2.2.2.2.2.2.1) (4 * d)).1 (npV V) then lgF S (mgF V (nI c, -1, w, -1, true, (decide (k = 1))) P L (S, q.2.2.2.2.2.1, q.2.2.2.2.2.2.1) (4 * d)).1 (npV V) else q.1, if q.1 < lgF S (mgF V (nI c, -1, w, -1, true, (decide (k = 1))) P L (S, q.2.2.2.2.2.1, q.2.2.2.2.2.2.1) (4 * d)).1 (npV V) then 100 * k + c else q.2.1, decide (k = 1), lgF S (mgF V (nI c, -1, w, -1, true, (decide (k = 1))) P L (S, q.2.2.2.2.2.1, q.2.2.2.2.2.2.1) (4 * d)).1 (npV V), loF S (mgF V (nI c, -1, w, -1, true, (decide (k = 1))) P L (S, q.2.2.2.2.2.1, q.2.2.2.2.2.2.1) (4 * d)).1 (nhV V), (mgF V (nI c, -1, w, -1, true, (decide (k = 1))) P L (S, q.2.2.2.2.2.1, q.2.2.2.2.2.2.1) (4 * d)).2.1, (mgF V (nI c, -1, w, -1, true, (decide (k = 1))) P L (S, q.2.2.2.2.2.1, q.2.2.2.2.2.2.1) (4 * d)).2.2, rwF (mgF V (nI c, -1, w, -1, true, (decide (k = 1))) P L (S, q.2.2.2.2.2.1, q.2.2.2.2.2.2.1) (4 * d)).1 P L a)
def baF (V : Vil) (w : Int32) (S : Scn) (P : Nat → Nat) (L : Nat → Int32) (a d k : Nat) (q : Blt) : Nat → Blt
  | 0 => q
  | c + 1 => baS V w S P L a d k (baF V w S P L a d k q c) c
def bkF (V : Vil) (w : Int32) (S : Scn) (P : Nat → Nat) (L : Nat → Int32) (a d : Nat) (q : Blt) : Nat → Blt
  | 0 => q
  | k + 1 => baF V w S P L a d k (bkF V w S P L a d q k) 29
set_option maxHeartbeats 4000000 in
set_option maxRecDepth 100000 in
theorem m_bestLaw (E : EnvT) (ad r : Nat → Nat) (i : Nat → Int32) (V : Vil) (w : Int32) (l : Bool) (lg ll : Int32) (W : Nat → Nat) (B f : Nat → Int32) (bp : Nat → Nat) (G : Nat → Int32) (S : Scn) (P : Nat → Nat) (L : Nat → Int32) (a : Nat) (x : Int32) (hV : Vok V) (hS : Sle V S) (hP : Pok V P) (ht : psS S < 2 ^ 29) : Md E mX10_bestLaw ad [.ref (ad 0), .int x] (mtJ E ad r i V (w, l, lg, ll, W, B, f, bp, G) (rwF S P L a)) (some (.int (if rgB x (nI 1) (nI 20) then nI (bkF V w S P L a (nN x) (-1000000, 0, l, lg, ll, W, B, f) 2).2.1 else -2))) (mtJ E ad r i V (if rgB x (nI 1) (nI 20) then (w, (bkF V w S P L a (nN x) (-1000000, 0, l, lg, ll, W, B, f) 2).2.2.1, (bkF V w S P L a (nN x) (-1000000, 0, l, lg, ll, W, B, f) 2).2.2.2.1, (bkF V w S P L a (nN x) (-1000000, 0, l, lg, ll, W, B, f) 2).2.2.2.2.1, (bkF V w S P L a (nN x) (-1000000, 0, l, lg, ll, W, B, f) 2).2.2.2.2.2.1, (bkF V w S P L a (nN x) (-1000000, 0, l, lg, ll, W, B, f) 2).2.2.2.2.2.2.1, (bkF V w S P L a (nN x) (-1000000, 0, l, lg, ll, W, B, f) 2).2.2.2.2.2.2.2, bp, G) else (w, l, lg, ll, W, B, f, bp, G)) (rwF S P L a)) := by
  by_cases hc : rgB x (nI 1) (nI 20) = true
  · rw [if_pos hc, if_pos hc]
    obtain ⟨d, hd1, hd, rfl⟩ := rgB_n (by decide) (by decide) hc
    rw [nN_n (by omega)]
    show Md E _ ad _ (mtC E ad r i V (-1, -1, w, -1, false, l) lg ll W B f (rwF S P L a) bp G) _ (mtC E ad r i V (-1, -1, w, -1, false, (bkF V w S P L a d (-1000000, 0, l, lg, ll, W, B, f) 2).2.2.1) (bkF V w S P L a d (-1000000, 0, l, lg, ll, W, B, f) 2).2.2.2.1 (bkF V w S P L a d (-1000000, 0, l, lg, ll, W, B, f) 2).2.2.2.2.1 (bkF V w S P L a d (-1000000, 0, l, lg, ll, W, B, f) 2).2.2.2.2.2.1 (bkF V w S P L a d (-1000000, 0, l, lg, ll, W, B, f) 2).2.2.2.2.2.2.1 (bkF V w S P L a d (-1000000, 0, l, lg, ll, W, B, f) 2).2.2.2.2.2.2.2 (rwF S P L a) bp G)
    refine Md.of 4 (by decide) rfl rfl ?_
    refine Tr.iload_n (i := 1) dX10_bestLaw_0 rfl rfl (Eq.refl 1) ?_
    refine Tr.i2l dX10_bestLaw_1 rfl (Eq.refl 2) ?_
    refine Tr.lconst (v := 1) dX10_bestLaw_2 (by decide +kernel) (Eq.refl 3) ?_
    refine Tr.ldc2 dX10_bestLaw_3 qX10_457 (Eq.refl 6) ?_
    refine Tr.callSr (L := []) (m_in E _ (nI d).toInt64 1 20) dX10_bestLaw_6 (kX10_52 (Nat.le_of_ble_eq_true rfl)) sX10_in rfl rfl rfl rfl rfl rfl rfl (Eq.refl 9) ?_
    rw [in32' (nI d) (a := nI 1) (b := nI 20) (by decide) (by decide)]
    refine Tr.if_neB (tgt := 15) dX10_bestLaw_9 (by decide) (Eq.refl 12) (fun h9 => ?_) (fun h9 => ?_)
    · refine Tr.iconst (v := nI 0) dX10_bestLaw_15 (icN 0) (Eq.refl 16) ?_
      refine Tr.istore_n (i := 2) dX10_bestLaw_16 rfl rfl rfl (Eq.refl 17) ?_
      refine Tr.ldcw dX10_bestLaw_17 qX10_395 (Eq.refl 20) ?_
      refine Tr.istore_n (i := 3) dX10_bestLaw_20 rfl rfl rfl (Eq.refl 21) ?_
      refine Tr.iconst (v := nI 0) dX10_bestLaw_21 (icN 0) (Eq.refl 22) ?_
      refine Tr.istore dX10_bestLaw_22 rfl rfl (Eq.refl 24) ?_
      skip
      refine Tr.mask [true, true, true, true, true, true] (lv' := [some (.ref (ad 0)), some (.int (nI d)), some (.int (nI (bkF V w S P L a d (-1000000, 0, l, lg, ll, W, B, f) 0).2.1)), some (.int (bkF V w S P L a d (-1000000, 0, l, lg, ll, W, B, f) 0).1), some (.int (nI 0)), none]) rfl ?_
      refine Tr.pic (w' := (mtC E ad r i V (-1, -1, w, -1, false, (bkF V w S P L a d (-1000000, 0, l, lg, ll, W, B, f) 0).2.2.1) (bkF V w S P L a d (-1000000, 0, l, lg, ll, W, B, f) 0).2.2.2.1 (bkF V w S P L a d (-1000000, 0, l, lg, ll, W, B, f) 0).2.2.2.2.1 (bkF V w S P L a d (-1000000, 0, l, lg, ll, W, B, f) 0).2.2.2.2.2.1 (bkF V w S P L a d (-1000000, 0, l, lg, ll, W, B, f) 0).2.2.2.2.2.2.1 (bkF V w S P L a d (-1000000, 0, l, lg, ll, W, B, f) 0).2.2.2.2.2.2.2 (rwF S P L a) bp G)) rfl ?_
      refine loopD (P := fun k => Tr _ 0 0 24 [some (.ref (ad 0)), some (.int (nI d)), some (.int (nI (bkF V w S P L a d (-1000000, 0, l, lg, ll, W, B, f) k).2.1)), some (.int (bkF V w S P L a d (-1000000, 0, l, lg, ll, W, B, f) k).1), some (.int (nI k)), none] [] (mtC E ad r i V (-1, -1, w, -1, false, (bkF V w S P L a d (-1000000, 0, l, lg, ll, W, B, f) k).2.2.1) (bkF V w S P L a d (-1000000, 0, l, lg, ll, W, B, f) k).2.2.2.1 (bkF V w S P L a d (-1000000, 0, l, lg, ll, W, B, f) k).2.2.2.2.1 (bkF V w S P L a d (-1000000, 0, l, lg, ll, W, B, f) k).2.2.2.2.2.1 (bkF V w S P L a d (-1000000, 0, l, lg, ll, W, B, f) k).2.2.2.2.2.2.1 (bkF V w S P L a d (-1000000, 0, l, lg, ll, W, B, f) k).2.2.2.2.2.2.2 (rwF S P L a) bp G)) 2 ?_ (fun k hk ih => ?_)
      · refine Tr.iload dX10_bestLaw_24 rfl (Eq.refl 26) ?_
        refine Tr.iconst (v := nI 2) dX10_bestLaw_26 (icN 2) (Eq.refl 27) ?_
        refine Tr.icmp_geN (tgt := 95) dX10_bestLaw_27 (by decide) (Eq.refl 30) (by omega) (by omega) (fun h27 => ?_) (fun h27 => ?_)
        · refine Tr.iload_n (i := 2) dX10_bestLaw_95 rfl rfl (Eq.refl 96) ?_
          refine Tr.iret dX10_bestLaw_96 rfl (by first | rfl | exact bI_nar _) ?_ ?_
          · rfl
          · rfl
        · exact absurd h27 (by omega)
      · have hu : (bkF V w S P L a d (-1000000, 0, l, lg, ll, W, B, f) (k + 1)) = baF V w S P L a d k (bkF V w S P L a d (-1000000, 0, l, lg, ll, W, B, f) k) 29 := rfl
        rw [hu] at ih
        clear hu
        generalize (bkF V w S P L a d (-1000000, 0, l, lg, ll, W, B, f) k) = q at *
        refine Tr.iload dX10_bestLaw_24 rfl (Eq.refl 26) ?_
        refine Tr.iconst (v := nI 2) dX10_bestLaw_26 (icN 2) (Eq.refl 27) ?_
        refine Tr.icmp_geN (tgt := 95) dX10_bestLaw_27 (by decide) (Eq.refl 30) (by omega) (by omega) (fun h27 => ?_) (fun h27 => ?_)
        · exact absurd h27 (by omega)
        · refine Tr.iconst (v := nI 0) dX10_bestLaw_30 (icN 0) (Eq.refl 31) ?_
          refine Tr.istore dX10_bestLaw_31 rfl rfl (Eq.refl 33) ?_
          skip
          refine Tr.mask [true, true, true, true, true, true] (lv' := [some (.ref (ad 0)), some (.int (nI d)), some (.int (nI (baF V w S P L a d k q 0).2.1)), some (.int (baF V w S P L a d k q 0).1), some (.int (nI k)), some (.int (nI 0))]) rfl ?_
          refine Tr.pic (w' := (mtC E ad r i V (-1, -1, w, -1, false, (baF V w S P L a d k q 0).2.2.1) (baF V w S P L a d k q 0).2.2.2.1 (baF V w S P L a d k q 0).2.2.2.2.1 (baF V w S P L a d k q 0).2.2.2.2.2.1 (baF V w S P L a d k q 0).2.2.2.2.2.2.1 (baF V w S P L a d k q 0).2.2.2.2.2.2.2 (rwF S P L a) bp G)) rfl ?_
          refine loopD (P := fun c => Tr _ 0 0 33 [some (.ref (ad 0)), some (.int (nI d)), some (.int (nI (baF V w S P L a d k q c).2.1)), some (.int (baF V w S P L a d k q c).1), some (.int (nI k)), some (.int (nI c))] [] (mtC E ad r i V (-1, -1, w, -1, false, (baF V w S P L a d k q c).2.2.1) (baF V w S P L a d k q c).2.2.2.1 (baF V w S P L a d k q c).2.2.2.2.1 (baF V w S P L a d k q c).2.2.2.2.2.1 (baF V w S P L a d k q c).2.2.2.2.2.2.1 (baF V w S P L a d k q c).2.2.2.2.2.2.2 (rwF S P L a) bp G)) 29 ?_ (fun c hc9 ih2 => ?_)
          · refine Tr.iload dX10_bestLaw_33 rfl (Eq.refl 35) ?_
            refine Tr.bipush (v := nI 28) dX10_bestLaw_35 (by decide +kernel) (Eq.refl 37) ?_
            refine Tr.icmp_gtN (tgt := 89) dX10_bestLaw_37 (by decide) (Eq.refl 40) (by omega) (by omega) (fun h37 => ?_) (fun h37 => ?_)
            · refine Tr.iincN dX10_bestLaw_89 rfl rfl rfl (Eq.refl 92) ?_
              refine Tr.goto (pc' := 24) dX10_bestLaw_92 (by decide) ?_
              exact Tr.mask [true, true, true, true, true, false] rfl ih
            · exact absurd h37 (by omega)
          · have hu : (baF V w S P L a d k q (c + 1)) = baS V w S P L a d k (baF V w S P L a d k q c) c := rfl
            rw [hu] at ih2
            clear hu ih
            generalize (baF V w S P L a d k q c) = q2 at *
            obtain ⟨m, b, l1, lg1, ll1, W1, B1, f1⟩ := q2
            have hu : baS V w S P L a d k (m, b, l1, lg1, ll1, W1, B1, f1) c = (if m < lgF S (mgF V (nI c, -1, w, -1, true, (decide (k = 1))) P L (S, W1, B1) (4 * d)).1 (npV V) then lgF S (mgF V (nI c, -1, w, -1, true, (decide (k = 1))) P L (S, W1, B1) (4 * d)).1 (npV V) else m, if m < lgF S (mgF V (nI c, -1, w, -1, true, (decide (k = 1))) P L (S, W1, B1) (4 * d)).1 (npV V) then 100 * k + c else b, decide (k = 1), lgF S (mgF V (nI c, -1, w, -1, true, (decide (k = 1))) P L (S, W1, B1) (4 * d)).1 (npV V), loF S (mgF V (nI c, -1, w, -1, true, (decide (k = 1))) P L (S, W1, B1) (4 * d)).1 (nhV V), (mgF V (nI c, -1, w, -1, true, (decide (k = 1))) P L (S, W1, B1) (4 * d)).2.1, (mgF V (nI c, -1, w, -1, true, (decide (k = 1))) P L (S, W1, B1) (4 * d)).2.2, rwF (mgF V (nI c, -1, w, -1, true, (decide (k = 1))) P L (S, W1, B1) (4 * d)).1 P L a) := rfl
            rw [hu] at ih2
            clear hu
            show Tr _ 0 0 33 [some (.ref (ad 0)), some (.int (nI d)), some (.int (nI b)), some (.int m), some (.int (nI k)), some (.int (nI c))] [] (mtC E ad r i V (-1, -1, w, -1, false, l1) lg1 ll1 W1 B1 f1 (rwF S P L a) bp G)
            refine Tr.iload dX10_bestLaw_33 rfl (Eq.refl 35) ?_
            refine Tr.bipush (v := nI 28) dX10_bestLaw_35 (by decide +kernel) (Eq.refl 37) ?_
            refine Tr.icmp_gtN (tgt := 89) dX10_bestLaw_37 (by decide) (Eq.refl 40) (by omega) (by omega) (fun h37 => ?_) (fun h37 => ?_)
            · exact absurd h37 (by omega)
            · refine Tr.aload_n (i := 0) dX10_bestLaw_40 rfl rfl (Eq.refl 41) ?_
              refine Tr.iload dX10_bestLaw_41 rfl (Eq.refl 43) ?_
              refine Tr.iconst (v := nI 1) dX10_bestLaw_43 (icN 1) (Eq.refl 44) ?_
              refine Tr.icmp_neN (tgt := 51) dX10_bestLaw_44 (by decide) (Eq.refl 47) (by omega) (by omega) (fun h44 => ?_) (fun h44 => ?_)
              · have hk1 : decide (k = 1) = false := by simp [h44]
                refine Tr.iconst (v := nI 0) dX10_bestLaw_51 (icN 0) (Eq.refl 52) ?_
                refine Tr.top (y := bI (decide (k = 1))) (by rw [hk1]; rfl) ?_
                refine Tr.iload dX10_bestLaw_52 rfl (Eq.refl 54) ?_
                refine Tr.iload_n (i := 1) dX10_bestLaw_54 rfl rfl (Eq.refl 55) ?_
                refine Tr.callVs (m_tryLaw E ad r i V w l1 lg1 ll1 W1 B1 f1 bp G S P L a (decide (k = 1)) c d hV hS hP ht hd) dX10_bestLaw_55 (kX10_459 (Nat.le_of_ble_eq_true rfl)) iX10_tryLaw rfl rfl rfl rfl rfl (mt_le) rfl rfl (Eq.refl 58) ?_
                generalize (mgF V (nI c, -1, w, -1, true, (decide (k = 1))) P L (S, W1, B1) (4 * d)) = q3 at *
                refine Tr.aload_n (i := 0) dX10_bestLaw_58 rfl rfl (Eq.refl 59) ?_
                refine Tr.getf dX10_bestLaw_59 fX10_449 rfl rfl (Eq.refl 62) ?_
                refine Tr.iload_n (i := 3) dX10_bestLaw_62 rfl rfl (Eq.refl 63) ?_
                refine Tr.icmp_gt (tgt := 69) dX10_bestLaw_63 (by decide) (Eq.refl 66) (fun h63 => ?_) (fun h63 => ?_)
                · rw [if_pos h63, if_pos h63] at ih2
                  refine Tr.aload_n (i := 0) dX10_bestLaw_69 rfl rfl (Eq.refl 70) ?_
                  refine Tr.getf dX10_bestLaw_70 fX10_449 rfl rfl (Eq.refl 73) ?_
                  refine Tr.istore_n (i := 3) dX10_bestLaw_73 rfl rfl rfl (Eq.refl 74) ?_
                  refine Tr.bipush (v := nI 100) dX10_bestLaw_74 (by decide +kernel) (Eq.refl 76) ?_
                  refine Tr.iload dX10_bestLaw_76 rfl (Eq.refl 78) ?_
                  refine Tr.imulN dX10_bestLaw_78 (Eq.refl 79) ?_
                  refine Tr.iload dX10_bestLaw_79 rfl (Eq.refl 81) ?_
                  refine Tr.iaddN dX10_bestLaw_81 (Eq.refl 82) ?_
                  refine Tr.istore_n (i := 2) dX10_bestLaw_82 rfl rfl rfl (Eq.refl 83) ?_
                  refine Tr.iincN dX10_bestLaw_83 rfl rfl rfl (Eq.refl 86) ?_
                  refine Tr.goto (pc' := 33) dX10_bestLaw_86 (by decide) ?_
                  exact Tr.eqs rfl rfl rfl ih2
                · rw [if_neg h63, if_neg h63] at ih2
                  refine Tr.goto (pc' := 83) dX10_bestLaw_66 (by decide) ?_
                  refine Tr.iincN dX10_bestLaw_83 rfl rfl rfl (Eq.refl 86) ?_
                  refine Tr.goto (pc' := 33) dX10_bestLaw_86 (by decide) ?_
                  exact Tr.eqs rfl rfl rfl ih2
              · have hk1 : decide (k = 1) = true := by simp [h44]
                refine Tr.iconst (v := nI 1) dX10_bestLaw_47 (icN 1) (Eq.refl 48) ?_
                refine Tr.goto (pc' := 52) dX10_bestLaw_48 (by decide) ?_
                refine Tr.top (y := bI (decide (k = 1))) (by rw [hk1]; rfl) ?_
                refine Tr.iload dX10_bestLaw_52 rfl (Eq.refl 54) ?_
                refine Tr.iload_n (i := 1) dX10_bestLaw_54 rfl rfl (Eq.refl 55) ?_
                refine Tr.callVs (m_tryLaw E ad r i V w l1 lg1 ll1 W1 B1 f1 bp G S P L a (decide (k = 1)) c d hV hS hP ht hd) dX10_bestLaw_55 (kX10_459 (Nat.le_of_ble_eq_true rfl)) iX10_tryLaw rfl rfl rfl rfl rfl (mt_le) rfl rfl (Eq.refl 58) ?_
                generalize (mgF V (nI c, -1, w, -1, true, (decide (k = 1))) P L (S, W1, B1) (4 * d)) = q3 at *
                refine Tr.aload_n (i := 0) dX10_bestLaw_58 rfl rfl (Eq.refl 59) ?_
                refine Tr.getf dX10_bestLaw_59 fX10_449 rfl rfl (Eq.refl 62) ?_
                refine Tr.iload_n (i := 3) dX10_bestLaw_62 rfl rfl (Eq.refl 63) ?_
                refine Tr.icmp_gt (tgt := 69) dX10_bestLaw_63 (by decide) (Eq.refl 66) (fun h63 => ?_) (fun h63 => ?_)
                · rw [if_pos h63, if_pos h63] at ih2
                  refine Tr.aload_n (i := 0) dX10_bestLaw_69 rfl rfl (Eq.refl 70) ?_
                  refine Tr.getf dX10_bestLaw_70 fX10_449 rfl rfl (Eq.refl 73) ?_
                  refine Tr.istore_n (i := 3) dX10_bestLaw_73 rfl rfl rfl (Eq.refl 74) ?_
                  refine Tr.bipush (v := nI 100) dX10_bestLaw_74 (by decide +kernel) (Eq.refl 76) ?_
                  refine Tr.iload dX10_bestLaw_76 rfl (Eq.refl 78) ?_
                  refine Tr.imulN dX10_bestLaw_78 (Eq.refl 79) ?_
                  refine Tr.iload dX10_bestLaw_79 rfl (Eq.refl 81) ?_
                  refine Tr.iaddN dX10_bestLaw_81 (Eq.refl 82) ?_
                  refine Tr.istore_n (i := 2) dX10_bestLaw_82 rfl rfl rfl (Eq.refl 83) ?_
                  refine Tr.iincN dX10_bestLaw_83 rfl rfl rfl (Eq.refl 86) ?_
                  refine Tr.goto (pc' := 33) dX10_bestLaw_86 (by decide) ?_
                  exact Tr.eqs rfl rfl rfl ih2
                · rw [if_neg h63, if_neg h63] at ih2
                  refine Tr.goto (pc' := 83) dX10_bestLaw_66 (by decide) ?_
                  refine Tr.iincN dX10_bestLaw_83 rfl rfl rfl (Eq.refl 86) ?_
                  refine Tr.goto (pc' := 33) dX10_bestLaw_86 (by decide) ?_
                  exact Tr.eqs rfl rfl rfl ih2
    · exact absurd (hc.symm.trans h9) (by decide)
  · rw [if_neg hc, if_neg hc]
    show Md E _ ad _ (mtC E ad r i V (-1, -1, w, -1, false, l) lg ll W B f (rwF S P L a) bp G) _ (mtC E ad r i V (-1, -1, w, -1, false, l) lg ll W B f (rwF S P L a) bp G)
    refine Md.of 4 (by decide) rfl rfl ?_
    refine Tr.iload_n (i := 1) dX10_bestLaw_0 rfl rfl (Eq.refl 1) ?_
    refine Tr.i2l dX10_bestLaw_1 rfl (Eq.refl 2) ?_
    refine Tr.lconst (v := 1) dX10_bestLaw_2 (by decide +kernel) (Eq.refl 3) ?_
    refine Tr.ldc2 dX10_bestLaw_3 qX10_457 (Eq.refl 6) ?_
    refine Tr.callSr (L := []) (m_in E _ x.toInt64 1 20) dX10_bestLaw_6 (kX10_52 (Nat.le_of_ble_eq_true rfl)) sX10_in rfl rfl rfl rfl rfl rfl rfl (Eq.refl 9) ?_
    rw [in32' x (a := nI 1) (b := nI 20) (by decide) (by decide)]
    refine Tr.if_neB (tgt := 15) dX10_bestLaw_9 (by decide) (Eq.refl 12) (fun h9 => ?_) (fun h9 => ?_)
    · exact absurd h9 hc
    · refine Tr.bipush (v := (-2)) dX10_bestLaw_12 (by decide +kernel) (Eq.refl 14) ?_
      refine Tr.iret dX10_bestLaw_14 rfl (by first | rfl | exact bI_nar _) ?_ ?_
      · rfl
      · rfl
abbrev Slt : Type := (Nat → Nat) × Bool × (Nat → Nat) × (Nat → Int32) × (Nat → Int32) × (Nat → Nat)
/-- a plan set to the best one -/
def psP (P : Nat → Nat) (p : Nat) (b : Nat → Nat) : Nat → Nat := upN (upN (upN (upN P (p * 4 + 0) (b 0)) (p * 4 + 1) (b 1)) (p * 4 + 2) (b 2)) (p * 4 + 3) (b 3)
/-- one of a round of settling: plans, changed, wishes, leaves, row, best plan -/
def slS (V : Vil) (w : Int32) (l : Bool) (S : Scn) (L : Nat → Int32) (a : Nat) (q : Slt) (p : Nat) : Slt :=
  (if smR V (-1, -1, w, -1, false, l) q.1 L (S, q.2.2.1, q.2.2.2.1) p < (fmR V (-1, -1, w, -1, false, l) S q.1 L a p (mgF V (-1, -1, w, -1, false, l) q.1 L (S, q.2.2.1, q.2.2.2.1) 4).2.1 (mgF V (-1, -1, w, -1, false, l) q.1 L (S, q.2.2.1, q.2.2.2.1) 4).2.2 (rwF (mgF V (-1, -1, w, -1, false, l) q.1 L (S, q.2.2.1, q.2.2.2.1) 4).1 q.1 L a)).1 then psP q.1 p (pbR V (fmR V (-1, -1, w, -1, false, l) S q.1 L a p (mgF V (-1, -1, w, -1, false, l) q.1 L (S, q.2.2.1, q.2.2.2.1) 4).2.1 (mgF V (-1, -1, w, -1, false, l) q.1 L (S, q.2.2.1, q.2.2.2.1) 4).2.2 (rwF (mgF V (-1, -1, w, -1, false, l) q.1 L (S, q.2.2.1, q.2.2.2.1) 4).1 q.1 L a)).2.1 q.2.2.2.2.2) else q.1, if smR V (-1, -1, w, -1, false, l) q.1 L (S, q.2.2.1, q.2.2.2.1) p < (fmR V (-1, -1, w, -1, false, l) S q.1 L a p (mgF V (-1, -1, w, -1, false, l) q.1 L (S, q.2.2.1, q.2.2.2.1) 4).2.1 (mgF V (-1, -1, w, -1, false, l) q.1 L (S, q.2.2.1, q.2.2.2.1) 4).2.2 (rwF (mgF V (-1, -1, w, -1, false, l) q.1 L (S, q.2.2.1, q.2.2.2.1) 4).1 q.1 L a)).1 then true else q.2.1, (fmR V (-1, -1, w, -1, false, l) S q.1 L a p (mgF V (-1, -1, w, -1, false, l) q.1 L (S, q.2.2.1, q.2.2.2.1) 4).2.1 (mgF V (-1, -1, w, -1, false, l) q.1 L (S, q.2.2.1, q.2.2.2.1) 4).2.2 (rwF (mgF V (-1, -1, w, -1, false, l) q.1 L (S, q.2.2.1, q.2.2.2.1) 4).1 q.1 L a)).2.2.1, (fmR V (-1, -1, w, -1, false, l) S q.1 L a p (mgF V (-1, -1, w, -1, false, l) q.1 L (S, q.2.2.1, q.2.2.2.1) 4).2.1 (mgF V (-1, -1, w, -1, false, l) q.1 L (S, q.2.2.1, q.2.2.2.1) 4).2.2 (rwF (mgF V (-1, -1, w, -1, false, l) q.1 L (S, q.2.2.1, q.2.2.2.1) 4).1 q.1 L a)).2.2.2.1, (fmR V (-1, -1, w, -1, false, l) S q.1 L a p (mgF V (-1, -1, w, -1, false, l) q.1 L (S, q.2.2.1, q.2.2.2.1) 4).2.1 (mgF V (-1, -1, w, -1, false, l) q.1 L (S, q.2.2.1, q.2.2.2.1) 4).2.2 (rwF (mgF V (-1, -1, w, -1, false, l) q.1 L (S, q.2.2.1, q.2.2.2.1) 4).1 q.1 L a)).2.2.2.2, (pbR V (fmR V (-1, -1, w, -1, false, l) S q.1 L a p (mgF V (-1, -1, w, -1, false, l) q.1 L (S, q.2.2.1, q.2.2.2.1) 4).2.1 (mgF V (-1, -1, w, -1, false, l) q.1 L (S, q.2.2.1, q.2.2.2.1) 4).2.2 (rwF (mgF V (-1, -1, w, -1, false, l) q.1 L (S, q.2.2.1, q.2.2.2.1) 4).1 q.1 L a)).2.1 q.2.2.2.2.2))
def slR (V : Vil) (w : Int32) (l : Bool) (S : Scn) (L : Nat → Int32) (a : Nat) (q : Slt) : Nat → Slt
  | 0 => q
  | p + 1 => slS V w l S L a (slR V w l S L a q p) p
/-- one round from a state: goes on if it changed something -/
def slI (V : Vil) (w : Int32) (l : Bool) (S : Scn) (L : Nat → Int32) (a : Nat) (n : Nat) (q : Nat × Slt) : Bool × Nat × Slt :=
  ((slR V w l S L a (q.2.1, false, q.2.2.2) (npV V)).2.1, n + 1, slR V w l S L a (q.2.1, false, q.2.2.2) (npV V))
theorem pbR_ok {V : Vil} (x : Nat) (bp : Nat → Nat) {k : Nat} (hk : k < 4) : pbR V x bp k < nhV V ∨ pbR V x bp k = 5 := by
  unfold pbR
  rcases (show k = 0 ∨ k = 1 ∨ k = 2 ∨ k = 3 by omega) with rfl | rfl | rfl | rfl
  · exact plR_ok _ _
  · exact plR_ok _ _
  · exact plR_ok _ _
  · exact plR_ok _ _
theorem psP_ok {V : Vil} {P : Nat → Nat} (h : Pok V P) (p x : Nat) (bp : Nat → Nat) : Pok V (psP P p (pbR V x bp)) := Pok_up (Pok_up (Pok_up (Pok_up h _ _ (pbR_ok x bp (by decide))) _ _ (pbR_ok x bp (by decide))) _ _ (pbR_ok x bp (by decide))) _ _ (pbR_ok x bp (by decide))
theorem slR_ok {V : Vil} {w : Int32} {l : Bool} {S : Scn} {L : Nat → Int32} {a : Nat} {q : Slt} (h : Pok V q.1) : ∀ n, Pok V (slR V w l S L a q n).1 := by
  intro n
  induction n with
  | zero => exact h
  | succ n ih =>
    show Pok V (if _ then psP _ n _ else _)
    split
    · exact psP_ok ih _ _ _
    · exact ih
theorem slI_ok {V : Vil} {w : Int32} {l : Bool} {S : Scn} {L : Nat → Int32} {a : Nat} {q : Nat × Slt} (h : Pok V q.2.1) : ∀ n, Pok V (itB (slI V w l S L a) q n).2.2.1 := by
  intro n
  induction n with
  | zero => exact h
  | succ n ih =>
    by_cases h2 : (itB (slI V w l S L a) q n).1 = true
    · rw [itB_s h2]
      exact slR_ok (q := ((itB (slI V w l S L a) q n).2.2.1, false, (itB (slI V w l S L a) q n).2.2.2.2)) ih (npV V)
    · rw [itB_fr (Nat.le_succ n) (bnt h2)]; exact ih
set_option maxHeartbeats 4000000 in
set_option maxRecDepth 100000 in
theorem m_settle (E : EnvT) (ad r : Nat → Nat) (i : Nat → Int32) (V : Vil) (w : Int32) (l : Bool) (lg ll : Int32) (W : Nat → Nat) (B f : Nat → Int32) (bp : Nat → Nat) (G : Nat → Int32) (S : Scn) (P : Nat → Nat) (L : Nat → Int32) (a : Nat) (hV : Vok V) (hS : Sle V S) (hP : Pok V P) (ht : psS S < 2 ^ 29) : Md E mX10_settle ad [.ref (ad 0)] (mtJ E ad r i V (w, l, lg, ll, W, B, f, bp, G) (rwF S P L a)) (some (.int (if (itB (slI V w l S L a) (0, P, false, W, B, f, bp) 9).1 then -1 else nI (itB (slI V w l S L a) (0, P, false, W, B, f, bp) 9).2.1))) (mtJ E ad r i V (w, l, lg, ll, (itB (slI V w l S L a) (0, P, false, W, B, f, bp) 9).2.2.2.2.1, (itB (slI V w l S L a) (0, P, false, W, B, f, bp) 9).2.2.2.2.2.1, (itB (slI V w l S L a) (0, P, false, W, B, f, bp) 9).2.2.2.2.2.2.1, (itB (slI V w l S L a) (0, P, false, W, B, f, bp) 9).2.2.2.2.2.2.2, G) (rwF S (itB (slI V w l S L a) (0, P, false, W, B, f, bp) 9).2.2.1 L a)) := by
  have v2 := hV.2.1
  show Md E _ ad _ (mtC E ad r i V (-1, -1, w, -1, false, l) lg ll W B f (rwF S P L a) bp G) _ (mtC E ad r i V (-1, -1, w, -1, false, l) lg ll (itB (slI V w l S L a) (0, P, false, W, B, f, bp) 9).2.2.2.2.1 (itB (slI V w l S L a) (0, P, false, W, B, f, bp) 9).2.2.2.2.2.1 (itB (slI V w l S L a) (0, P, false, W, B, f, bp) 9).2.2.2.2.2.2.1 (rwF S (itB (slI V w l S L a) (0, P, false, W, B, f, bp) 9).2.2.1 L a) (itB (slI V w l S L a) (0, P, false, W, B, f, bp) 9).2.2.2.2.2.2.2 G)
  generalize hR : (itB (slI V w l S L a) (0, P, false, W, B, f, bp) 9) = R
  generalize hA : (if R.1 then -1 else nI R.2.1) = A9
  refine Md.of 5 (by decide) rfl rfl ?_
  refine Tr.iconst (v := nI 1) dX10_settle_0 (icN 1) (Eq.refl 1) ?_
  refine Tr.istore_n (i := 1) dX10_settle_1 rfl rfl rfl (Eq.refl 2) ?_
  refine Tr.mask [true, true, true, true, true, true] (lv' := [some (.ref (ad 0)), some (.int (nI (0 + 1))), none, none, none, none]) rfl ?_
  refine Tr.pic (w' := (mtC E ad r i V (-1, -1, w, -1, false, l) lg ll (itB (slI V w l S L a) (0, P, false, W, B, f, bp) 0).2.2.2.2.1 (itB (slI V w l S L a) (0, P, false, W, B, f, bp) 0).2.2.2.2.2.1 (itB (slI V w l S L a) (0, P, false, W, B, f, bp) 0).2.2.2.2.2.2.1 (rwF S (itB (slI V w l S L a) (0, P, false, W, B, f, bp) 0).2.2.1 L a) (itB (slI V w l S L a) (0, P, false, W, B, f, bp) 0).2.2.2.2.2.2.2 G)) rfl ?_
  refine loopD (P := fun n => (itB (slI V w l S L a) (0, P, false, W, B, f, bp) n).1 = true → Tr _ 0 0 2 [some (.ref (ad 0)), some (.int (nI (n + 1))), none, none, none, none] [] (mtC E ad r i V (-1, -1, w, -1, false, l) lg ll (itB (slI V w l S L a) (0, P, false, W, B, f, bp) n).2.2.2.2.1 (itB (slI V w l S L a) (0, P, false, W, B, f, bp) n).2.2.2.2.2.1 (itB (slI V w l S L a) (0, P, false, W, B, f, bp) n).2.2.2.2.2.2.1 (rwF S (itB (slI V w l S L a) (0, P, false, W, B, f, bp) n).2.2.1 L a) (itB (slI V w l S L a) (0, P, false, W, B, f, bp) n).2.2.2.2.2.2.2 G)) 9 (fun hn => ?_) (fun n hn9 ih hn => ?_) rfl
  · rw [hR] at hn ⊢
    rw [if_pos hn] at hA
    refine Tr.iload_n (i := 1) dX10_settle_2 rfl rfl (Eq.refl 3) ?_
    refine Tr.bipush (v := nI 9) dX10_settle_3 (by decide +kernel) (Eq.refl 5) ?_
    refine Tr.icmp_gtN (tgt := 96) dX10_settle_5 (by decide) (Eq.refl 8) (by omega) (by omega) (fun h5 => ?_) (fun h5 => ?_)
    · refine Tr.iconst (v := (-1)) dX10_settle_96 (by decide +kernel) (Eq.refl 97) ?_
      refine Tr.iret dX10_settle_97 rfl (by first | rfl | exact bI_nar _) ?_ ?_
      · rw [← hA]
      · rfl
    · exact absurd h5 (by omega)
  · have hs := itB_s hn
    have hf : (itB (slI V w l S L a) (0, P, false, W, B, f, bp) (n + 1)).1 = false → R = (itB (slI V w l S L a) (0, P, false, W, B, f, bp) (n + 1)) := fun z9 => by rw [← hR]; exact itB_fr (Nat.succ_le_of_lt hn9) z9
    have hok := slI_ok (V := V) (w := w) (l := l) (S := S) (L := L) (a := a) (q := (0, P, false, W, B, f, bp)) hP n
    rw [hs] at ih hf
    clear hs
    generalize (itB (slI V w l S L a) (0, P, false, W, B, f, bp) n).2 = s at *
    obtain ⟨n1, P1, ch1, W1, B1, f1, b1⟩ := s
    have hok : Pok V P1 := hok
    have hu : slI V w l S L a n (n1, P1, ch1, W1, B1, f1, b1) = ((slR V w l S L a (P1, false, W1, B1, f1, b1) (npV V)).2.1, n + 1, (slR V w l S L a (P1, false, W1, B1, f1, b1) (npV V))) := rfl
    rw [hu] at ih hf
    clear hu
    show Tr _ 0 0 2 _ _ (mtC E ad r i V (-1, -1, w, -1, false, l) lg ll W1 B1 f1 (rwF S P1 L a) b1 G)
    refine Tr.iload_n (i := 1) dX10_settle_2 rfl rfl (Eq.refl 3) ?_
    refine Tr.bipush (v := nI 9) dX10_settle_3 (by decide +kernel) (Eq.refl 5) ?_
    refine Tr.icmp_gtN (tgt := 96) dX10_settle_5 (by decide) (Eq.refl 8) (by omega) (by omega) (fun h5 => ?_) (fun h5 => ?_)
    · exact absurd h5 (by omega)
    · refine Tr.iconst (v := nI 0) dX10_settle_8 (icN 0) (Eq.refl 9) ?_
      refine Tr.istore_n (i := 2) dX10_settle_9 rfl rfl rfl (Eq.refl 10) ?_
      refine Tr.iconst (v := nI 0) dX10_settle_10 (icN 0) (Eq.refl 11) ?_
      refine Tr.istore_n (i := 3) dX10_settle_11 rfl rfl rfl (Eq.refl 12) ?_
      skip
      refine Tr.mask [true, true, true, true, true, true] (lv' := [some (.ref (ad 0)), some (.int (nI (n + 1))), some (.int (bI (slR V w l S L a (P1, false, W1, B1, f1, b1) 0).2.1)), some (.int (nI 0)), none, none]) rfl ?_
      refine Tr.pic (w' := (mtC E ad r i V (-1, -1, w, -1, false, l) lg ll (slR V w l S L a (P1, false, W1, B1, f1, b1) 0).2.2.1 (slR V w l S L a (P1, false, W1, B1, f1, b1) 0).2.2.2.1 (slR V w l S L a (P1, false, W1, B1, f1, b1) 0).2.2.2.2.1 (rwF S (slR V w l S L a (P1, false, W1, B1, f1, b1) 0).1 L a) (slR V w l S L a (P1, false, W1, B1, f1, b1) 0).2.2.2.2.2 G)) rfl ?_
      refine loopD (P := fun p => Tr _ 0 0 12 [some (.ref (ad 0)), some (.int (nI (n + 1))), some (.int (bI (slR V w l S L a (P1, false, W1, B1, f1, b1) p).2.1)), some (.int (nI p)), none, none] [] (mtC E ad r i V (-1, -1, w, -1, false, l) lg ll (slR V w l S L a (P1, false, W1, B1, f1, b1) p).2.2.1 (slR V w l S L a (P1, false, W1, B1, f1, b1) p).2.2.2.1 (slR V w l S L a (P1, false, W1, B1, f1, b1) p).2.2.2.2.1 (rwF S (slR V w l S L a (P1, false, W1, B1, f1, b1) p).1 L a) (slR V w l S L a (P1, false, W1, B1, f1, b1) p).2.2.2.2.2 G)) (npV V) ?_ (fun p hp ih2 => ?_)
      · generalize (slR V w l S L a (P1, false, W1, B1, f1, b1) (npV V)) = e at *
        refine Tr.iload_n (i := 3) dX10_settle_12 rfl rfl (Eq.refl 13) ?_
        refine Tr.aload_n (i := 0) dX10_settle_13 rfl rfl (Eq.refl 14) ?_
        refine Tr.getf dX10_settle_14 fX10_285 rfl rfl (Eq.refl 17) ?_
        refine Tr.icmp_geN (tgt := 84) dX10_settle_17 (by decide) (Eq.refl 20) (by omega) (by omega) (fun h17 => ?_) (fun h17 => ?_)
        · refine Tr.iload_n (i := 2) dX10_settle_84 rfl rfl (Eq.refl 85) ?_
          refine Tr.if_neB (tgt := 90) dX10_settle_85 (by decide) (Eq.refl 88) (fun h85 => ?_) (fun h85 => ?_)
          · skip
            refine Tr.iincN dX10_settle_90 rfl rfl rfl (Eq.refl 93) ?_
            refine Tr.goto (pc' := 2) dX10_settle_93 (by decide) ?_
            exact Tr.mask [true, true, false, false, false, false] rfl (ih h85)
          · have hf9 := hf h85
            rw [hf9] at hA ⊢
            rw [if_neg (by rw [h85]; decide)] at hA
            refine Tr.iload_n (i := 1) dX10_settle_88 rfl rfl (Eq.refl 89) ?_
            refine Tr.iret dX10_settle_89 rfl (by first | rfl | exact bI_nar _) ?_ ?_
            · rw [← hA]
            · rfl
        · exact absurd h17 (by omega)
      · have hok2 := slR_ok (V := V) (w := w) (l := l) (S := S) (L := L) (a := a) (q := (P1, false, W1, B1, f1, b1)) hok p
        have hu : (slR V w l S L a (P1, false, W1, B1, f1, b1) (p + 1)) = slS V w l S L a (slR V w l S L a (P1, false, W1, B1, f1, b1) p) p := rfl
        rw [hu] at ih2
        clear hu ih hf
        generalize (slR V w l S L a (P1, false, W1, B1, f1, b1) p) = e at *
        obtain ⟨P2, ch2, W2, B2, f2, b2⟩ := e
        have hok2 : Pok V P2 := hok2
        have hu : slS V w l S L a (P2, ch2, W2, B2, f2, b2) p = (if smR V (-1, -1, w, -1, false, l) P2 L (S, W2, B2) p < (fmR V (-1, -1, w, -1, false, l) S P2 L a p (mgF V (-1, -1, w, -1, false, l) P2 L (S, W2, B2) 4).2.1 (mgF V (-1, -1, w, -1, false, l) P2 L (S, W2, B2) 4).2.2 (rwF (mgF V (-1, -1, w, -1, false, l) P2 L (S, W2, B2) 4).1 P2 L a)).1 then psP P2 p (pbR V (fmR V (-1, -1, w, -1, false, l) S P2 L a p (mgF V (-1, -1, w, -1, false, l) P2 L (S, W2, B2) 4).2.1 (mgF V (-1, -1, w, -1, false, l) P2 L (S, W2, B2) 4).2.2 (rwF (mgF V (-1, -1, w, -1, false, l) P2 L (S, W2, B2) 4).1 P2 L a)).2.1 b2) else P2, if smR V (-1, -1, w, -1, false, l) P2 L (S, W2, B2) p < (fmR V (-1, -1, w, -1, false, l) S P2 L a p (mgF V (-1, -1, w, -1, false, l) P2 L (S, W2, B2) 4).2.1 (mgF V (-1, -1, w, -1, false, l) P2 L (S, W2, B2) 4).2.2 (rwF (mgF V (-1, -1, w, -1, false, l) P2 L (S, W2, B2) 4).1 P2 L a)).1 then true else ch2, (fmR V (-1, -1, w, -1, false, l) S P2 L a p (mgF V (-1, -1, w, -1, false, l) P2 L (S, W2, B2) 4).2.1 (mgF V (-1, -1, w, -1, false, l) P2 L (S, W2, B2) 4).2.2 (rwF (mgF V (-1, -1, w, -1, false, l) P2 L (S, W2, B2) 4).1 P2 L a)).2.2.1, (fmR V (-1, -1, w, -1, false, l) S P2 L a p (mgF V (-1, -1, w, -1, false, l) P2 L (S, W2, B2) 4).2.1 (mgF V (-1, -1, w, -1, false, l) P2 L (S, W2, B2) 4).2.2 (rwF (mgF V (-1, -1, w, -1, false, l) P2 L (S, W2, B2) 4).1 P2 L a)).2.2.2.1, (fmR V (-1, -1, w, -1, false, l) S P2 L a p (mgF V (-1, -1, w, -1, false, l) P2 L (S, W2, B2) 4).2.1 (mgF V (-1, -1, w, -1, false, l) P2 L (S, W2, B2) 4).2.2 (rwF (mgF V (-1, -1, w, -1, false, l) P2 L (S, W2, B2) 4).1 P2 L a)).2.2.2.2, pbR V (fmR V (-1, -1, w, -1, false, l) S P2 L a p (mgF V (-1, -1, w, -1, false, l) P2 L (S, W2, B2) 4).2.1 (mgF V (-1, -1, w, -1, false, l) P2 L (S, W2, B2) 4).2.2 (rwF (mgF V (-1, -1, w, -1, false, l) P2 L (S, W2, B2) 4).1 P2 L a)).2.1 b2) := rfl
        rw [hu] at ih2
        clear hu
        show Tr _ 0 0 12 [some (.ref (ad 0)), some (.int (nI (n + 1))), some (.int (bI ch2)), some (.int (nI p)), none, none] [] (mtC E ad r i V (-1, -1, w, -1, false, l) lg ll W2 B2 f2 (rwF S P2 L a) b2 G)
        refine Tr.iload_n (i := 3) dX10_settle_12 rfl rfl (Eq.refl 13) ?_
        refine Tr.aload_n (i := 0) dX10_settle_13 rfl rfl (Eq.refl 14) ?_
        refine Tr.getf dX10_settle_14 fX10_285 rfl rfl (Eq.refl 17) ?_
        refine Tr.icmp_geN (tgt := 84) dX10_settle_17 (by decide) (Eq.refl 20) (by omega) (by omega) (fun h17 => ?_) (fun h17 => ?_)
        · exact absurd h17 (by omega)
        · refine Tr.aload_n (i := 0) dX10_settle_20 rfl rfl (Eq.refl 21) ?_
          refine Tr.iload_n (i := 3) dX10_settle_21 rfl rfl (Eq.refl 22) ?_
          refine Tr.callVs (m_sumNow E ad r i V (-1, -1, w, -1, false, l) lg ll W2 B2 f2 f b2 G S P2 L a p hV hS hok2 ht hp) dX10_settle_22 (kX10_408 (Nat.le_of_ble_eq_true rfl)) iX10_sumNow rfl rfl rfl rfl rfl (mt_le) rfl rfl (Eq.refl 25) ?_
          generalize smR V (-1, -1, w, -1, false, l) P2 L (S, W2, B2) p = sm at *
          generalize (mgF V (-1, -1, w, -1, false, l) P2 L (S, W2, B2) 4) = q1 at *
          refine Tr.istore dX10_settle_25 rfl rfl (Eq.refl 27) ?_
          refine Tr.aload_n (i := 0) dX10_settle_27 rfl rfl (Eq.refl 28) ?_
          refine Tr.iload_n (i := 3) dX10_settle_28 rfl rfl (Eq.refl 29) ?_
          refine Tr.callVs (m_findBest E ad r i V (-1, -1, w, -1, false, l) lg ll q1.2.1 q1.2.2 (rwF q1.1 P2 L a) f b2 G S P2 L a p hV hS hok2 ht hp) dX10_settle_29 (kX10_416 (Nat.le_of_ble_eq_true rfl)) iX10_findBest rfl rfl rfl rfl rfl (mt_le) rfl rfl (Eq.refl 32) ?_
          generalize fmR V (-1, -1, w, -1, false, l) S P2 L a p q1.2.1 q1.2.2 (rwF q1.1 P2 L a) = q2 at *
          generalize pbR V q2.2.1 b2 = b3 at *
          refine Tr.iload dX10_settle_32 rfl (Eq.refl 34) ?_
          refine Tr.icmp_gt (tgt := 40) dX10_settle_34 (by decide) (Eq.refl 37) (fun h34 => ?_) (fun h34 => ?_)
          · rw [if_pos h34, if_pos h34] at ih2
            refine Tr.iconst (v := nI 1) dX10_settle_40 (icN 1) (Eq.refl 41) ?_
            refine Tr.istore_n (i := 2) dX10_settle_41 rfl rfl rfl (Eq.refl 42) ?_
            refine Tr.iconst (v := nI 0) dX10_settle_42 (icN 0) (Eq.refl 43) ?_
            refine Tr.istore dX10_settle_43 rfl rfl (Eq.refl 45) ?_
            refine Tr.iload dX10_settle_45 rfl (Eq.refl 47) ?_
            refine Tr.iconst (v := nI 4) dX10_settle_47 (icN 4) (Eq.refl 48) ?_
            refine Tr.icmp_geL (tgt := 78) dX10_settle_48 (by decide) (Eq.refl 51) (fun h => absurd h (by decide)) (fun _ => ?_)
            refine Tr.aload_n (i := 0) dX10_settle_51 rfl rfl (Eq.refl 52) ?_
            refine Tr.getf dX10_settle_52 fX10_219 rfl rfl (Eq.refl 55) ?_
            refine Tr.bipush (v := nI 35) dX10_settle_55 (by decide +kernel) (Eq.refl 57) ?_
            refine Tr.iconst (v := nI 4) dX10_settle_57 (icN 4) (Eq.refl 58) ?_
            refine Tr.iload_n (i := 3) dX10_settle_58 rfl rfl (Eq.refl 59) ?_
            refine Tr.imulN dX10_settle_59 (Eq.refl 60) ?_
            refine Tr.iaddN dX10_settle_60 (Eq.refl 61) ?_
            refine Tr.iload dX10_settle_61 rfl (Eq.refl 63) ?_
            refine Tr.iaddN dX10_settle_63 (Eq.refl 64) ?_
            refine Tr.aload_n (i := 0) dX10_settle_64 rfl rfl (Eq.refl 65) ?_
            refine Tr.getf dX10_settle_65 fX10_249 rfl rfl (Eq.refl 68) ?_
            refine Tr.iload dX10_settle_68 rfl (Eq.refl 70) ?_
            refine Tr.ialdN dX10_settle_70 rfl (by omega) (by decide) (Eq.refl 71) ?_
            refine Tr.iastN dX10_settle_71 rfl (by omega) (by decide) (Eq.refl 72) ?_
            refine Tr.pic (nw_pl (by omega)) ?_
            refine Tr.iinc (v := nI 1) dX10_settle_72 rfl (by decide +kernel) rfl rfl (Eq.refl 75) ?_
            refine Tr.goto (pc' := 45) dX10_settle_75 (by decide) ?_
            refine Tr.iload dX10_settle_45 rfl (Eq.refl 47) ?_
            refine Tr.iconst (v := nI 4) dX10_settle_47 (icN 4) (Eq.refl 48) ?_
            refine Tr.icmp_geL (tgt := 78) dX10_settle_48 (by decide) (Eq.refl 51) (fun h => absurd h (by decide)) (fun _ => ?_)
            refine Tr.aload_n (i := 0) dX10_settle_51 rfl rfl (Eq.refl 52) ?_
            refine Tr.getf dX10_settle_52 fX10_219 rfl rfl (Eq.refl 55) ?_
            refine Tr.bipush (v := nI 35) dX10_settle_55 (by decide +kernel) (Eq.refl 57) ?_
            refine Tr.iconst (v := nI 4) dX10_settle_57 (icN 4) (Eq.refl 58) ?_
            refine Tr.iload_n (i := 3) dX10_settle_58 rfl rfl (Eq.refl 59) ?_
            refine Tr.imulN dX10_settle_59 (Eq.refl 60) ?_
            refine Tr.iaddN dX10_settle_60 (Eq.refl 61) ?_
            refine Tr.iload dX10_settle_61 rfl (Eq.refl 63) ?_
            refine Tr.iaddN dX10_settle_63 (Eq.refl 64) ?_
            refine Tr.aload_n (i := 0) dX10_settle_64 rfl rfl (Eq.refl 65) ?_
            refine Tr.getf dX10_settle_65 fX10_249 rfl rfl (Eq.refl 68) ?_
            refine Tr.iload dX10_settle_68 rfl (Eq.refl 70) ?_
            refine Tr.ialdN dX10_settle_70 rfl (by omega) (by decide) (Eq.refl 71) ?_
            refine Tr.iastN dX10_settle_71 rfl (by omega) (by decide) (Eq.refl 72) ?_
            refine Tr.pic (nw_pl (by omega)) ?_
            refine Tr.iinc (v := nI 2) dX10_settle_72 rfl (by decide +kernel) rfl rfl (Eq.refl 75) ?_
            refine Tr.goto (pc' := 45) dX10_settle_75 (by decide) ?_
            refine Tr.iload dX10_settle_45 rfl (Eq.refl 47) ?_
            refine Tr.iconst (v := nI 4) dX10_settle_47 (icN 4) (Eq.refl 48) ?_
            refine Tr.icmp_geL (tgt := 78) dX10_settle_48 (by decide) (Eq.refl 51) (fun h => absurd h (by decide)) (fun _ => ?_)
            refine Tr.aload_n (i := 0) dX10_settle_51 rfl rfl (Eq.refl 52) ?_
            refine Tr.getf dX10_settle_52 fX10_219 rfl rfl (Eq.refl 55) ?_
            refine Tr.bipush (v := nI 35) dX10_settle_55 (by decide +kernel) (Eq.refl 57) ?_
            refine Tr.iconst (v := nI 4) dX10_settle_57 (icN 4) (Eq.refl 58) ?_
            refine Tr.iload_n (i := 3) dX10_settle_58 rfl rfl (Eq.refl 59) ?_
            refine Tr.imulN dX10_settle_59 (Eq.refl 60) ?_
            refine Tr.iaddN dX10_settle_60 (Eq.refl 61) ?_
            refine Tr.iload dX10_settle_61 rfl (Eq.refl 63) ?_
            refine Tr.iaddN dX10_settle_63 (Eq.refl 64) ?_
            refine Tr.aload_n (i := 0) dX10_settle_64 rfl rfl (Eq.refl 65) ?_
            refine Tr.getf dX10_settle_65 fX10_249 rfl rfl (Eq.refl 68) ?_
            refine Tr.iload dX10_settle_68 rfl (Eq.refl 70) ?_
            refine Tr.ialdN dX10_settle_70 rfl (by omega) (by decide) (Eq.refl 71) ?_
            refine Tr.iastN dX10_settle_71 rfl (by omega) (by decide) (Eq.refl 72) ?_
            refine Tr.pic (nw_pl (by omega)) ?_
            refine Tr.iinc (v := nI 3) dX10_settle_72 rfl (by decide +kernel) rfl rfl (Eq.refl 75) ?_
            refine Tr.goto (pc' := 45) dX10_settle_75 (by decide) ?_
            refine Tr.iload dX10_settle_45 rfl (Eq.refl 47) ?_
            refine Tr.iconst (v := nI 4) dX10_settle_47 (icN 4) (Eq.refl 48) ?_
            refine Tr.icmp_geL (tgt := 78) dX10_settle_48 (by decide) (Eq.refl 51) (fun h => absurd h (by decide)) (fun _ => ?_)
            refine Tr.aload_n (i := 0) dX10_settle_51 rfl rfl (Eq.refl 52) ?_
            refine Tr.getf dX10_settle_52 fX10_219 rfl rfl (Eq.refl 55) ?_
            refine Tr.bipush (v := nI 35) dX10_settle_55 (by decide +kernel) (Eq.refl 57) ?_
            refine Tr.iconst (v := nI 4) dX10_settle_57 (icN 4) (Eq.refl 58) ?_
            refine Tr.iload_n (i := 3) dX10_settle_58 rfl rfl (Eq.refl 59) ?_
            refine Tr.imulN dX10_settle_59 (Eq.refl 60) ?_
            refine Tr.iaddN dX10_settle_60 (Eq.refl 61) ?_
            refine Tr.iload dX10_settle_61 rfl (Eq.refl 63) ?_
            refine Tr.iaddN dX10_settle_63 (Eq.refl 64) ?_
            refine Tr.aload_n (i := 0) dX10_settle_64 rfl rfl (Eq.refl 65) ?_
            refine Tr.getf dX10_settle_65 fX10_249 rfl rfl (Eq.refl 68) ?_
            refine Tr.iload dX10_settle_68 rfl (Eq.refl 70) ?_
            refine Tr.ialdN dX10_settle_70 rfl (by omega) (by decide) (Eq.refl 71) ?_
            refine Tr.iastN dX10_settle_71 rfl (by omega) (by decide) (Eq.refl 72) ?_
            refine Tr.pic (nw_pl (by omega)) ?_
            refine Tr.iinc (v := nI 4) dX10_settle_72 rfl (by decide +kernel) rfl rfl (Eq.refl 75) ?_
            refine Tr.goto (pc' := 45) dX10_settle_75 (by decide) ?_
            refine Tr.iload dX10_settle_45 rfl (Eq.refl 47) ?_
            refine Tr.iconst (v := nI 4) dX10_settle_47 (icN 4) (Eq.refl 48) ?_
            refine Tr.icmp_geL (tgt := 78) dX10_settle_48 (by decide) (Eq.refl 51) (fun _ => ?_) (fun h => absurd h (by decide))
            refine Tr.iincN dX10_settle_78 rfl rfl rfl (Eq.refl 81) ?_
            refine Tr.goto (pc' := 12) dX10_settle_81 (by decide) ?_
            exact Tr.mask [true, true, true, true, false, false] rfl ih2
          · rw [if_neg h34, if_neg h34] at ih2
            refine Tr.goto (pc' := 78) dX10_settle_37 (by decide) ?_
            refine Tr.iincN dX10_settle_78 rfl rfl rfl (Eq.refl 81) ?_
            refine Tr.goto (pc' := 12) dX10_settle_81 (by decide) ?_
            exact Tr.mask [true, true, true, true, false, false] rfl ih2
