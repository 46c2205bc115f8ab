/-! THE REFERENCE: bounds, laws -/
abbrev Bot : Type := Int32 × (Nat → Nat) × (Nat → Int32) × (Nat → Int32) × (Nat → Nat)
/-- stays n: goes on while the best is too much; found, wishes, leaves, row, best plan -/
def boS (V : Vil) (w : Int32) (l : Bool) (S : Scn) (P : Nat → Nat) (L : Nat → Int32) (a p : Nat) (y : Int32) (n : Nat) (q : Bot) : Bool × Bot :=
  (decide (y < (fmR V (nI n, -1, w, -1, false, l) S P L a p q.2.1 q.2.2.1 q.2.2.2.1).1), if y < (fmR V (nI n, -1, w, -1, false, l) S P L a p q.2.1 q.2.2.1 q.2.2.2.1).1 then -1 else nI n, (fmR V (nI n, -1, w, -1, false, l) S P L a p q.2.1 q.2.2.1 q.2.2.2.1).2.2.1, (fmR V (nI n, -1, w, -1, false, l) S P L a p q.2.1 q.2.2.1 q.2.2.2.1).2.2.2.1, (fmR V (nI n, -1, w, -1, false, l) S P L a p q.2.1 q.2.2.1 q.2.2.2.1).2.2.2.2, pbR V (fmR V (nI n, -1, w, -1, false, l) S P L a p q.2.1 q.2.2.1 q.2.2.2.1).2.1 q.2.2.2.2)
theorem boS_1 (V : Vil) (w : Int32) (l : Bool) (S : Scn) (P : Nat → Nat) (L : Nat → Int32) (a p : Nat) (y : Int32) (q : Bot) (h : q.1 = -1) : ∀ n, (itB (boS V w l S P L a p y) q n).1 = true → (itB (boS V w l S P L a p y) q n).2.1 = -1 := by
  intro n
  induction n with
  | zero => intro _; exact h
  | succ n ih =>
    intro h1
    by_cases h2 : (itB (boS V w l S P L a p y) q n).1 = true
    · rw [itB_s h2] at h1 ⊢
      generalize (itB (boS V w l S P L a p y) q n).2 = s at *
      have h3 : decide (y < (fmR V (nI n, -1, w, -1, false, l) S P L a p s.2.1 s.2.2.1 s.2.2.2.1).1) = true := h1
      exact if_pos (of_decide_eq_true h3)
    · exact absurd (show (itB (boS V w l S P L a p y) q (n + 1)).1 = true from h1) (by rw [itB_fr (Nat.le_succ n) (bnt h2)]; exact h2)
theorem nI_nm1 {n : Nat} (h : n < 2 ^ 31) : ¬ nI n = -1 := fun z9 => nI_nneg h (by rw [z9]; decide)
set_option maxHeartbeats 4000000 in
set_option maxRecDepth 100000 in
theorem m_bound (E : EnvT) (ad r : Nat → Nat) (i : Nat → Int32) (V : Vil) (w : Int32) (l : Bool) (lg ll : Int32) (W : Nat → Nat) (B f : Nat → Int32) (bp : Nat → Nat) (G : Nat → Int32) (S : Scn) (P : Nat → Nat) (L : Nat → Int32) (a : Nat) (x y : Int32) (hV : Vok V) (hS : Sle V S) (hP : Pok V P) (ht : psS S < 2 ^ 29) : Md E mX10_bound ad [.ref (ad 0), .int x, .int y] (mtJ E ad r i V (w, l, lg, ll, W, B, f, bp, G) (rwF S P L a)) (some (.int (if (ixB x (npV V) && rgB y (-1000) (nI 9999)) then (itB (boS V w l S P L a (nN x) y) (-1, W, B, f, bp) 29).2.1 else -2))) (mtJ E ad r i V (if (ixB x (npV V) && rgB y (-1000) (nI 9999)) then (w, l, lg, ll, (itB (boS V w l S P L a (nN x) y) (-1, W, B, f, bp) 29).2.2.1, (itB (boS V w l S P L a (nN x) y) (-1, W, B, f, bp) 29).2.2.2.1, (itB (boS V w l S P L a (nN x) y) (-1, W, B, f, bp) 29).2.2.2.2.1, (itB (boS V w l S P L a (nN x) y) (-1, W, B, f, bp) 29).2.2.2.2.2, G) else (w, l, lg, ll, W, B, f, bp, G)) (rwF S P L a)) := by
  have v2 := hV.2.1
  by_cases hc : (ixB x (npV V) && rgB y (-1000) (nI 9999)) = true
  · rw [if_pos hc, if_pos hc]
    have hc1 : ixB x (npV V) = true := (Bool.and_eq_true_iff.mp hc).1
    have hc2 : rgB y (-1000) (nI 9999) = true := (Bool.and_eq_true_iff.mp hc).2
    obtain ⟨p, hp, rfl⟩ := ixB_n v2 hc1
    rw [nN_n (by omega)]
    show Md E _ ad _ (mtC E ad r i V (-1, -1, w, -1, false, l) lg ll W B f (rwF S P L a) bp G) _ (mtC E ad r i V (-1, -1, w, -1, false, l) lg ll (itB (boS V w l S P L a p y) (-1, W, B, f, bp) 29).2.2.1 (itB (boS V w l S P L a p y) (-1, W, B, f, bp) 29).2.2.2.1 (itB (boS V w l S P L a p y) (-1, W, B, f, bp) 29).2.2.2.2.1 (rwF S P L a) (itB (boS V w l S P L a p y) (-1, W, B, f, bp) 29).2.2.2.2.2 G)
    have hb1 := boS_1 V w l S P L a p y (-1, W, B, f, bp) rfl
    generalize hR : (itB (boS V w l S P L a p y) (-1, W, B, f, bp) 29) = R
    refine Md.of 1 (by decide) rfl rfl ?_
    refine Tr.aload_n (i := 0) dX10_bound_0 rfl rfl (Eq.refl 1) ?_
    refine Tr.iload_n (i := 1) dX10_bound_1 rfl rfl (Eq.refl 2) ?_
    refine Tr.callVr (L := [0]) (m_isPerson E _ (rP ad r) (iP V (-1, -1, w, -1, false, l) lg ll i) (nhV V) (npV V) (nI p) v2) dX10_bound_2 (kX10_309 (Nat.le_of_ble_eq_true rfl)) iX10_isPerson rfl rfl rfl rfl rfl rfl rfl rfl rfl (Eq.refl 5) ?_
    refine Tr.if_eqB (tgt := 22) dX10_bound_5 (by decide) (Eq.refl 8) (fun h5 => ?_) (fun h5 => ?_)
    · exact absurd (hc1.symm.trans h5) (by decide)
    · refine Tr.iload_n (i := 2) dX10_bound_8 rfl rfl (Eq.refl 9) ?_
      refine Tr.i2l dX10_bound_9 rfl (Eq.refl 10) ?_
      refine Tr.ldc2 dX10_bound_10 qX10_445 (Eq.refl 13) ?_
      refine Tr.ldc2 dX10_bound_13 qX10_447 (Eq.refl 16) ?_
      refine Tr.callSr (L := []) (m_in E _ y.toInt64 (-1000) 9999) dX10_bound_16 (kX10_52 (Nat.le_of_ble_eq_true rfl)) sX10_in rfl rfl rfl rfl rfl rfl rfl (Eq.refl 19) ?_
      rw [in32' y (a := -1000) (b := nI 9999) (by decide) (by decide)]
      refine Tr.if_neB (tgt := 25) dX10_bound_19 (by decide) (Eq.refl 22) (fun h19 => ?_) (fun h19 => ?_)
      · refine Tr.iconst (v := (-1)) dX10_bound_25 (by decide +kernel) (Eq.refl 26) ?_
        refine Tr.istore_n (i := 3) dX10_bound_26 rfl rfl rfl (Eq.refl 27) ?_
        refine Tr.aload_n (i := 0) dX10_bound_27 rfl rfl (Eq.refl 28) ?_
        refine Tr.iconst (v := nI 0) dX10_bound_28 (icN 0) (Eq.refl 29) ?_
        refine Tr.putf dX10_bound_29 pX10_225 rfl (rfl) (rfl) rfl (Eq.refl 32) ?_
        skip
        refine Tr.mask [true, true, true, true] (lv' := [some (.ref (ad 0)), some (.int (nI p)), some (.int y), some (.int (-1))]) rfl ?_
        refine Tr.pic (w' := (mtC E ad r i V (nI 0, -1, w, -1, false, l) lg ll (itB (boS V w l S P L a p y) (-1, W, B, f, bp) 0).2.2.1 (itB (boS V w l S P L a p y) (-1, W, B, f, bp) 0).2.2.2.1 (itB (boS V w l S P L a p y) (-1, W, B, f, bp) 0).2.2.2.2.1 (rwF S P L a) (itB (boS V w l S P L a p y) (-1, W, B, f, bp) 0).2.2.2.2.2 G)) rfl ?_
        refine loopD (P := fun j => (itB (boS V w l S P L a p y) (-1, W, B, f, bp) j).1 = true → Tr _ 0 0 32 [some (.ref (ad 0)), some (.int (nI p)), some (.int y), some (.int (-1))] [] (mtC E ad r i V (nI j, -1, w, -1, false, l) lg ll (itB (boS V w l S P L a p y) (-1, W, B, f, bp) j).2.2.1 (itB (boS V w l S P L a p y) (-1, W, B, f, bp) j).2.2.2.1 (itB (boS V w l S P L a p y) (-1, W, B, f, bp) j).2.2.2.2.1 (rwF S P L a) (itB (boS V w l S P L a p y) (-1, W, B, f, bp) j).2.2.2.2.2 G)) 29 (fun hn => ?_) (fun j hj ih hn => ?_) rfl
        · have hz := hb1 29 hn
          rw [hR] at hn hz ⊢
          rw [hz]
          refine Tr.aload_n (i := 0) dX10_bound_32 rfl rfl (Eq.refl 33) ?_
          refine Tr.getf dX10_bound_33 fX10_225 rfl rfl (Eq.refl 36) ?_
          refine Tr.bipush (v := nI 28) dX10_bound_36 (by decide +kernel) (Eq.refl 38) ?_
          refine Tr.icmp_gtN (tgt := 73) dX10_bound_38 (by decide) (Eq.refl 41) (by omega) (by omega) (fun h38 => ?_) (fun h38 => ?_)
          · refine Tr.aload_n (i := 0) dX10_bound_73 rfl rfl (Eq.refl 74) ?_
            refine Tr.iconst (v := (-1)) dX10_bound_74 (by decide +kernel) (Eq.refl 75) ?_
            refine Tr.putf dX10_bound_75 pX10_225 rfl (rfl) (rfl) rfl (Eq.refl 78) ?_
            refine Tr.iload_n (i := 3) dX10_bound_78 rfl rfl (Eq.refl 79) ?_
            refine Tr.iret dX10_bound_79 rfl (by first | rfl | exact bI_nar _) ?_ ?_
            · rfl
            · rfl
          · exact absurd h38 (by omega)
        · have hs := itB_s hn
          have hf : (itB (boS V w l S P L a p y) (-1, W, B, f, bp) (j + 1)).1 = false → R = (itB (boS V w l S P L a p y) (-1, W, B, f, bp) (j + 1)) := fun z9 => by rw [← hR]; exact itB_fr (Nat.succ_le_of_lt hj) z9
          rw [hs] at ih hf
          clear hs hb1
          generalize (itB (boS V w l S P L a p y) (-1, W, B, f, bp) j).2 = q at *
          obtain ⟨fd, W1, B1, f1, b1⟩ := q
          have hu : boS V w l S P L a p y j (fd, W1, B1, f1, b1) = (decide (y < (fmR V (nI j, -1, w, -1, false, l) S P L a p W1 B1 f1).1), if y < (fmR V (nI j, -1, w, -1, false, l) S P L a p W1 B1 f1).1 then -1 else nI j, (fmR V (nI j, -1, w, -1, false, l) S P L a p W1 B1 f1).2.2.1, (fmR V (nI j, -1, w, -1, false, l) S P L a p W1 B1 f1).2.2.2.1, (fmR V (nI j, -1, w, -1, false, l) S P L a p W1 B1 f1).2.2.2.2, pbR V (fmR V (nI j, -1, w, -1, false, l) S P L a p W1 B1 f1).2.1 b1) := rfl
          rw [hu] at ih hf
          clear hu
          show Tr _ 0 0 32 _ _ (mtC E ad r i V (nI j, -1, w, -1, false, l) lg ll W1 B1 f1 (rwF S P L a) b1 G)
          refine Tr.aload_n (i := 0) dX10_bound_32 rfl rfl (Eq.refl 33) ?_
          refine Tr.getf dX10_bound_33 fX10_225 rfl rfl (Eq.refl 36) ?_
          refine Tr.bipush (v := nI 28) dX10_bound_36 (by decide +kernel) (Eq.refl 38) ?_
          refine Tr.icmp_gtN (tgt := 73) dX10_bound_38 (by decide) (Eq.refl 41) (by omega) (by omega) (fun h38 => ?_) (fun h38 => ?_)
          · exact absurd h38 (by omega)
          · refine Tr.iload_n (i := 3) dX10_bound_41 rfl rfl (Eq.refl 42) ?_
            refine Tr.iconst (v := (-1)) dX10_bound_42 (by decide +kernel) (Eq.refl 43) ?_
            refine Tr.icmp_ne (tgt := 73) dX10_bound_43 (by decide) (Eq.refl 46) (fun h43 => ?_) (fun h43 => ?_)
            · exact absurd rfl h43
            · refine Tr.aload_n (i := 0) dX10_bound_46 rfl rfl (Eq.refl 47) ?_
              refine Tr.iload_n (i := 1) dX10_bound_47 rfl rfl (Eq.refl 48) ?_
              refine Tr.callVs (m_findBest E ad r i V (nI j, -1, w, -1, false, l) lg ll W1 B1 f1 f b1 G S P L a p hV hS hP ht hp) dX10_bound_48 (kX10_416 (Nat.le_of_ble_eq_true rfl)) iX10_findBest rfl rfl rfl rfl rfl (mt_le) rfl rfl (Eq.refl 51) ?_
              generalize (fmR V (nI j, -1, w, -1, false, l) S P L a p W1 B1 f1) = q at *
              refine Tr.iload_n (i := 2) dX10_bound_51 rfl rfl (Eq.refl 52) ?_
              refine Tr.icmp_gt (tgt := 60) dX10_bound_52 (by decide) (Eq.refl 55) (fun h52 => ?_) (fun h52 => ?_)
              · rw [if_pos h52] at ih
                refine Tr.aload_n (i := 0) dX10_bound_60 rfl rfl (Eq.refl 61) ?_
                refine Tr.dup dX10_bound_61 rfl (Eq.refl 62) ?_
                refine Tr.getf dX10_bound_62 fX10_225 rfl rfl (Eq.refl 65) ?_
                refine Tr.iconst (v := nI 1) dX10_bound_65 (icN 1) (Eq.refl 66) ?_
                refine Tr.iaddN dX10_bound_66 (Eq.refl 67) ?_
                refine Tr.putf dX10_bound_67 pX10_225 rfl (rfl) (rfl) rfl (Eq.refl 70) ?_
                refine Tr.goto (pc' := 32) dX10_bound_70 (by decide) ?_
                exact Tr.eqs rfl rfl rfl (ih (by simp [h52]))
              · rw [if_neg h52] at hf
                rw [hf (by simp [h52])]
                refine Tr.aload_n (i := 0) dX10_bound_55 rfl rfl (Eq.refl 56) ?_
                refine Tr.getf dX10_bound_56 fX10_225 rfl rfl (Eq.refl 59) ?_
                refine Tr.istore_n (i := 3) dX10_bound_59 rfl rfl rfl (Eq.refl 60) ?_
                refine Tr.aload_n (i := 0) dX10_bound_60 rfl rfl (Eq.refl 61) ?_
                refine Tr.dup dX10_bound_61 rfl (Eq.refl 62) ?_
                refine Tr.getf dX10_bound_62 fX10_225 rfl rfl (Eq.refl 65) ?_
                refine Tr.iconst (v := nI 1) dX10_bound_65 (icN 1) (Eq.refl 66) ?_
                refine Tr.iaddN dX10_bound_66 (Eq.refl 67) ?_
                refine Tr.putf dX10_bound_67 pX10_225 rfl (rfl) (rfl) rfl (Eq.refl 70) ?_
                refine Tr.goto (pc' := 32) dX10_bound_70 (by decide) ?_
                refine Tr.aload_n (i := 0) dX10_bound_32 rfl rfl (Eq.refl 33) ?_
                refine Tr.getf dX10_bound_33 fX10_225 rfl rfl (Eq.refl 36) ?_
                refine Tr.bipush (v := nI 28) dX10_bound_36 (by decide +kernel) (Eq.refl 38) ?_
                refine Tr.icmp_gtN (tgt := 73) dX10_bound_38 (by decide) (Eq.refl 41) (by omega) (by omega) (fun h38 => ?_) (fun h38 => ?_)
                · refine Tr.aload_n (i := 0) dX10_bound_73 rfl rfl (Eq.refl 74) ?_
                  refine Tr.iconst (v := (-1)) dX10_bound_74 (by decide +kernel) (Eq.refl 75) ?_
                  refine Tr.putf dX10_bound_75 pX10_225 rfl (rfl) (rfl) rfl (Eq.refl 78) ?_
                  refine Tr.iload_n (i := 3) dX10_bound_78 rfl rfl (Eq.refl 79) ?_
                  refine Tr.iret dX10_bound_79 rfl (by first | rfl | exact bI_nar _) ?_ ?_
                  · rfl
                  · rfl
                · refine Tr.iload_n (i := 3) dX10_bound_41 rfl rfl (Eq.refl 42) ?_
                  refine Tr.iconst (v := (-1)) dX10_bound_42 (by decide +kernel) (Eq.refl 43) ?_
                  refine Tr.icmp_ne (tgt := 73) dX10_bound_43 (by decide) (Eq.refl 46) (fun h43 => ?_) (fun h43 => ?_)
                  · refine Tr.aload_n (i := 0) dX10_bound_73 rfl rfl (Eq.refl 74) ?_
                    refine Tr.iconst (v := (-1)) dX10_bound_74 (by decide +kernel) (Eq.refl 75) ?_
                    refine Tr.putf dX10_bound_75 pX10_225 rfl (rfl) (rfl) rfl (Eq.refl 78) ?_
                    refine Tr.iload_n (i := 3) dX10_bound_78 rfl rfl (Eq.refl 79) ?_
                    refine Tr.iret dX10_bound_79 rfl (by first | rfl | exact bI_nar _) ?_ ?_
                    · rfl
                    · rfl
                  · exact absurd h43 (nI_nm1 (by omega))
      · exact absurd (hc2.symm.trans h19) (by decide)
  · rw [if_neg hc, if_neg hc]
    show Md E _ ad _ (mtC E ad r i V (-1, -1, w, -1, false, l) lg ll W B f (rwF S P L a) bp G) _ (mtC E ad r i V (-1, -1, w, -1, false, l) lg ll W B f (rwF S P L a) bp G)
    refine Md.of 1 (by decide) rfl rfl ?_
    refine Tr.aload_n (i := 0) dX10_bound_0 rfl rfl (Eq.refl 1) ?_
    refine Tr.iload_n (i := 1) dX10_bound_1 rfl rfl (Eq.refl 2) ?_
    refine Tr.callVr (L := [0]) (m_isPerson E _ (rP ad r) (iP V (-1, -1, w, -1, false, l) lg ll i) (nhV V) (npV V) x v2) dX10_bound_2 (kX10_309 (Nat.le_of_ble_eq_true rfl)) iX10_isPerson rfl rfl rfl rfl rfl rfl rfl rfl rfl (Eq.refl 5) ?_
    refine Tr.if_eqB (tgt := 22) dX10_bound_5 (by decide) (Eq.refl 8) (fun h5 => ?_) (fun h5 => ?_)
    · refine Tr.bipush (v := (-2)) dX10_bound_22 (by decide +kernel) (Eq.refl 24) ?_
      refine Tr.iret dX10_bound_24 rfl (by first | rfl | exact bI_nar _) ?_ ?_
      · rfl
      · rfl
    · refine Tr.iload_n (i := 2) dX10_bound_8 rfl rfl (Eq.refl 9) ?_
      refine Tr.i2l dX10_bound_9 rfl (Eq.refl 10) ?_
      refine Tr.ldc2 dX10_bound_10 qX10_445 (Eq.refl 13) ?_
      refine Tr.ldc2 dX10_bound_13 qX10_447 (Eq.refl 16) ?_
      refine Tr.callSr (L := []) (m_in E _ y.toInt64 (-1000) 9999) dX10_bound_16 (kX10_52 (Nat.le_of_ble_eq_true rfl)) sX10_in rfl rfl rfl rfl rfl rfl rfl (Eq.refl 19) ?_
      rw [in32' y (a := -1000) (b := nI 9999) (by decide) (by decide)]
      refine Tr.if_neB (tgt := 25) dX10_bound_19 (by decide) (Eq.refl 22) (fun h19 => ?_) (fun h19 => ?_)
      · exact absurd (by rw [h5, h19]; rfl) hc
      · refine Tr.bipush (v := (-2)) dX10_bound_22 (by decide +kernel) (Eq.refl 24) ?_
        refine Tr.iret dX10_bound_24 rfl (by first | rfl | exact bI_nar _) ?_ ?_
        · rfl
        · rfl
