/-! THE REFERENCE: from which worth on -/
abbrev Edt : Type := Int32 × Int32 × (Nat → Nat) × (Nat → Int32) × (Nat → Int32)
/-- worth n: goes on while it is not better without; found, the worth behind it, wishes, leaves, row -/
def edS (V : Vil) (l : Bool) (S : Scn) (P : Nat → Nat) (L : Nat → Int32) (a p y : Nat) (n : Nat) (q : Edt) : Bool × Edt :=
  (!decide (smR V (-1, -1, nI n, nI (hoV V p), false, l) P (upd L p (L p ||| (nI 1 <<< (nI y &&& 31)))) (S, (mgF V (-1, -1, nI n, nI (hoV V p), false, l) P (upd L p (L p &&& ((nI 1 <<< (nI y &&& 31)) ^^^ (-1)))) (S, q.2.2.1, q.2.2.2.1) 4).2.1, (mgF V (-1, -1, nI n, nI (hoV V p), false, l) P (upd L p (L p &&& ((nI 1 <<< (nI y &&& 31)) ^^^ (-1)))) (S, q.2.2.1, q.2.2.2.1) 4).2.2) p < smR V (-1, -1, nI n, nI (hoV V p), false, l) P (upd L p (L p &&& ((nI 1 <<< (nI y &&& 31)) ^^^ (-1)))) (S, q.2.2.1, q.2.2.2.1) p), if smR V (-1, -1, nI n, nI (hoV V p), false, l) P (upd L p (L p ||| (nI 1 <<< (nI y &&& 31)))) (S, (mgF V (-1, -1, nI n, nI (hoV V p), false, l) P (upd L p (L p &&& ((nI 1 <<< (nI y &&& 31)) ^^^ (-1)))) (S, q.2.2.1, q.2.2.2.1) 4).2.1, (mgF V (-1, -1, nI n, nI (hoV V p), false, l) P (upd L p (L p &&& ((nI 1 <<< (nI y &&& 31)) ^^^ (-1)))) (S, q.2.2.1, q.2.2.2.1) 4).2.2) p < smR V (-1, -1, nI n, nI (hoV V p), false, l) P (upd L p (L p &&& ((nI 1 <<< (nI y &&& 31)) ^^^ (-1)))) (S, q.2.2.1, q.2.2.2.1) p then nI n else -1, nI (n + 1), (mgF V (-1, -1, nI n, nI (hoV V p), false, l) P (upd L p (L p ||| (nI 1 <<< (nI y &&& 31)))) (S, (mgF V (-1, -1, nI n, nI (hoV V p), false, l) P (upd L p (L p &&& ((nI 1 <<< (nI y &&& 31)) ^^^ (-1)))) (S, q.2.2.1, q.2.2.2.1) 4).2.1, (mgF V (-1, -1, nI n, nI (hoV V p), false, l) P (upd L p (L p &&& ((nI 1 <<< (nI y &&& 31)) ^^^ (-1)))) (S, q.2.2.1, q.2.2.2.1) 4).2.2) 4).2.1, (mgF V (-1, -1, nI n, nI (hoV V p), false, l) P (upd L p (L p ||| (nI 1 <<< (nI y &&& 31)))) (S, (mgF V (-1, -1, nI n, nI (hoV V p), false, l) P (upd L p (L p &&& ((nI 1 <<< (nI y &&& 31)) ^^^ (-1)))) (S, q.2.2.1, q.2.2.2.1) 4).2.1, (mgF V (-1, -1, nI n, nI (hoV V p), false, l) P (upd L p (L p &&& ((nI 1 <<< (nI y &&& 31)) ^^^ (-1)))) (S, q.2.2.1, q.2.2.2.1) 4).2.2) 4).2.2, rwF (mgF V (-1, -1, nI n, nI (hoV V p), false, l) P (upd L p (L p ||| (nI 1 <<< (nI y &&& 31)))) (S, (mgF V (-1, -1, nI n, nI (hoV V p), false, l) P (upd L p (L p &&& ((nI 1 <<< (nI y &&& 31)) ^^^ (-1)))) (S, q.2.2.1, q.2.2.2.1) 4).2.1, (mgF V (-1, -1, nI n, nI (hoV V p), false, l) P (upd L p (L p &&& ((nI 1 <<< (nI y &&& 31)) ^^^ (-1)))) (S, q.2.2.1, q.2.2.2.1) 4).2.2) 4).1 P (upd L p (L p ||| (nI 1 <<< (nI y &&& 31)))) a)
theorem edS_1 (V : Vil) (l : Bool) (S : Scn) (P : Nat → Nat) (L : Nat → Int32) (a p y : Nat) (q : Edt) (h : q.1 = -1) (h0 : q.2.1 = nI 0) : ∀ n, (itB (edS V l S P L a p y) q n).1 = true → (itB (edS V l S P L a p y) q n).2.1 = -1 ∧ (itB (edS V l S P L a p y) q n).2.2.1 = nI n := by
  intro n
  induction n with
  | zero => intro _; exact ⟨h, h0⟩
  | succ n ih =>
    intro h1
    by_cases h2 : (itB (edS V l S P L a p y) q n).1 = true
    · rw [itB_s h2] at h1 ⊢
      generalize (itB (edS V l S P L a p y) q n).2 = s at *
      have h3 : (!decide (smR V (-1, -1, nI n, nI (hoV V p), false, l) P (upd L p (L p ||| (nI 1 <<< (nI y &&& 31)))) (S, (mgF V (-1, -1, nI n, nI (hoV V p), false, l) P (upd L p (L p &&& ((nI 1 <<< (nI y &&& 31)) ^^^ (-1)))) (S, s.2.2.1, s.2.2.2.1) 4).2.1, (mgF V (-1, -1, nI n, nI (hoV V p), false, l) P (upd L p (L p &&& ((nI 1 <<< (nI y &&& 31)) ^^^ (-1)))) (S, s.2.2.1, s.2.2.2.1) 4).2.2) p < smR V (-1, -1, nI n, nI (hoV V p), false, l) P (upd L p (L p &&& ((nI 1 <<< (nI y &&& 31)) ^^^ (-1)))) (S, s.2.2.1, s.2.2.2.1) p)) = true := h1
      exact ⟨if_neg (by simpa using h3), rfl⟩
    · exact absurd (show (itB (edS V l S P L a p y) q (n + 1)).1 = true from h1) (by rw [itB_fr (Nat.le_succ n) (bnt h2)]; exact h2)
set_option maxHeartbeats 4000000 in
set_option maxRecDepth 100000 in
theorem m_edge (E : EnvT) (ad r : Nat → Nat) (i : Nat → Int32) (V : Vil) (w : Int32) (l : Bool) (lg ll : Int32) (W : Nat → Nat) (B f : Nat → Int32) (bp : Nat → Nat) (G : Nat → Int32) (S : Scn) (P : Nat → Nat) (L : Nat → Int32) (a : Nat) (x y : Int32) (hV : Vok V) (hS : Sle V S) (hP : Pok V P) (ht : psS S < 2 ^ 29) : Md E mX10_edge ad [.ref (ad 0), .int x, .int y] (mtJ E ad r i V (w, l, lg, ll, W, B, f, bp, G) (rwF S P L a)) (some (.int (if (ixB x (npV V) && ixB y (npV V) && !decide (x = y)) then (if hoV V (nN x) < 5 then (itB (edS V l S P L a (nN x) (nN y)) (-1, nI 0, W, B, f) 21).2.1 else -4) else -2))) (mtJ E ad r i V (if (ixB x (npV V) && ixB y (npV V) && !decide (x = y)) then (if hoV V (nN x) < 5 then ((itB (edS V l S P L a (nN x) (nN y)) (-1, nI 0, W, B, f) 21).2.2.1, l, lg, ll, (itB (edS V l S P L a (nN x) (nN y)) (-1, nI 0, W, B, f) 21).2.2.2.1, (itB (edS V l S P L a (nN x) (nN y)) (-1, nI 0, W, B, f) 21).2.2.2.2.1, (itB (edS V l S P L a (nN x) (nN y)) (-1, nI 0, W, B, f) 21).2.2.2.2.2, bp, G) else (w, l, lg, ll, W, B, f, bp, G)) else (w, l, lg, ll, W, B, f, bp, G)) (rwF S P L a)) := by
  have v1 := hV.1
  have v2 := hV.2.1
  by_cases hc : (ixB x (npV V) && ixB y (npV V) && !decide (x = y)) = true
  · rw [if_pos hc, if_pos hc]
    have hc0 := Bool.and_eq_true_iff.mp hc
    have hc1 : ixB x (npV V) = true := (Bool.and_eq_true_iff.mp hc0.1).1
    have hc2 : ixB y (npV V) = true := (Bool.and_eq_true_iff.mp hc0.1).2
    have hc3 : ¬ x = y := by simpa using hc0.2
    obtain ⟨p, hp, rfl⟩ := ixB_n v2 hc1
    obtain ⟨f0, hf0, rfl⟩ := ixB_n v2 hc2
    rw [nN_n (show p < 2 ^ 31 by omega), nN_n (show f0 < 2 ^ 31 by omega)]
    have v4 := hV.2.2.2.1 p hp
    by_cases hh : hoV V p < 5
    · rw [if_pos hh, if_pos hh]
      show Md E _ ad _ (mtC E ad r i V (-1, -1, w, -1, false, l) lg ll W B f (rwF S P L a) bp G) _ (mtC E ad r i V (-1, -1, (itB (edS V l S P L a p f0) (-1, nI 0, W, B, f) 21).2.2.1, -1, false, l) lg ll (itB (edS V l S P L a p f0) (-1, nI 0, W, B, f) 21).2.2.2.1 (itB (edS V l S P L a p f0) (-1, nI 0, W, B, f) 21).2.2.2.2.1 (itB (edS V l S P L a p f0) (-1, nI 0, W, B, f) 21).2.2.2.2.2 (rwF S P L a) bp G)
      have hb1 := edS_1 V l S P L a p f0 (-1, nI 0, W, B, f) rfl rfl
      generalize hR : (itB (edS V l S P L a p f0) (-1, nI 0, W, B, f) 21) = R
      refine Md.of 2 (by decide) rfl rfl ?_
      refine Tr.aload_n (i := 0) dX10_edge_0 rfl rfl (Eq.refl 1) ?_
      refine Tr.iload_n (i := 1) dX10_edge_1 rfl rfl (Eq.refl 2) ?_
      refine Tr.callVr (L := [0]) (m_isPerson E _ (rP ad r) (iP V (-1, -1, w, -1, false, l) lg ll i) (nhV V) (npV V) (nI p) v2) dX10_edge_2 (kX10_309 (Nat.le_of_ble_eq_true rfl)) iX10_isPerson rfl rfl rfl rfl rfl rfl rfl rfl rfl (Eq.refl 5) ?_
      refine Tr.if_eqB (tgt := 21) dX10_edge_5 (by decide) (Eq.refl 8) (fun h5 => ?_) (fun h5 => ?_)
      · exact absurd (hc1.symm.trans h5) (by decide)
      · refine Tr.aload_n (i := 0) dX10_edge_8 rfl rfl (Eq.refl 9) ?_
        refine Tr.iload_n (i := 2) dX10_edge_9 rfl rfl (Eq.refl 10) ?_
        refine Tr.callVr (L := [0]) (m_isPerson E _ (rP ad r) (iP V (-1, -1, w, -1, false, l) lg ll i) (nhV V) (npV V) (nI f0) v2) dX10_edge_10 (kX10_309 (Nat.le_of_ble_eq_true rfl)) iX10_isPerson rfl rfl rfl rfl rfl rfl rfl rfl rfl (Eq.refl 13) ?_
        refine Tr.if_eqB (tgt := 21) dX10_edge_13 (by decide) (Eq.refl 16) (fun h13 => ?_) (fun h13 => ?_)
        · exact absurd (hc2.symm.trans h13) (by decide)
        · refine Tr.iload_n (i := 1) dX10_edge_16 rfl rfl (Eq.refl 17) ?_
          refine Tr.iload_n (i := 2) dX10_edge_17 rfl rfl (Eq.refl 18) ?_
          refine Tr.icmp_neN (tgt := 24) dX10_edge_18 (by decide) (Eq.refl 21) (by omega) (by omega) (fun h18 => ?_) (fun h18 => ?_)
          · refine Tr.aload_n (i := 0) dX10_edge_24 rfl rfl (Eq.refl 25) ?_
            refine Tr.getf dX10_edge_25 fX10_212 rfl rfl (Eq.refl 28) ?_
            refine Tr.iload_n (i := 1) dX10_edge_28 rfl rfl (Eq.refl 29) ?_
            refine Tr.ialdN dX10_edge_29 rfl (by omega) (by decide) (Eq.refl 30) ?_
            refine Tr.iconst (v := (-1)) dX10_edge_30 (by decide +kernel) (Eq.refl 31) ?_
            refine Tr.icmp_ne (tgt := 37) dX10_edge_31 (by decide) (Eq.refl 34) (fun h31 => ?_) (fun h31 => ?_)
            · refine Tr.iconst (v := (-1)) dX10_edge_37 (by decide +kernel) (Eq.refl 38) ?_
              refine Tr.istore_n (i := 3) dX10_edge_38 rfl rfl rfl (Eq.refl 39) ?_
              refine Tr.aload_n (i := 0) dX10_edge_39 rfl rfl (Eq.refl 40) ?_
              refine Tr.aload_n (i := 0) dX10_edge_40 rfl rfl (Eq.refl 41) ?_
              refine Tr.getf dX10_edge_41 fX10_212 rfl rfl (Eq.refl 44) ?_
              refine Tr.iload_n (i := 1) dX10_edge_44 rfl rfl (Eq.refl 45) ?_
              refine Tr.ialdN dX10_edge_45 rfl (by omega) (by decide) (Eq.refl 46) ?_
              rw [cl_lt hh]
              refine Tr.putf dX10_edge_46 pX10_233 rfl (rfl) (rfl) rfl (Eq.refl 49) ?_
              refine Tr.aload_n (i := 0) dX10_edge_49 rfl rfl (Eq.refl 50) ?_
              refine Tr.iconst (v := nI 0) dX10_edge_50 (icN 0) (Eq.refl 51) ?_
              refine Tr.putf dX10_edge_51 pX10_230 rfl (rfl) (rfl) rfl (Eq.refl 54) ?_
              skip
              refine Tr.mask [true, true, true, true, true] (lv' := [some (.ref (ad 0)), some (.int (nI p)), some (.int (nI f0)), some (.int (-1)), none]) rfl ?_
              refine Tr.pic (w' := (mtC E ad r i V (-1, -1, nI 0, nI (hoV V p), false, l) lg ll (itB (edS V l S P L a p f0) (-1, nI 0, W, B, f) 0).2.2.2.1 (itB (edS V l S P L a p f0) (-1, nI 0, W, B, f) 0).2.2.2.2.1 (itB (edS V l S P L a p f0) (-1, nI 0, W, B, f) 0).2.2.2.2.2 (rwF S P L a) bp G)) rfl ?_
              refine loopD (P := fun j => (itB (edS V l S P L a p f0) (-1, nI 0, W, B, f) j).1 = true → Tr _ 0 0 54 [some (.ref (ad 0)), some (.int (nI p)), some (.int (nI f0)), some (.int (-1)), none] [] (mtC E ad r i V (-1, -1, nI j, nI (hoV V p), false, l) lg ll (itB (edS V l S P L a p f0) (-1, nI 0, W, B, f) j).2.2.2.1 (itB (edS V l S P L a p f0) (-1, nI 0, W, B, f) j).2.2.2.2.1 (itB (edS V l S P L a p f0) (-1, nI 0, W, B, f) j).2.2.2.2.2 (rwF S P L a) bp G)) 21 (fun hn => ?_) (fun j hj ih hn => ?_) rfl
              · have hz := hb1 21 hn
                rw [hR] at hn hz ⊢
                rw [hz.1, hz.2]
                refine Tr.aload_n (i := 0) dX10_edge_54 rfl rfl (Eq.refl 55) ?_
                refine Tr.getf dX10_edge_55 fX10_230 rfl rfl (Eq.refl 58) ?_
                refine Tr.bipush (v := nI 20) dX10_edge_58 (by decide +kernel) (Eq.refl 60) ?_
                refine Tr.icmp_gtN (tgt := 143) dX10_edge_60 (by decide) (Eq.refl 63) (by omega) (by omega) (fun h60 => ?_) (fun h60 => ?_)
                · refine Tr.aload_n (i := 0) dX10_edge_143 rfl rfl (Eq.refl 144) ?_
                  refine Tr.iconst (v := (-1)) dX10_edge_144 (by decide +kernel) (Eq.refl 145) ?_
                  refine Tr.putf dX10_edge_145 pX10_233 rfl (rfl) (rfl) rfl (Eq.refl 148) ?_
                  refine Tr.iload_n (i := 3) dX10_edge_148 rfl rfl (Eq.refl 149) ?_
                  refine Tr.iret dX10_edge_149 rfl (by first | rfl | exact bI_nar _) ?_ ?_
                  · rfl
                  · rfl
                · exact absurd h60 (by omega)
              · have hs := itB_s hn
                have hf : (itB (edS V l S P L a p f0) (-1, nI 0, W, B, f) (j + 1)).1 = false → R = (itB (edS V l S P L a p f0) (-1, nI 0, W, B, f) (j + 1)) := fun z9 => by rw [← hR]; exact itB_fr (Nat.succ_le_of_lt hj) z9
                rw [hs] at ih hf
                clear hs hb1
                generalize (itB (edS V l S P L a p f0) (-1, nI 0, W, B, f) j).2 = q at *
                obtain ⟨fd, w1, W1, B1, f1⟩ := q
                have hu : edS V l S P L a p f0 j (fd, w1, W1, B1, f1) = (!decide (smR V (-1, -1, nI j, nI (hoV V p), false, l) P (upd L p (L p ||| (nI 1 <<< (nI f0 &&& 31)))) (S, (mgF V (-1, -1, nI j, nI (hoV V p), false, l) P (upd L p (L p &&& ((nI 1 <<< (nI f0 &&& 31)) ^^^ (-1)))) (S, W1, B1) 4).2.1, (mgF V (-1, -1, nI j, nI (hoV V p), false, l) P (upd L p (L p &&& ((nI 1 <<< (nI f0 &&& 31)) ^^^ (-1)))) (S, W1, B1) 4).2.2) p < smR V (-1, -1, nI j, nI (hoV V p), false, l) P (upd L p (L p &&& ((nI 1 <<< (nI f0 &&& 31)) ^^^ (-1)))) (S, W1, B1) p), if smR V (-1, -1, nI j, nI (hoV V p), false, l) P (upd L p (L p ||| (nI 1 <<< (nI f0 &&& 31)))) (S, (mgF V (-1, -1, nI j, nI (hoV V p), false, l) P (upd L p (L p &&& ((nI 1 <<< (nI f0 &&& 31)) ^^^ (-1)))) (S, W1, B1) 4).2.1, (mgF V (-1, -1, nI j, nI (hoV V p), false, l) P (upd L p (L p &&& ((nI 1 <<< (nI f0 &&& 31)) ^^^ (-1)))) (S, W1, B1) 4).2.2) p < smR V (-1, -1, nI j, nI (hoV V p), false, l) P (upd L p (L p &&& ((nI 1 <<< (nI f0 &&& 31)) ^^^ (-1)))) (S, W1, B1) p then nI j else -1, nI (j + 1), (mgF V (-1, -1, nI j, nI (hoV V p), false, l) P (upd L p (L p ||| (nI 1 <<< (nI f0 &&& 31)))) (S, (mgF V (-1, -1, nI j, nI (hoV V p), false, l) P (upd L p (L p &&& ((nI 1 <<< (nI f0 &&& 31)) ^^^ (-1)))) (S, W1, B1) 4).2.1, (mgF V (-1, -1, nI j, nI (hoV V p), false, l) P (upd L p (L p &&& ((nI 1 <<< (nI f0 &&& 31)) ^^^ (-1)))) (S, W1, B1) 4).2.2) 4).2.1, (mgF V (-1, -1, nI j, nI (hoV V p), false, l) P (upd L p (L p ||| (nI 1 <<< (nI f0 &&& 31)))) (S, (mgF V (-1, -1, nI j, nI (hoV V p), false, l) P (upd L p (L p &&& ((nI 1 <<< (nI f0 &&& 31)) ^^^ (-1)))) (S, W1, B1) 4).2.1, (mgF V (-1, -1, nI j, nI (hoV V p), false, l) P (upd L p (L p &&& ((nI 1 <<< (nI f0 &&& 31)) ^^^ (-1)))) (S, W1, B1) 4).2.2) 4).2.2, rwF (mgF V (-1, -1, nI j, nI (hoV V p), false, l) P (upd L p (L p ||| (nI 1 <<< (nI f0 &&& 31)))) (S, (mgF V (-1, -1, nI j, nI (hoV V p), false, l) P (upd L p (L p &&& ((nI 1 <<< (nI f0 &&& 31)) ^^^ (-1)))) (S, W1, B1) 4).2.1, (mgF V (-1, -1, nI j, nI (hoV V p), false, l) P (upd L p (L p &&& ((nI 1 <<< (nI f0 &&& 31)) ^^^ (-1)))) (S, W1, B1) 4).2.2) 4).1 P (upd L p (L p ||| (nI 1 <<< (nI f0 &&& 31)))) a) := rfl
                rw [hu] at ih hf
                clear hu
                show Tr _ 0 0 54 _ _ (mtC E ad r i V (-1, -1, nI j, nI (hoV V p), false, l) lg ll W1 B1 f1 (rwF S P L a) bp G)
                refine Tr.aload_n (i := 0) dX10_edge_54 rfl rfl (Eq.refl 55) ?_
                refine Tr.getf dX10_edge_55 fX10_230 rfl rfl (Eq.refl 58) ?_
                refine Tr.bipush (v := nI 20) dX10_edge_58 (by decide +kernel) (Eq.refl 60) ?_
                refine Tr.icmp_gtN (tgt := 143) dX10_edge_60 (by decide) (Eq.refl 63) (by omega) (by omega) (fun h60 => ?_) (fun h60 => ?_)
                · exact absurd h60 (by omega)
                · refine Tr.iload_n (i := 3) dX10_edge_63 rfl rfl (Eq.refl 64) ?_
                  refine Tr.iconst (v := (-1)) dX10_edge_64 (by decide +kernel) (Eq.refl 65) ?_
                  refine Tr.icmp_ne (tgt := 143) dX10_edge_65 (by decide) (Eq.refl 68) (fun h65 => ?_) (fun h65 => ?_)
                  · exact absurd rfl h65
                  · refine Tr.aload_n (i := 0) dX10_edge_68 rfl rfl (Eq.refl 69) ?_
                    refine Tr.callVs (m_copyNow E ad r i V (-1, -1, nI j, nI (hoV V p), false, l) lg ll W1 B1 f1 _ bp G) dX10_edge_69 (kX10_402 (Nat.le_of_ble_eq_true rfl)) iX10_copyNow rfl rfl rfl rfl rfl (mt_le) rfl rfl (Eq.refl 72) ?_
                    refine Tr.aload_n (i := 0) dX10_edge_72 rfl rfl (Eq.refl 73) ?_
                    refine Tr.getf dX10_edge_73 fX10_222 rfl rfl (Eq.refl 76) ?_
                    refine Tr.bipush (v := nI 30) dX10_edge_76 (by decide +kernel) (Eq.refl 78) ?_
                    refine Tr.iload_n (i := 1) dX10_edge_78 rfl rfl (Eq.refl 79) ?_
                    refine Tr.iaddN dX10_edge_79 (Eq.refl 80) ?_
                    refine Tr.dup2 dX10_edge_80 rfl rfl (Eq.refl 81) ?_
                    refine Tr.ialdN dX10_edge_81 rfl (by omega) (by decide) (Eq.refl 82) ?_
                    refine Tr.top (rd_le (by omega)) ?_
                    refine Tr.iconst (v := nI 1) dX10_edge_82 (icN 1) (Eq.refl 83) ?_
                    refine Tr.iload_n (i := 2) dX10_edge_83 rfl rfl (Eq.refl 84) ?_
                    refine Tr.ishl dX10_edge_84 (Eq.refl 85) ?_
                    refine Tr.iconst (v := (-1)) dX10_edge_85 (by decide +kernel) (Eq.refl 86) ?_
                    refine Tr.ixor dX10_edge_86 (Eq.refl 87) ?_
                    refine Tr.iand dX10_edge_87 (Eq.refl 88) ?_
                    refine Tr.iastN dX10_edge_88 rfl (by omega) (by decide) (Eq.refl 89) ?_
                    refine Tr.pic (mt_lt (by omega)) ?_
                    refine Tr.aload_n (i := 0) dX10_edge_89 rfl rfl (Eq.refl 90) ?_
                    refine Tr.iload_n (i := 1) dX10_edge_90 rfl rfl (Eq.refl 91) ?_
                    refine Tr.callVs (m_sumOf E ad r i V (-1, -1, nI j, nI (hoV V p), false, l) lg ll W1 B1 _ bp G S P (upd L p (L p &&& ((nI 1 <<< (nI f0 &&& 31)) ^^^ (-1)))) a p hV hS hP ht hp) dX10_edge_91 (kX10_405 (Nat.le_of_ble_eq_true rfl)) iX10_sumOf rfl rfl rfl rfl rfl (mt_le) rfl rfl (Eq.refl 94) ?_
                    generalize smR V (-1, -1, nI j, nI (hoV V p), false, l) P (upd L p (L p &&& ((nI 1 <<< (nI f0 &&& 31)) ^^^ (-1)))) (S, W1, B1) p = sm1 at *
                    generalize (mgF V (-1, -1, nI j, nI (hoV V p), false, l) P (upd L p (L p &&& ((nI 1 <<< (nI f0 &&& 31)) ^^^ (-1)))) (S, W1, B1) 4) = q1 at *
                    obtain ⟨Sx, W2, B2⟩ := q1
                    refine Tr.istore dX10_edge_94 rfl rfl (Eq.refl 96) ?_
                    refine Tr.aload_n (i := 0) dX10_edge_96 rfl rfl (Eq.refl 97) ?_
                    refine Tr.callVs (m_copyNow E ad r i V (-1, -1, nI j, nI (hoV V p), false, l) lg ll W2 B2 _ _ bp G) dX10_edge_97 (kX10_402 (Nat.le_of_ble_eq_true rfl)) iX10_copyNow rfl rfl rfl rfl rfl (mt_le) rfl rfl (Eq.refl 100) ?_
                    refine Tr.aload_n (i := 0) dX10_edge_100 rfl rfl (Eq.refl 101) ?_
                    refine Tr.getf dX10_edge_101 fX10_222 rfl rfl (Eq.refl 104) ?_
                    refine Tr.bipush (v := nI 30) dX10_edge_104 (by decide +kernel) (Eq.refl 106) ?_
                    refine Tr.iload_n (i := 1) dX10_edge_106 rfl rfl (Eq.refl 107) ?_
                    refine Tr.iaddN dX10_edge_107 (Eq.refl 108) ?_
                    refine Tr.dup2 dX10_edge_108 rfl rfl (Eq.refl 109) ?_
                    refine Tr.ialdN dX10_edge_109 rfl (by omega) (by decide) (Eq.refl 110) ?_
                    refine Tr.top (rd_le (by omega)) ?_
                    refine Tr.iconst (v := nI 1) dX10_edge_110 (icN 1) (Eq.refl 111) ?_
                    refine Tr.iload_n (i := 2) dX10_edge_111 rfl rfl (Eq.refl 112) ?_
                    refine Tr.ishl dX10_edge_112 (Eq.refl 113) ?_
                    refine Tr.ior dX10_edge_113 (Eq.refl 114) ?_
                    refine Tr.iastN dX10_edge_114 rfl (by omega) (by decide) (Eq.refl 115) ?_
                    refine Tr.pic (mt_lt (by omega)) ?_
                    refine Tr.iload dX10_edge_115 rfl (Eq.refl 117) ?_
                    refine Tr.aload_n (i := 0) dX10_edge_117 rfl rfl (Eq.refl 118) ?_
                    refine Tr.iload_n (i := 1) dX10_edge_118 rfl rfl (Eq.refl 119) ?_
                    refine Tr.callVs (m_sumOf E ad r i V (-1, -1, nI j, nI (hoV V p), false, l) lg ll W2 B2 _ bp G S P (upd L p (L p ||| (nI 1 <<< (nI f0 &&& 31)))) a p hV hS hP ht hp) dX10_edge_119 (kX10_405 (Nat.le_of_ble_eq_true rfl)) iX10_sumOf rfl rfl rfl rfl rfl (mt_le) rfl rfl (Eq.refl 122) ?_
                    generalize smR V (-1, -1, nI j, nI (hoV V p), false, l) P (upd L p (L p ||| (nI 1 <<< (nI f0 &&& 31)))) (S, W2, B2) p = sm2 at *
                    generalize mgF V (-1, -1, nI j, nI (hoV V p), false, l) P (upd L p (L p ||| (nI 1 <<< (nI f0 &&& 31)))) (S, W2, B2) 4 = q2 at *
                    refine Tr.icmp_leL (tgt := 130) dX10_edge_122 (by decide) (Eq.refl 125) (fun h122 => ?_) (fun h122 => ?_)
                    · rw [if_neg h122] at ih
                      refine Tr.aload_n (i := 0) dX10_edge_130 rfl rfl (Eq.refl 131) ?_
                      refine Tr.dup dX10_edge_131 rfl (Eq.refl 132) ?_
                      refine Tr.getf dX10_edge_132 fX10_230 rfl rfl (Eq.refl 135) ?_
                      refine Tr.iconst (v := nI 1) dX10_edge_135 (icN 1) (Eq.refl 136) ?_
                      refine Tr.iaddN dX10_edge_136 (Eq.refl 137) ?_
                      refine Tr.putf dX10_edge_137 pX10_230 rfl (rfl) (rfl) rfl (Eq.refl 140) ?_
                      refine Tr.goto (pc' := 54) dX10_edge_140 (by decide) ?_
                      exact Tr.mask [true, true, true, true, false] rfl (ih (by simp [h122]))
                    · rw [if_pos h122] at hf
                      rw [hf (by simp [h122])]
                      refine Tr.aload_n (i := 0) dX10_edge_125 rfl rfl (Eq.refl 126) ?_
                      refine Tr.getf dX10_edge_126 fX10_230 rfl rfl (Eq.refl 129) ?_
                      refine Tr.istore_n (i := 3) dX10_edge_129 rfl rfl rfl (Eq.refl 130) ?_
                      refine Tr.aload_n (i := 0) dX10_edge_130 rfl rfl (Eq.refl 131) ?_
                      refine Tr.dup dX10_edge_131 rfl (Eq.refl 132) ?_
                      refine Tr.getf dX10_edge_132 fX10_230 rfl rfl (Eq.refl 135) ?_
                      refine Tr.iconst (v := nI 1) dX10_edge_135 (icN 1) (Eq.refl 136) ?_
                      refine Tr.iaddN dX10_edge_136 (Eq.refl 137) ?_
                      refine Tr.putf dX10_edge_137 pX10_230 rfl (rfl) (rfl) rfl (Eq.refl 140) ?_
                      refine Tr.goto (pc' := 54) dX10_edge_140 (by decide) ?_
                      refine Tr.aload_n (i := 0) dX10_edge_54 rfl rfl (Eq.refl 55) ?_
                      refine Tr.getf dX10_edge_55 fX10_230 rfl rfl (Eq.refl 58) ?_
                      refine Tr.bipush (v := nI 20) dX10_edge_58 (by decide +kernel) (Eq.refl 60) ?_
                      refine Tr.icmp_gtN (tgt := 143) dX10_edge_60 (by decide) (Eq.refl 63) (by omega) (by omega) (fun h60 => ?_) (fun h60 => ?_)
                      · refine Tr.aload_n (i := 0) dX10_edge_143 rfl rfl (Eq.refl 144) ?_
                        refine Tr.iconst (v := (-1)) dX10_edge_144 (by decide +kernel) (Eq.refl 145) ?_
                        refine Tr.putf dX10_edge_145 pX10_233 rfl (rfl) (rfl) rfl (Eq.refl 148) ?_
                        refine Tr.iload_n (i := 3) dX10_edge_148 rfl rfl (Eq.refl 149) ?_
                        refine Tr.iret dX10_edge_149 rfl (by first | rfl | exact bI_nar _) ?_ ?_
                        · rfl
                        · rfl
                      · refine Tr.iload_n (i := 3) dX10_edge_63 rfl rfl (Eq.refl 64) ?_
                        refine Tr.iconst (v := (-1)) dX10_edge_64 (by decide +kernel) (Eq.refl 65) ?_
                        refine Tr.icmp_ne (tgt := 143) dX10_edge_65 (by decide) (Eq.refl 68) (fun h65 => ?_) (fun h65 => ?_)
                        · refine Tr.aload_n (i := 0) dX10_edge_143 rfl rfl (Eq.refl 144) ?_
                          refine Tr.iconst (v := (-1)) dX10_edge_144 (by decide +kernel) (Eq.refl 145) ?_
                          refine Tr.putf dX10_edge_145 pX10_233 rfl (rfl) (rfl) rfl (Eq.refl 148) ?_
                          refine Tr.iload_n (i := 3) dX10_edge_148 rfl rfl (Eq.refl 149) ?_
                          refine Tr.iret dX10_edge_149 rfl (by first | rfl | exact bI_nar _) ?_ ?_
                          · rfl
                          · rfl
                        · exact absurd h65 (nI_nm1 (by omega))
            · exact absurd hh (cl_none.mp h31)
          · exact absurd (by rw [h18]) hc3
    · rw [if_neg hh, if_neg hh]
      show Md E _ ad _ (mtC E ad r i V (-1, -1, w, -1, false, l) lg ll W B f (rwF S P L a) bp G) _ (mtC E ad r i V (-1, -1, w, -1, false, l) lg ll W B f (rwF S P L a) bp G)
      refine Md.of 2 (by decide) rfl rfl ?_
      refine Tr.aload_n (i := 0) dX10_edge_0 rfl rfl (Eq.refl 1) ?_
      refine Tr.iload_n (i := 1) dX10_edge_1 rfl rfl (Eq.refl 2) ?_
      refine Tr.callVr (L := [0]) (m_isPerson E _ (rP ad r) (iP V (-1, -1, w, -1, false, l) lg ll i) (nhV V) (npV V) (nI p) v2) dX10_edge_2 (kX10_309 (Nat.le_of_ble_eq_true rfl)) iX10_isPerson rfl rfl rfl rfl rfl rfl rfl rfl rfl (Eq.refl 5) ?_
      refine Tr.if_eqB (tgt := 21) dX10_edge_5 (by decide) (Eq.refl 8) (fun h5 => ?_) (fun h5 => ?_)
      · exact absurd (hc1.symm.trans h5) (by decide)
      · refine Tr.aload_n (i := 0) dX10_edge_8 rfl rfl (Eq.refl 9) ?_
        refine Tr.iload_n (i := 2) dX10_edge_9 rfl rfl (Eq.refl 10) ?_
        refine Tr.callVr (L := [0]) (m_isPerson E _ (rP ad r) (iP V (-1, -1, w, -1, false, l) lg ll i) (nhV V) (npV V) (nI f0) v2) dX10_edge_10 (kX10_309 (Nat.le_of_ble_eq_true rfl)) iX10_isPerson rfl rfl rfl rfl rfl rfl rfl rfl rfl (Eq.refl 13) ?_
        refine Tr.if_eqB (tgt := 21) dX10_edge_13 (by decide) (Eq.refl 16) (fun h13 => ?_) (fun h13 => ?_)
        · exact absurd (hc2.symm.trans h13) (by decide)
        · refine Tr.iload_n (i := 1) dX10_edge_16 rfl rfl (Eq.refl 17) ?_
          refine Tr.iload_n (i := 2) dX10_edge_17 rfl rfl (Eq.refl 18) ?_
          refine Tr.icmp_neN (tgt := 24) dX10_edge_18 (by decide) (Eq.refl 21) (by omega) (by omega) (fun h18 => ?_) (fun h18 => ?_)
          · refine Tr.aload_n (i := 0) dX10_edge_24 rfl rfl (Eq.refl 25) ?_
            refine Tr.getf dX10_edge_25 fX10_212 rfl rfl (Eq.refl 28) ?_
            refine Tr.iload_n (i := 1) dX10_edge_28 rfl rfl (Eq.refl 29) ?_
            refine Tr.ialdN dX10_edge_29 rfl (by omega) (by decide) (Eq.refl 30) ?_
            refine Tr.iconst (v := (-1)) dX10_edge_30 (by decide +kernel) (Eq.refl 31) ?_
            refine Tr.icmp_ne (tgt := 37) dX10_edge_31 (by decide) (Eq.refl 34) (fun h31 => ?_) (fun h31 => ?_)
            · exact absurd (cl_none.mpr hh) h31
            · refine Tr.bipush (v := (-4)) dX10_edge_34 (by decide +kernel) (Eq.refl 36) ?_
              refine Tr.iret dX10_edge_36 rfl (by first | rfl | exact bI_nar _) ?_ ?_
              · rfl
              · rfl
          · exact absurd (by rw [h18]) hc3
  · rw [if_neg hc, if_neg hc]
    show Md E _ ad _ (mtC E ad r i V (-1, -1, w, -1, false, l) lg ll W B f (rwF S P L a) bp G) _ (mtC E ad r i V (-1, -1, w, -1, false, l) lg ll W B f (rwF S P L a) bp G)
    refine Md.of 2 (by decide) rfl rfl ?_
    refine Tr.aload_n (i := 0) dX10_edge_0 rfl rfl (Eq.refl 1) ?_
    refine Tr.iload_n (i := 1) dX10_edge_1 rfl rfl (Eq.refl 2) ?_
    refine Tr.callVr (L := [0]) (m_isPerson E _ (rP ad r) (iP V (-1, -1, w, -1, false, l) lg ll i) (nhV V) (npV V) x v2) dX10_edge_2 (kX10_309 (Nat.le_of_ble_eq_true rfl)) iX10_isPerson rfl rfl rfl rfl rfl rfl rfl rfl rfl (Eq.refl 5) ?_
    refine Tr.if_eqB (tgt := 21) dX10_edge_5 (by decide) (Eq.refl 8) (fun h5 => ?_) (fun h5 => ?_)
    · refine Tr.bipush (v := (-2)) dX10_edge_21 (by decide +kernel) (Eq.refl 23) ?_
      refine Tr.iret dX10_edge_23 rfl (by first | rfl | exact bI_nar _) ?_ ?_
      · rfl
      · rfl
    · refine Tr.aload_n (i := 0) dX10_edge_8 rfl rfl (Eq.refl 9) ?_
      refine Tr.iload_n (i := 2) dX10_edge_9 rfl rfl (Eq.refl 10) ?_
      refine Tr.callVr (L := [0]) (m_isPerson E _ (rP ad r) (iP V (-1, -1, w, -1, false, l) lg ll i) (nhV V) (npV V) y v2) dX10_edge_10 (kX10_309 (Nat.le_of_ble_eq_true rfl)) iX10_isPerson rfl rfl rfl rfl rfl rfl rfl rfl rfl (Eq.refl 13) ?_
      refine Tr.if_eqB (tgt := 21) dX10_edge_13 (by decide) (Eq.refl 16) (fun h13 => ?_) (fun h13 => ?_)
      · refine Tr.bipush (v := (-2)) dX10_edge_21 (by decide +kernel) (Eq.refl 23) ?_
        refine Tr.iret dX10_edge_23 rfl (by first | rfl | exact bI_nar _) ?_ ?_
        · rfl
        · rfl
      · refine Tr.iload_n (i := 1) dX10_edge_16 rfl rfl (Eq.refl 17) ?_
        refine Tr.iload_n (i := 2) dX10_edge_17 rfl rfl (Eq.refl 18) ?_
        refine Tr.icmp_ne (tgt := 24) dX10_edge_18 (by decide) (Eq.refl 21) (fun h18 => ?_) (fun h18 => ?_)
        · exact absurd (by rw [h5, h13]; simp [h18]) hc
        · refine Tr.bipush (v := (-2)) dX10_edge_21 (by decide +kernel) (Eq.refl 23) ?_
          refine Tr.iret dX10_edge_23 rfl (by first | rfl | exact bI_nar _) ?_ ?_
          · rfl
          · rfl
/-- all gains beyond those of the beginning, all state lost: the first so many -/
def lgF (S S2 : Scn) : Nat → Int32
  | 0 => nI 0
  | p + 1 => lgF S S2 p + (alS S2 p - alS S p)
def loF (S S2 : Scn) : Nat → Int32
  | 0 => nI 0
  | h + 1 => loF S S2 h + (stS S h - stS S2 h)
set_option maxHeartbeats 4000000 in
set_option maxRecDepth 100000 in
theorem m_tryLaw (E : EnvT) (ad r : Nat → Nat) (i : Nat → Int32) (V : Vil) (w : Int32) (l : Bool) (lg ll : Int32) (W : Nat → Nat) (B f : Nat → Int32) (bp : Nat → Nat) (G : Nat → Int32) (S : Scn) (P : Nat → Nat) (L : Nat → Int32) (a : Nat) (b : Bool) (c d : Nat) (hV : Vok V) (hS : Sle V S) (hP : Pok V P) (ht : psS S < 2 ^ 29) (hd : d ≤ 20) : Md E mX10_tryLaw ad [.ref (ad 0), .int (bI b), .int (nI c), .int (nI d)] (mtC E ad r i V (-1, -1, w, -1, false, l) lg ll W B f (rwF S P L a) bp G) none (mtC E ad r i V (-1, -1, w, -1, false, b) (lgF S (mgF V (nI c, -1, w, -1, true, b) P L (S, W, B) (4 * d)).1 (npV V)) (loF S (mgF V (nI c, -1, w, -1, true, b) P L (S, W, B) (4 * d)).1 (nhV V)) (mgF V (nI c, -1, w, -1, true, b) P L (S, W, B) (4 * d)).2.1 (mgF V (nI c, -1, w, -1, true, b) P L (S, W, B) (4 * d)).2.2 (rwF (mgF V (nI c, -1, w, -1, true, b) P L (S, W, B) (4 * d)).1 P L a) (rwF S P L a) bp G) := by
  have v1 := hV.1
  have v2 := hV.2.1
  refine Md.of 1 (by decide) rfl rfl ?_
  refine Tr.aload_n (i := 0) dX10_tryLaw_0 rfl rfl (Eq.refl 1) ?_
  refine Tr.iload_n (i := 2) dX10_tryLaw_1 rfl rfl (Eq.refl 2) ?_
  refine Tr.putf dX10_tryLaw_2 pX10_225 rfl (rfl) (rfl) rfl (Eq.refl 5) ?_
  refine Tr.pic (w' := (mtC E ad r i V (nI c, -1, w, -1, false, l) lg ll W B f (rwF S P L a) bp G)) rfl ?_
  refine Tr.aload_n (i := 0) dX10_tryLaw_5 rfl rfl (Eq.refl 6) ?_
  refine Tr.iconst (v := nI 1) dX10_tryLaw_6 (icN 1) (Eq.refl 7) ?_
  refine Tr.putf dX10_tryLaw_7 pX10_315 rfl (rfl) (rfl) rfl (Eq.refl 10) ?_
  refine Tr.pic (w' := (mtC E ad r i V (nI c, -1, w, -1, true, l) lg ll W B f (rwF S P L a) bp G)) rfl ?_
  refine Tr.aload_n (i := 0) dX10_tryLaw_10 rfl rfl (Eq.refl 11) ?_
  refine Tr.iload_n (i := 1) dX10_tryLaw_11 rfl rfl (Eq.refl 12) ?_
  refine Tr.putf dX10_tryLaw_12 pX10_318 rfl (bI_nar _) (bI_fit _) rfl (Eq.refl 15) ?_
  refine Tr.pic (w' := (mtC E ad r i V (nI c, -1, w, -1, true, b) lg ll W B f (rwF S P L a) bp G)) rfl ?_
  refine Tr.aload_n (i := 0) dX10_tryLaw_15 rfl rfl (Eq.refl 16) ?_
  refine Tr.callVs (m_copyNow E ad r i V (nI c, -1, w, -1, true, b) lg ll W B f _ bp G) dX10_tryLaw_16 (kX10_402 (Nat.le_of_ble_eq_true rfl)) iX10_copyNow rfl rfl rfl rfl rfl (mt_le) rfl rfl (Eq.refl 19) ?_
  refine Tr.aload_n (i := 0) dX10_tryLaw_19 rfl rfl (Eq.refl 20) ?_
  refine Tr.iconst (v := nI 4) dX10_tryLaw_20 (icN 4) (Eq.refl 21) ?_
  refine Tr.iload_n (i := 3) dX10_tryLaw_21 rfl rfl (Eq.refl 22) ?_
  refine Tr.imulN dX10_tryLaw_22 (Eq.refl 23) ?_
  refine Tr.callVs (m_goTrial E ad r i V (nI c, -1, w, -1, true, b) lg ll W B _ bp G S P L a (4 * d) hV hS hP (by omega) ht) dX10_tryLaw_23 (kX10_399 (Nat.le_of_ble_eq_true rfl)) iX10_goTrial rfl rfl rfl rfl rfl (mt_le) rfl rfl (Eq.refl 26) ?_
  generalize (mgF V (nI c, -1, w, -1, true, b) P L (S, W, B) (4 * d)) = q at *
  obtain ⟨S1, W1, B1⟩ := q
  refine Tr.aload_n (i := 0) dX10_tryLaw_26 rfl rfl (Eq.refl 27) ?_
  refine Tr.iconst (v := (-1)) dX10_tryLaw_27 (by decide +kernel) (Eq.refl 28) ?_
  refine Tr.putf dX10_tryLaw_28 pX10_225 rfl (rfl) (rfl) rfl (Eq.refl 31) ?_
  refine Tr.aload_n (i := 0) dX10_tryLaw_31 rfl rfl (Eq.refl 32) ?_
  refine Tr.iconst (v := nI 0) dX10_tryLaw_32 (icN 0) (Eq.refl 33) ?_
  refine Tr.putf dX10_tryLaw_33 pX10_315 rfl (rfl) (rfl) rfl (Eq.refl 36) ?_
  refine Tr.aload_n (i := 0) dX10_tryLaw_36 rfl rfl (Eq.refl 37) ?_
  refine Tr.iconst (v := nI 0) dX10_tryLaw_37 (icN 0) (Eq.refl 38) ?_
  refine Tr.putf dX10_tryLaw_38 pX10_449 rfl (rfl) (rfl) rfl (Eq.refl 41) ?_
  refine Tr.aload_n (i := 0) dX10_tryLaw_41 rfl rfl (Eq.refl 42) ?_
  refine Tr.iconst (v := nI 0) dX10_tryLaw_42 (icN 0) (Eq.refl 43) ?_
  refine Tr.putf dX10_tryLaw_43 pX10_452 rfl (rfl) (rfl) rfl (Eq.refl 46) ?_
  refine Tr.iconst (v := nI 0) dX10_tryLaw_46 (icN 0) (Eq.refl 47) ?_
  refine Tr.istore dX10_tryLaw_47 rfl rfl (Eq.refl 49) ?_
  skip
  refine Tr.pic (w' := (mtC E ad r i V (-1, -1, w, -1, false, b) (lgF S S1 0) (nI 0) W1 B1 (rwF S1 P L a) (rwF S P L a) bp G)) rfl ?_
  refine Tr.mask [true, false, false, false, true] (lv' := [some (.ref (ad 0)), none, none, none, some (.int (nI 0))]) rfl ?_
  refine loopD (P := fun j => Tr _ 0 0 49 [some (.ref (ad 0)), none, none, none, some (.int (nI j))] [] (mtC E ad r i V (-1, -1, w, -1, false, b) (lgF S S1 j) (nI 0) W1 B1 (rwF S1 P L a) (rwF S P L a) bp G)) (npV V) ?_ (fun j hj ih => ?_)
  · refine Tr.iload dX10_tryLaw_49 rfl (Eq.refl 51) ?_
    refine Tr.aload_n (i := 0) dX10_tryLaw_51 rfl rfl (Eq.refl 52) ?_
    refine Tr.getf dX10_tryLaw_52 fX10_285 rfl rfl (Eq.refl 55) ?_
    refine Tr.icmp_geN (tgt := 94) dX10_tryLaw_55 (by decide) (Eq.refl 58) (by omega) (by omega) (fun h55 => ?_) (fun h55 => ?_)
    · refine Tr.iconst (v := nI 0) dX10_tryLaw_94 (icN 0) (Eq.refl 95) ?_
      refine Tr.istore dX10_tryLaw_95 rfl rfl (Eq.refl 97) ?_
      skip
      refine Tr.pic (w' := (mtC E ad r i V (-1, -1, w, -1, false, b) (lgF S S1 (npV V)) (loF S S1 0) W1 B1 (rwF S1 P L a) (rwF S P L a) bp G)) rfl ?_
      refine Tr.mask [true, false, false, false, true] (lv' := [some (.ref (ad 0)), none, none, none, some (.int (nI 0))]) rfl ?_
      refine loopD (P := fun j => Tr _ 0 0 97 [some (.ref (ad 0)), none, none, none, some (.int (nI j))] [] (mtC E ad r i V (-1, -1, w, -1, false, b) (lgF S S1 (npV V)) (loF S S1 j) W1 B1 (rwF S1 P L a) (rwF S P L a) bp G)) (nhV V) ?_ (fun j hj ih => ?_)
      · refine Tr.iload dX10_tryLaw_97 rfl (Eq.refl 99) ?_
        refine Tr.aload_n (i := 0) dX10_tryLaw_99 rfl rfl (Eq.refl 100) ?_
        refine Tr.getf dX10_tryLaw_100 fX10_282 rfl rfl (Eq.refl 103) ?_
        refine Tr.icmp_geN (tgt := 142) dX10_tryLaw_103 (by decide) (Eq.refl 106) (by omega) (by omega) (fun h103 => ?_) (fun h103 => ?_)
        · refine Tr.ret dX10_tryLaw_142 rfl rfl ?_
          · rfl
        · exact absurd h103 (by omega)
      · refine Tr.iload dX10_tryLaw_97 rfl (Eq.refl 99) ?_
        refine Tr.aload_n (i := 0) dX10_tryLaw_99 rfl rfl (Eq.refl 100) ?_
        refine Tr.getf dX10_tryLaw_100 fX10_282 rfl rfl (Eq.refl 103) ?_
        refine Tr.icmp_geN (tgt := 142) dX10_tryLaw_103 (by decide) (Eq.refl 106) (by omega) (by omega) (fun h103 => ?_) (fun h103 => ?_)
        · exact absurd h103 (by omega)
        · refine Tr.aload_n (i := 0) dX10_tryLaw_106 rfl rfl (Eq.refl 107) ?_
          refine Tr.dup dX10_tryLaw_107 rfl (Eq.refl 108) ?_
          refine Tr.getf dX10_tryLaw_108 fX10_452 rfl rfl (Eq.refl 111) ?_
          refine Tr.aload_n (i := 0) dX10_tryLaw_111 rfl rfl (Eq.refl 112) ?_
          refine Tr.getf dX10_tryLaw_112 fX10_219 rfl rfl (Eq.refl 115) ?_
          refine Tr.bipush (v := nI 25) dX10_tryLaw_115 (by decide +kernel) (Eq.refl 117) ?_
          refine Tr.iload dX10_tryLaw_117 rfl (Eq.refl 119) ?_
          refine Tr.iaddN dX10_tryLaw_119 (Eq.refl 120) ?_
          refine Tr.ialdN dX10_tryLaw_120 rfl (by omega) (by decide) (Eq.refl 121) ?_
          refine Tr.top (rd_st (by omega)) ?_
          refine Tr.aload_n (i := 0) dX10_tryLaw_121 rfl rfl (Eq.refl 122) ?_
          refine Tr.getf dX10_tryLaw_122 fX10_222 rfl rfl (Eq.refl 125) ?_
          refine Tr.bipush (v := nI 25) dX10_tryLaw_125 (by decide +kernel) (Eq.refl 127) ?_
          refine Tr.iload dX10_tryLaw_127 rfl (Eq.refl 129) ?_
          refine Tr.iaddN dX10_tryLaw_129 (Eq.refl 130) ?_
          refine Tr.ialdN dX10_tryLaw_130 rfl (by omega) (by decide) (Eq.refl 131) ?_
          refine Tr.top (rd_st (by omega)) ?_
          refine Tr.isub dX10_tryLaw_131 (Eq.refl 132) ?_
          refine Tr.iadd dX10_tryLaw_132 (Eq.refl 133) ?_
          refine Tr.putf dX10_tryLaw_133 pX10_452 rfl (rfl) (rfl) rfl (Eq.refl 136) ?_
          refine Tr.iincN dX10_tryLaw_136 rfl rfl rfl (Eq.refl 139) ?_
          refine Tr.goto (pc' := 97) dX10_tryLaw_139 (by decide) ?_
          exact Tr.eqs rfl rfl rfl ih
    · exact absurd h55 (by omega)
  · refine Tr.iload dX10_tryLaw_49 rfl (Eq.refl 51) ?_
    refine Tr.aload_n (i := 0) dX10_tryLaw_51 rfl rfl (Eq.refl 52) ?_
    refine Tr.getf dX10_tryLaw_52 fX10_285 rfl rfl (Eq.refl 55) ?_
    refine Tr.icmp_geN (tgt := 94) dX10_tryLaw_55 (by decide) (Eq.refl 58) (by omega) (by omega) (fun h55 => ?_) (fun h55 => ?_)
    · exact absurd h55 (by omega)
    · refine Tr.aload_n (i := 0) dX10_tryLaw_58 rfl rfl (Eq.refl 59) ?_
      refine Tr.dup dX10_tryLaw_59 rfl (Eq.refl 60) ?_
      refine Tr.getf dX10_tryLaw_60 fX10_449 rfl rfl (Eq.refl 63) ?_
      refine Tr.aload_n (i := 0) dX10_tryLaw_63 rfl rfl (Eq.refl 64) ?_
      refine Tr.getf dX10_tryLaw_64 fX10_222 rfl rfl (Eq.refl 67) ?_
      refine Tr.bipush (v := nI 15) dX10_tryLaw_67 (by decide +kernel) (Eq.refl 69) ?_
      refine Tr.iload dX10_tryLaw_69 rfl (Eq.refl 71) ?_
      refine Tr.iaddN dX10_tryLaw_71 (Eq.refl 72) ?_
      refine Tr.ialdN dX10_tryLaw_72 rfl (by omega) (by decide) (Eq.refl 73) ?_
      refine Tr.top (rd_al (by omega)) ?_
      refine Tr.aload_n (i := 0) dX10_tryLaw_73 rfl rfl (Eq.refl 74) ?_
      refine Tr.getf dX10_tryLaw_74 fX10_219 rfl rfl (Eq.refl 77) ?_
      refine Tr.bipush (v := nI 15) dX10_tryLaw_77 (by decide +kernel) (Eq.refl 79) ?_
      refine Tr.iload dX10_tryLaw_79 rfl (Eq.refl 81) ?_
      refine Tr.iaddN dX10_tryLaw_81 (Eq.refl 82) ?_
      refine Tr.ialdN dX10_tryLaw_82 rfl (by omega) (by decide) (Eq.refl 83) ?_
      refine Tr.top (rd_al (by omega)) ?_
      refine Tr.isub dX10_tryLaw_83 (Eq.refl 84) ?_
      refine Tr.iadd dX10_tryLaw_84 (Eq.refl 85) ?_
      refine Tr.putf dX10_tryLaw_85 pX10_449 rfl (rfl) (rfl) rfl (Eq.refl 88) ?_
      refine Tr.iincN dX10_tryLaw_88 rfl rfl rfl (Eq.refl 91) ?_
      refine Tr.goto (pc' := 49) dX10_tryLaw_91 (by decide) ?_
      exact Tr.eqs rfl rfl rfl ih
set_option maxHeartbeats 4000000 in
set_option maxRecDepth 100000 in
theorem m_law (E : EnvT) (ad r : Nat → Nat) (i : Nat → Int32) (V : Vil) (w : Int32) (l : Bool) (lg ll : Int32) (W : Nat → Nat) (B f : Nat → Int32) (bp : Nat → Nat) (G : Nat → Int32) (S : Scn) (P : Nat → Nat) (L : Nat → Int32) (a : Nat) (b : Bool) (x y z : Int32) (hV : Vok V) (hS : Sle V S) (hP : Pok V P) (ht : psS S < 2 ^ 29) : Md E mX10_law ad [.ref (ad 0), .int (bI b), .int x, .int y, .int z] (mtJ E ad r i V (w, l, lg, ll, W, B, f, bp, G) (rwF S P L a)) (some (.int (if (rgB x (nI 0) (nI 28) && rgB y (nI 1) (nI 20) && rgB z (nI 0) (nI 1)) then (if z = nI 0 then lgF S (mgF V (nI (nN x), -1, w, -1, true, b) P L (S, W, B) (4 * nN y)).1 (npV V) else loF S (mgF V (nI (nN x), -1, w, -1, true, b) P L (S, W, B) (4 * nN y)).1 (nhV V)) else -1000000))) (mtJ E ad r i V (if (rgB x (nI 0) (nI 28) && rgB y (nI 1) (nI 20) && rgB z (nI 0) (nI 1)) then (w, b, lgF S (mgF V (nI (nN x), -1, w, -1, true, b) P L (S, W, B) (4 * nN y)).1 (npV V), loF S (mgF V (nI (nN x), -1, w, -1, true, b) P L (S, W, B) (4 * nN y)).1 (nhV V), (mgF V (nI (nN x), -1, w, -1, true, b) P L (S, W, B) (4 * nN y)).2.1, (mgF V (nI (nN x), -1, w, -1, true, b) P L (S, W, B) (4 * nN y)).2.2, (rwF (mgF V (nI (nN x), -1, w, -1, true, b) P L (S, W, B) (4 * nN y)).1 P L a), bp, G) else (w, l, lg, ll, W, B, f, bp, G)) (rwF S P L a)) := by
  by_cases hc : (rgB x (nI 0) (nI 28) && rgB y (nI 1) (nI 20) && rgB z (nI 0) (nI 1)) = true
  · rw [if_pos hc, if_pos hc]
    have hc0 := Bool.and_eq_true_iff.mp hc
    have hc1 : rgB x (nI 0) (nI 28) = true := (Bool.and_eq_true_iff.mp hc0.1).1
    have hc2 : rgB y (nI 1) (nI 20) = true := (Bool.and_eq_true_iff.mp hc0.1).2
    have hc3 : rgB z (nI 0) (nI 1) = true := hc0.2
    obtain ⟨c, -, hcl, rfl⟩ := rgB_n (by decide) (by decide) hc1
    obtain ⟨d, hd1, hd, rfl⟩ := rgB_n (by decide) (by decide) hc2
    obtain ⟨k, -, hk, rfl⟩ := rgB_n (by decide) (by decide) hc3
    rw [nN_n (show c < 2 ^ 31 by omega), nN_n (show d < 2 ^ 31 by omega)]
    show Md E _ ad _ (mtC E ad r i V (-1, -1, w, -1, false, l) lg ll W B f (rwF S P L a) bp G) _ (mtC E ad r i V (-1, -1, w, -1, false, b) (lgF S (mgF V (nI c, -1, w, -1, true, b) P L (S, W, B) (4 * d)).1 (npV V)) (loF S (mgF V (nI c, -1, w, -1, true, b) P L (S, W, B) (4 * d)).1 (nhV V)) (mgF V (nI c, -1, w, -1, true, b) P L (S, W, B) (4 * d)).2.1 (mgF V (nI c, -1, w, -1, true, b) P L (S, W, B) (4 * d)).2.2 (rwF (mgF V (nI c, -1, w, -1, true, b) P L (S, W, B) (4 * d)).1 P L a) (rwF S P L a) bp G)
    refine Md.of 0 (by decide) rfl rfl ?_
    refine Tr.iload_n (i := 2) dX10_law_0 rfl rfl (Eq.refl 1) ?_
    refine Tr.i2l dX10_law_1 rfl (Eq.refl 2) ?_
    refine Tr.lconst (v := 0) dX10_law_2 (by decide +kernel) (Eq.refl 3) ?_
    refine Tr.ldc2 dX10_law_3 qX10_455 (Eq.refl 6) ?_
    refine Tr.callSr (L := []) (m_in E _ (nI c).toInt64 0 28) dX10_law_6 (kX10_52 (Nat.le_of_ble_eq_true rfl)) sX10_in rfl rfl rfl rfl rfl rfl rfl (Eq.refl 9) ?_
    rw [in32' (nI c) (a := nI 0) (b := nI 28) (by decide) (by decide)]
    refine Tr.if_eqB (tgt := 35) dX10_law_9 (by decide) (Eq.refl 12) (fun h9 => ?_) (fun h9 => ?_)
    · exact absurd (hc1.symm.trans h9) (by decide)
    · refine Tr.iload_n (i := 3) dX10_law_12 rfl rfl (Eq.refl 13) ?_
      refine Tr.i2l dX10_law_13 rfl (Eq.refl 14) ?_
      refine Tr.lconst (v := 1) dX10_law_14 (by decide +kernel) (Eq.refl 15) ?_
      refine Tr.ldc2 dX10_law_15 qX10_457 (Eq.refl 18) ?_
      refine Tr.callSr (L := []) (m_in E _ (nI d).toInt64 1 20) dX10_law_18 (kX10_52 (Nat.le_of_ble_eq_true rfl)) sX10_in rfl rfl rfl rfl rfl rfl rfl (Eq.refl 21) ?_
      rw [in32' (nI d) (a := nI 1) (b := nI 20) (by decide) (by decide)]
      refine Tr.if_eqB (tgt := 35) dX10_law_21 (by decide) (Eq.refl 24) (fun h21 => ?_) (fun h21 => ?_)
      · exact absurd (hc2.symm.trans h21) (by decide)
      · refine Tr.iload dX10_law_24 rfl (Eq.refl 26) ?_
        refine Tr.i2l dX10_law_26 rfl (Eq.refl 27) ?_
        refine Tr.lconst (v := 0) dX10_law_27 (by decide +kernel) (Eq.refl 28) ?_
        refine Tr.lconst (v := 1) dX10_law_28 (by decide +kernel) (Eq.refl 29) ?_
        refine Tr.callSr (L := []) (m_in E _ (nI k).toInt64 0 1) dX10_law_29 (kX10_52 (Nat.le_of_ble_eq_true rfl)) sX10_in rfl rfl rfl rfl rfl rfl rfl (Eq.refl 32) ?_
        rw [in32' (nI k) (a := nI 0) (b := nI 1) (by decide) (by decide)]
        refine Tr.if_neB (tgt := 39) dX10_law_32 (by decide) (Eq.refl 35) (fun h32 => ?_) (fun h32 => ?_)
        · refine Tr.aload_n (i := 0) dX10_law_39 rfl rfl (Eq.refl 40) ?_
          refine Tr.iload_n (i := 1) dX10_law_40 rfl rfl (Eq.refl 41) ?_
          refine Tr.iload_n (i := 2) dX10_law_41 rfl rfl (Eq.refl 42) ?_
          refine Tr.iload_n (i := 3) dX10_law_42 rfl rfl (Eq.refl 43) ?_
          refine Tr.callVs (m_tryLaw E ad r i V w l lg ll W B f bp G S P L a b c d hV hS hP ht hd) dX10_law_43 (kX10_459 (Nat.le_of_ble_eq_true rfl)) iX10_tryLaw rfl rfl rfl rfl rfl (mt_le) rfl rfl (Eq.refl 46) ?_
          generalize (mgF V (nI c, -1, w, -1, true, b) P L (S, W, B) (4 * d)) = q at *
          refine Tr.iload dX10_law_46 rfl (Eq.refl 48) ?_
          refine Tr.if_ne (tgt := 58) dX10_law_48 (by decide) (Eq.refl 51) (fun h48 => ?_) (fun h48 => ?_)
          · rw [if_neg (show ¬ nI k = nI 0 from h48)]
            refine Tr.aload_n (i := 0) dX10_law_58 rfl rfl (Eq.refl 59) ?_
            refine Tr.getf dX10_law_59 fX10_452 rfl rfl (Eq.refl 62) ?_
            refine Tr.iret dX10_law_62 rfl (by first | rfl | exact bI_nar _) ?_ ?_
            · rfl
            · rfl
          · rw [if_pos (show nI k = nI 0 from h48)]
            refine Tr.aload_n (i := 0) dX10_law_51 rfl rfl (Eq.refl 52) ?_
            refine Tr.getf dX10_law_52 fX10_449 rfl rfl (Eq.refl 55) ?_
            refine Tr.goto (pc' := 62) dX10_law_55 (by decide) ?_
            refine Tr.iret dX10_law_62 rfl (by first | rfl | exact bI_nar _) ?_ ?_
            · rfl
            · rfl
        · exact absurd (hc3.symm.trans h32) (by decide)
  · rw [if_neg hc, if_neg hc]
    show Md E _ ad _ (mtC E ad r i V (-1, -1, w, -1, false, l) lg ll W B f (rwF S P L a) bp G) _ (mtC E ad r i V (-1, -1, w, -1, false, l) lg ll W B f (rwF S P L a) bp G)
    refine Md.of 0 (by decide) rfl rfl ?_
    refine Tr.iload_n (i := 2) dX10_law_0 rfl rfl (Eq.refl 1) ?_
    refine Tr.i2l dX10_law_1 rfl (Eq.refl 2) ?_
    refine Tr.lconst (v := 0) dX10_law_2 (by decide +kernel) (Eq.refl 3) ?_
    refine Tr.ldc2 dX10_law_3 qX10_455 (Eq.refl 6) ?_
    refine Tr.callSr (L := []) (m_in E _ x.toInt64 0 28) dX10_law_6 (kX10_52 (Nat.le_of_ble_eq_true rfl)) sX10_in rfl rfl rfl rfl rfl rfl rfl (Eq.refl 9) ?_
    rw [in32' x (a := nI 0) (b := nI 28) (by decide) (by decide)]
    refine Tr.if_eqB (tgt := 35) dX10_law_9 (by decide) (Eq.refl 12) (fun h9 => ?_) (fun h9 => ?_)
    · refine Tr.ldcw dX10_law_35 qX10_395 (Eq.refl 38) ?_
      refine Tr.iret dX10_law_38 rfl (by first | rfl | exact bI_nar _) ?_ ?_
      · rfl
      · rfl
    · refine Tr.iload_n (i := 3) dX10_law_12 rfl rfl (Eq.refl 13) ?_
      refine Tr.i2l dX10_law_13 rfl (Eq.refl 14) ?_
      refine Tr.lconst (v := 1) dX10_law_14 (by decide +kernel) (Eq.refl 15) ?_
      refine Tr.ldc2 dX10_law_15 qX10_457 (Eq.refl 18) ?_
      refine Tr.callSr (L := []) (m_in E _ y.toInt64 1 20) dX10_law_18 (kX10_52 (Nat.le_of_ble_eq_true rfl)) sX10_in rfl rfl rfl rfl rfl rfl rfl (Eq.refl 21) ?_
      rw [in32' y (a := nI 1) (b := nI 20) (by decide) (by decide)]
      refine Tr.if_eqB (tgt := 35) dX10_law_21 (by decide) (Eq.refl 24) (fun h21 => ?_) (fun h21 => ?_)
      · refine Tr.ldcw dX10_law_35 qX10_395 (Eq.refl 38) ?_
        refine Tr.iret dX10_law_38 rfl (by first | rfl | exact bI_nar _) ?_ ?_
        · rfl
        · rfl
      · refine Tr.iload dX10_law_24 rfl (Eq.refl 26) ?_
        refine Tr.i2l dX10_law_26 rfl (Eq.refl 27) ?_
        refine Tr.lconst (v := 0) dX10_law_27 (by decide +kernel) (Eq.refl 28) ?_
        refine Tr.lconst (v := 1) dX10_law_28 (by decide +kernel) (Eq.refl 29) ?_
        refine Tr.callSr (L := []) (m_in E _ z.toInt64 0 1) dX10_law_29 (kX10_52 (Nat.le_of_ble_eq_true rfl)) sX10_in rfl rfl rfl rfl rfl rfl rfl (Eq.refl 32) ?_
        rw [in32' z (a := nI 0) (b := nI 1) (by decide) (by decide)]
        refine Tr.if_neB (tgt := 39) dX10_law_32 (by decide) (Eq.refl 35) (fun h32 => ?_) (fun h32 => ?_)
        · exact absurd (by rw [h9, h21, h32]; rfl) hc
        · refine Tr.ldcw dX10_law_35 qX10_395 (Eq.refl 38) ?_
          refine Tr.iret dX10_law_38 rfl (by first | rfl | exact bI_nar _) ?_ ?_
          · rfl
          · rfl
