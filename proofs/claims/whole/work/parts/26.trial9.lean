/-! Trial: going round, rings -/
/-- steps till one fails -/
def itB {α : Type} (f : Nat → α → Bool × α) (s : α) : Nat → Bool × α
  | 0 => (true, s)
  | n + 1 => if (itB f s n).1 then f n (itB f s n).2 else itB f s n
theorem itB_fr {α : Type} {f : Nat → α → Bool × α} {s : α} : ∀ {n i : Nat}, i ≤ n → (itB f s i).1 = false → itB f s n = itB f s i := by
  intro n i h hf
  induction n with
  | zero => rw [show i = 0 by omega]
  | succ n ih =>
    by_cases e : i = n + 1
    · rw [← e]
    · have := ih (by omega)
      show (if (itB f s n).1 then f n (itB f s n).2 else itB f s n) = _
      rw [this, hf]; rfl
theorem itB_s {α : Type} {f : Nat → α → Bool × α} {s : α} {n : Nat} (h : (itB f s n).1 = true) : itB f s (n + 1) = f n (itB f s n).2 := if_pos h
def grS (V : Vil) (ch : Nat → Nat) (p : Nat) (t : Int32) : Bool × Int32 :=
  if hoV V p < 5 then (if owV V (ch p) < 5 ∧ ¬ owV V (ch p) = p ∧ ¬ ((t >>> (nI (ch p) &&& 31)) &&& nI 1) = nI 1 then (true, t ||| (nI 1 <<< (nI (ch p) &&& 31))) else (false, t)) else (true, t)
set_option maxHeartbeats 4000000 in
set_option maxRecDepth 100000 in
theorem c_goRound (E : EnvT) (ad : Nat → Nat) (T : Tst) (hV : Vok (vT T)) (hc : ∀ k, k < npV (vT T) → cT T k < 5) : Md E mX6_goRound ad [.ref (ad 0)] (trC E ad 0 T) (some (.int (bI (itB (grS (vT T) (cT T)) (nI 0) (npV (vT T))).1))) (trC E ad 0 T) := by
  obtain ⟨V, X, P, L, O, S, W, ch, mo, z, G, K, bs, br, rg, lr, D⟩ := T
  have hV : Vok V := hV
  have v1 := hV.1
  have v2 := hV.2.1
  have hc : ∀ k, k < npV V → ch k < 5 := hc
  show Md E _ ad _ (trX E ad 0 V X P L O S W ch mo z G K bs br rg lr (D 0) (D 1) (D 2) (D 3) (D 4)) (some (.int (bI (itB (grS V ch) (nI 0) (npV V)).1))) (trX E ad 0 V X P L O S W ch mo z G K bs br rg lr (D 0) (D 1) (D 2) (D 3) (D 4))
  refine Md.of 3 (by decide) rfl rfl ?_
  refine Tr.iconst (v := nI 0) dX6_goRound_0 (icN 0) (Eq.refl 1) ?_
  refine Tr.istore_n (i := 1) dX6_goRound_1 rfl rfl rfl (Eq.refl 2) ?_
  refine Tr.iconst (v := nI 0) dX6_goRound_2 (icN 0) (Eq.refl 3) ?_
  refine Tr.istore_n (i := 2) dX6_goRound_3 rfl rfl rfl (Eq.refl 4) ?_
  refine Tr.mask [true, true, true, true] (lv' := [some (.ref (ad 0)), some (.int (itB (grS V ch) (nI 0) 0).2), some (.int (nI 0)), none]) rfl ?_
  refine loopD (P := fun i => (itB (grS V ch) (nI 0) i).1 = true → Tr _ 0 0 4 [some (.ref (ad 0)), some (.int (itB (grS V ch) (nI 0) i).2), some (.int (nI i)), none] [] (trX E ad 0 V X P L O S W ch mo z G K bs br rg lr (D 0) (D 1) (D 2) (D 3) (D 4))) (npV V) (fun hn => ?_) (fun i hi ih hn => ?_) rfl
  · refine Tr.iload_n (i := 2) dX6_goRound_4 rfl rfl (Eq.refl 5) ?_
    refine Tr.aload_n (i := 0) dX6_goRound_5 rfl rfl (Eq.refl 6) ?_
    refine Tr.getf dX6_goRound_6 fX6_12 rfl rfl (Eq.refl 9) ?_
    refine Tr.getf dX6_goRound_9 fX6_127 rfl rfl (Eq.refl 12) ?_
    refine Tr.icmp_geN (tgt := 87) dX6_goRound_12 (by decide) (Eq.refl 15) (by omega) (by omega) (fun h12 => ?_) (fun h12 => ?_)
    · refine Tr.iconst (v := nI 1) dX6_goRound_87 (icN 1) (Eq.refl 88) ?_
      refine Tr.iret dX6_goRound_88 rfl (by first | rfl | exact bI_nar _) ?_ ?_
      · rw [hn]; rfl
      · rfl
    · exact absurd h12 (by omega)
  · have hs := itB_s hn
    have hf : (itB (grS V ch) (nI 0) (i + 1)).1 = false → (itB (grS V ch) (nI 0) (npV V)).1 = false := fun z => by rw [itB_fr (Nat.succ_le_of_lt hi) z]; exact z
    rw [hs] at ih hf
    have hci := hc i hi
    generalize (itB (grS V ch) (nI 0) i).2 = t at *
    have hu : grS V ch i t = if hoV V i < 5 then (if owV V (ch i) < 5 ∧ ¬ owV V (ch i) = i ∧ ¬ ((t >>> (nI (ch i) &&& 31)) &&& nI 1) = nI 1 then (true, t ||| (nI 1 <<< (nI (ch i) &&& 31))) else (false, t)) else (true, t) := rfl
    refine Tr.iload_n (i := 2) dX6_goRound_4 rfl rfl (Eq.refl 5) ?_
    refine Tr.aload_n (i := 0) dX6_goRound_5 rfl rfl (Eq.refl 6) ?_
    refine Tr.getf dX6_goRound_6 fX6_12 rfl rfl (Eq.refl 9) ?_
    refine Tr.getf dX6_goRound_9 fX6_127 rfl rfl (Eq.refl 12) ?_
    refine Tr.icmp_geN (tgt := 87) dX6_goRound_12 (by decide) (Eq.refl 15) (by omega) (by omega) (fun h12 => ?_) (fun h12 => ?_)
    · exact absurd h12 (by omega)
    · refine Tr.aload_n (i := 0) dX6_goRound_15 rfl rfl (Eq.refl 16) ?_
      refine Tr.getf dX6_goRound_16 fX6_12 rfl rfl (Eq.refl 19) ?_
      refine Tr.getf dX6_goRound_19 fX6_187 rfl rfl (Eq.refl 22) ?_
      refine Tr.iload_n (i := 2) dX6_goRound_22 rfl rfl (Eq.refl 23) ?_
      refine Tr.ialdN dX6_goRound_23 rfl (by omega) (by decide) (Eq.refl 24) ?_
      refine Tr.iconst (v := (-1)) dX6_goRound_24 (by decide +kernel) (Eq.refl 25) ?_
      refine Tr.icmp_eq (tgt := 81) dX6_goRound_25 (by decide) (Eq.refl 28) (fun h25 => ?_) (fun h25 => ?_)
      · rw [cl_none] at h25
        rw [if_neg h25] at hu
        rw [hu] at ih
        refine Tr.iincN dX6_goRound_81 rfl rfl rfl (Eq.refl 84) ?_
        refine Tr.goto (pc' := 4) dX6_goRound_84 (by decide) ?_
        exact Tr.mask [true, true, true, false] rfl (ih rfl)
      · rw [cl_none] at h25
        rw [if_pos (by omega)] at hu
        refine Tr.aload_n (i := 0) dX6_goRound_28 rfl rfl (Eq.refl 29) ?_
        refine Tr.getf dX6_goRound_29 fX6_46 rfl rfl (Eq.refl 32) ?_
        refine Tr.getf dX6_goRound_32 fX6_120 rfl rfl (Eq.refl 35) ?_
        refine Tr.iload_n (i := 2) dX6_goRound_35 rfl rfl (Eq.refl 36) ?_
        refine Tr.ialdN dX6_goRound_36 rfl (by omega) (by decide) (Eq.refl 37) ?_
        refine Tr.istore_n (i := 3) dX6_goRound_37 rfl rfl rfl (Eq.refl 38) ?_
        refine Tr.aload_n (i := 0) dX6_goRound_38 rfl rfl (Eq.refl 39) ?_
        refine Tr.getf dX6_goRound_39 fX6_12 rfl rfl (Eq.refl 42) ?_
        refine Tr.getf dX6_goRound_42 fX6_199 rfl rfl (Eq.refl 45) ?_
        refine Tr.iload_n (i := 3) dX6_goRound_45 rfl rfl (Eq.refl 46) ?_
        refine Tr.ialdN dX6_goRound_46 rfl (by omega) (by decide) (Eq.refl 47) ?_
        refine Tr.iconst (v := (-1)) dX6_goRound_47 (by decide +kernel) (Eq.refl 48) ?_
        refine Tr.icmp_eq (tgt := 73) dX6_goRound_48 (by decide) (Eq.refl 51) (fun h48 => ?_) (fun h48 => ?_)
        · rw [cl_none] at h48
          rw [if_neg (fun z => h48 z.1)] at hu
          rw [hu] at hf
          refine Tr.iconst (v := nI 0) dX6_goRound_73 (icN 0) (Eq.refl 74) ?_
          refine Tr.iret dX6_goRound_74 rfl (by first | rfl | exact bI_nar _) ?_ ?_
          · rw [hf rfl]; rfl
          · rfl
        · rw [cl_none] at h48
          refine Tr.aload_n (i := 0) dX6_goRound_51 rfl rfl (Eq.refl 52) ?_
          refine Tr.getf dX6_goRound_52 fX6_12 rfl rfl (Eq.refl 55) ?_
          refine Tr.getf dX6_goRound_55 fX6_199 rfl rfl (Eq.refl 58) ?_
          refine Tr.iload_n (i := 3) dX6_goRound_58 rfl rfl (Eq.refl 59) ?_
          refine Tr.ialdN dX6_goRound_59 rfl (by omega) (by decide) (Eq.refl 60) ?_
          refine Tr.iload_n (i := 2) dX6_goRound_60 rfl rfl (Eq.refl 61) ?_
          refine Tr.icmp_eq (tgt := 73) dX6_goRound_61 (by decide) (Eq.refl 64) (fun h61 => ?_) (fun h61 => ?_)
          · rw [cl_eq (by omega)] at h61
            rw [if_neg (fun z => z.2.1 h61)] at hu
            rw [hu] at hf
            refine Tr.iconst (v := nI 0) dX6_goRound_73 (icN 0) (Eq.refl 74) ?_
            refine Tr.iret dX6_goRound_74 rfl (by first | rfl | exact bI_nar _) ?_ ?_
            · rw [hf rfl]; rfl
            · rfl
          · rw [cl_eq (by omega)] at h61
            refine Tr.iload_n (i := 1) dX6_goRound_64 rfl rfl (Eq.refl 65) ?_
            refine Tr.iload_n (i := 3) dX6_goRound_65 rfl rfl (Eq.refl 66) ?_
            refine Tr.ishr dX6_goRound_66 (Eq.refl 67) ?_
            refine Tr.iconst (v := nI 1) dX6_goRound_67 (icN 1) (Eq.refl 68) ?_
            refine Tr.iand dX6_goRound_68 (Eq.refl 69) ?_
            refine Tr.iconst (v := nI 1) dX6_goRound_69 (icN 1) (Eq.refl 70) ?_
            refine Tr.icmp_ne (tgt := 75) dX6_goRound_70 (by decide) (Eq.refl 73) (fun h70 => ?_) (fun h70 => ?_)
            · rw [if_pos ⟨by omega, h61, h70⟩] at hu
              rw [hu] at ih
              refine Tr.iload_n (i := 1) dX6_goRound_75 rfl rfl (Eq.refl 76) ?_
              refine Tr.iconst (v := nI 1) dX6_goRound_76 (icN 1) (Eq.refl 77) ?_
              refine Tr.iload_n (i := 3) dX6_goRound_77 rfl rfl (Eq.refl 78) ?_
              refine Tr.ishl dX6_goRound_78 (Eq.refl 79) ?_
              refine Tr.ior dX6_goRound_79 (Eq.refl 80) ?_
              refine Tr.istore_n (i := 1) dX6_goRound_80 rfl rfl rfl (Eq.refl 81) ?_
              refine Tr.iincN dX6_goRound_81 rfl rfl rfl (Eq.refl 84) ?_
              refine Tr.goto (pc' := 4) dX6_goRound_84 (by decide) ?_
              exact Tr.mask [true, true, true, false] rfl (ih rfl)
            · rw [if_neg (fun z => z.2.2 h70)] at hu
              rw [hu] at hf
              refine Tr.iconst (v := nI 0) dX6_goRound_73 (icN 0) (Eq.refl 74) ?_
              refine Tr.iret dX6_goRound_74 rfl (by first | rfl | exact bI_nar _) ?_ ?_
              · rw [hf rfl]; rfl
              · rfl
def wgF (V : Vil) (ch W : Nat → Nat) : Nat → (Nat → Nat)
  | 0 => W
  | p + 1 => if hoV V p < 5 then upN (wgF V ch W p) p (ch p) else wgF V ch W p
/-- wishes of a ring -/
def wgW (V : Vil) (P : Nat → Nat) (t : Nat) (ch W : Nat → Nat) : Nat → Nat := wgF V ch (fwF V P t W (npV V)) (npV V)
theorem wgW_le {V : Vil} {P : Nat → Nat} {t : Nat} {ch W : Nat → Nat} (hV : Vok V) (hP : Ple P) (hc : ∀ k, k < npV V → ch k < 5) : Wle V (wgW V P t ch W) := by
  unfold wgW
  have : ∀ n, n ≤ npV V → Wle V (wgF V ch (fwF V P t W (npV V)) n) := by
    intro n
    induction n with
    | zero => intro _; exact fwF_le hV hP
    | succ n ih =>
      intro hn q hq
      have h1 := ih (by omega) q hq
      unfold wgF
      split
      · by_cases e : q = n
        · rw [e, upN_self]; exact Nat.le_of_lt (hc n (by omega))
        · rw [upN_ne _ _ e]; exact h1
      · exact h1
  exact this _ (Nat.le_refl _)
set_option maxHeartbeats 4000000 in
set_option maxRecDepth 100000 in
theorem c_wishRing (E : EnvT) (ad : Nat → Nat) (T : Tst) (hT : Tok T) (hc : ∀ k, k < npV (vT T) → cT T k < 5) : Md E mX6_wishRing ad [.ref (ad 0)] (trC E ad 0 T) none (trC E ad 0 (uW T (wgW (vT T) (pT T) (psS (oT T)) (cT T) (wT T)))) := by
  obtain ⟨V, X, P, L, O, S, W, ch, mo, z, G, K, bs, br, rg, lr, D⟩ := T
  have hV : Vok V := hT.1
  have v1 := hV.1
  have v2 := hV.2.1
  have ht : psS O < 2 ^ 30 := hT.2.2.2
  have hc : ∀ k, k < npV V → ch k < 5 := hc
  show Md E _ ad _ (trX E ad 0 V X P L O S W ch mo z G K bs br rg lr (D 0) (D 1) (D 2) (D 3) (D 4)) none (trX E ad 0 V X P L O S (wgF V ch (fwF V P (psS O) W (npV V)) (npV V)) ch mo z G K bs br rg lr (D 0) (D 1) (D 2) (D 3) (D 4))
  refine Md.of 1 (by decide) rfl rfl ?_
  refine Tr.aload_n (i := 0) dX6_wishRing_0 rfl rfl (Eq.refl 1) ?_
  refine Tr.getf dX6_wishRing_1 fX6_21 rfl rfl (Eq.refl 4) ?_
  refine Tr.aload_n (i := 0) dX6_wishRing_4 rfl rfl (Eq.refl 5) ?_
  refine Tr.getf dX6_wishRing_5 fX6_12 rfl rfl (Eq.refl 8) ?_
  refine Tr.aload_n (i := 0) dX6_wishRing_8 rfl rfl (Eq.refl 9) ?_
  refine Tr.getf dX6_wishRing_9 fX6_28 rfl rfl (Eq.refl 12) ?_
  refine Tr.getf dX6_wishRing_12 fX6_75 rfl rfl (Eq.refl 15) ?_
  refine Tr.aload_n (i := 0) dX6_wishRing_15 rfl rfl (Eq.refl 16) ?_
  refine Tr.getf dX6_wishRing_16 fX6_39 rfl rfl (Eq.refl 19) ?_
  refine Tr.callV (L := l_fw) (c_fillWishes E _ P L V X (psS O) W hV (by omega)) dX6_wishRing_19 (kX6_78 (Nat.le_of_ble_eq_true rfl)) iX8_fillWishes rfl rfl rfl rfl rfl rfl rfl rfl rfl rfl (Eq.refl 22) ?_
  refine Tr.pic (w' := trX E ad 0 V X P L O S (fwF V P (psS O) W (npV V)) ch mo z G K bs br rg lr (D 0) (D 1) (D 2) (D 3) (D 4)) (putB_eq (Lc := [0, 15, 16, 17, 18, 19, 20, 21, 22, 23, 24, 25, 26, 27, 28, 29, 31, 32, 33, 34, 35, 36, 37, 38, 39, 40, 41, 42, 43, 44, 45, 46, 47, 48, 49, 50, 51, 52, 53, 54, 55, 56, 57, 58, 59, 60, 61, 62, 63, 64, 65, 66, 67, 68, 69, 70]) 71 rfl rfl rfl rfl ⟨⟨_, rfl, rfl⟩, ⟨_, rfl, rfl⟩, ⟨_, rfl, rfl⟩, ⟨_, rfl, rfl⟩, ⟨_, rfl, rfl⟩, ⟨_, rfl, rfl⟩, ⟨_, rfl, rfl⟩, ⟨_, rfl, rfl⟩, ⟨_, rfl, rfl⟩, ⟨_, rfl, rfl⟩, ⟨_, rfl, rfl⟩, ⟨_, rfl, rfl⟩, ⟨_, rfl, rfl⟩, ⟨_, rfl, rfl⟩, ⟨_, rfl, rfl⟩, ⟨_, rfl, rfl⟩, ⟨_, rfl, rfl⟩, ⟨_, rfl, rfl⟩, ⟨_, rfl, rfl⟩, ⟨_, rfl, rfl⟩, ⟨_, rfl, rfl⟩, ⟨_, rfl, rfl⟩, ⟨_, rfl, rfl⟩, ⟨_, rfl, rfl⟩, ⟨_, rfl, rfl⟩, ⟨_, rfl, rfl⟩, ⟨_, rfl, rfl⟩, ⟨_, rfl, rfl⟩, ⟨_, rfl, rfl⟩, ⟨_, rfl, rfl⟩, ⟨_, rfl, rfl⟩, ⟨_, rfl, rfl⟩, ⟨_, rfl, rfl⟩, ⟨_, rfl, rfl⟩, ⟨_, rfl, rfl⟩, ⟨_, rfl, rfl⟩, ⟨_, rfl, rfl⟩, ⟨_, rfl, rfl⟩, ⟨_, rfl, rfl⟩, ⟨_, rfl, rfl⟩, ⟨_, rfl, rfl⟩, ⟨_, rfl, rfl⟩, ⟨_, rfl, rfl⟩, ⟨_, rfl, rfl⟩, ⟨_, rfl, rfl⟩, ⟨_, rfl, rfl⟩, ⟨_, rfl, rfl⟩, ⟨_, rfl, rfl⟩, ⟨_, rfl, rfl⟩, ⟨_, rfl, rfl⟩, ⟨_, rfl, rfl⟩, ⟨_, rfl, rfl⟩, ⟨_, rfl, rfl⟩, ⟨_, rfl, rfl⟩, ⟨_, rfl, rfl⟩, ⟨_, rfl, rfl⟩, trivial⟩ (by decide) rfl) ?_
  generalize fwF V P (psS O) W (npV V) = W0
  refine Tr.iconst (v := nI 0) dX6_wishRing_22 (icN 0) (Eq.refl 23) ?_
  refine Tr.istore_n (i := 1) dX6_wishRing_23 rfl rfl rfl (Eq.refl 24) ?_
  refine Tr.mask [true, true] (lv' := [some (.ref (ad 0)), some (.int (nI 0))]) rfl ?_
  refine Tr.pic (w' := trX E ad 0 V X P L O S (wgF V ch W0 0) ch mo z G K bs br rg lr (D 0) (D 1) (D 2) (D 3) (D 4)) rfl ?_
  refine loopD (P := fun i => Tr _ 0 0 24 [some (.ref (ad 0)), some (.int (nI i))] [] (trX E ad 0 V X P L O S (wgF V ch W0 i) ch mo z G K bs br rg lr (D 0) (D 1) (D 2) (D 3) (D 4))) (npV V) ?_ (fun i hi ih => ?_)
  · refine Tr.iload_n (i := 1) dX6_wishRing_24 rfl rfl (Eq.refl 25) ?_
    refine Tr.aload_n (i := 0) dX6_wishRing_25 rfl rfl (Eq.refl 26) ?_
    refine Tr.getf dX6_wishRing_26 fX6_12 rfl rfl (Eq.refl 29) ?_
    refine Tr.getf dX6_wishRing_29 fX6_127 rfl rfl (Eq.refl 32) ?_
    refine Tr.icmp_geN (tgt := 69) dX6_wishRing_32 (by decide) (Eq.refl 35) (by omega) (by omega) (fun h32 => ?_) (fun h32 => ?_)
    · refine Tr.ret dX6_wishRing_69 rfl rfl ?_
      · rfl
    · exact absurd h32 (by omega)
  · have hu : wgF V ch W0 (i + 1) = if hoV V i < 5 then upN (wgF V ch W0 i) i (ch i) else wgF V ch W0 i := rfl
    rw [hu] at ih
    clear hu
    have hci := hc i hi
    generalize wgF V ch W0 i = W2 at *
    refine Tr.iload_n (i := 1) dX6_wishRing_24 rfl rfl (Eq.refl 25) ?_
    refine Tr.aload_n (i := 0) dX6_wishRing_25 rfl rfl (Eq.refl 26) ?_
    refine Tr.getf dX6_wishRing_26 fX6_12 rfl rfl (Eq.refl 29) ?_
    refine Tr.getf dX6_wishRing_29 fX6_127 rfl rfl (Eq.refl 32) ?_
    refine Tr.icmp_geN (tgt := 69) dX6_wishRing_32 (by decide) (Eq.refl 35) (by omega) (by omega) (fun h32 => ?_) (fun h32 => ?_)
    · exact absurd h32 (by omega)
    · refine Tr.aload_n (i := 0) dX6_wishRing_35 rfl rfl (Eq.refl 36) ?_
      refine Tr.getf dX6_wishRing_36 fX6_12 rfl rfl (Eq.refl 39) ?_
      refine Tr.getf dX6_wishRing_39 fX6_187 rfl rfl (Eq.refl 42) ?_
      refine Tr.iload_n (i := 1) dX6_wishRing_42 rfl rfl (Eq.refl 43) ?_
      refine Tr.ialdN dX6_wishRing_43 rfl (by omega) (by decide) (Eq.refl 44) ?_
      refine Tr.iconst (v := (-1)) dX6_wishRing_44 (by decide +kernel) (Eq.refl 45) ?_
      refine Tr.icmp_eq (tgt := 63) dX6_wishRing_45 (by decide) (Eq.refl 48) (fun h45 => ?_) (fun h45 => ?_)
      · rw [cl_none] at h45
        rw [if_neg h45] at ih
        refine Tr.pic (w' := trX E ad 0 V X P L O S W2 ch mo z G K bs br rg lr (D 0) (D 1) (D 2) (D 3) (D 4)) rfl ?_
        refine Tr.iincN dX6_wishRing_63 rfl rfl rfl (Eq.refl 66) ?_
        refine Tr.goto (pc' := 24) dX6_wishRing_66 (by decide) ?_
        exact Tr.eqs rfl rfl rfl ih
      · rw [cl_none] at h45
        rw [if_pos (by omega)] at ih
        refine Tr.aload_n (i := 0) dX6_wishRing_48 rfl rfl (Eq.refl 49) ?_
        refine Tr.getf dX6_wishRing_49 fX6_39 rfl rfl (Eq.refl 52) ?_
        refine Tr.iload_n (i := 1) dX6_wishRing_52 rfl rfl (Eq.refl 53) ?_
        refine Tr.aload_n (i := 0) dX6_wishRing_53 rfl rfl (Eq.refl 54) ?_
        refine Tr.getf dX6_wishRing_54 fX6_46 rfl rfl (Eq.refl 57) ?_
        refine Tr.getf dX6_wishRing_57 fX6_120 rfl rfl (Eq.refl 60) ?_
        refine Tr.iload_n (i := 1) dX6_wishRing_60 rfl rfl (Eq.refl 61) ?_
        refine Tr.ialdN dX6_wishRing_61 rfl (by omega) (by decide) (Eq.refl 62) ?_
        rw [← cl_lt hci]
        refine Tr.iastN dX6_wishRing_62 rfl (by omega) (by decide) (Eq.refl 63) ?_
        refine Tr.pic (w' := trX E ad 0 V X P L O S (upN W2 i (ch i)) ch mo z G K bs br rg lr (D 0) (D 1) (D 2) (D 3) (D 4)) (by unfold trX; rw [cl_upN]; rfl) ?_
        refine Tr.iincN dX6_wishRing_63 rfl rfl rfl (Eq.refl 66) ?_
        refine Tr.goto (pc' := 24) dX6_wishRing_66 (by decide) ?_
        exact Tr.eqs rfl rfl rfl ih
def riS (V : Vil) (L : Nat → Int32) (O : Scn) (p : Nat) (g : Int32) (c : Nat) (q : (Nat → Nat) × Scn) : Bool × (Nat → Nat) × Scn := (!decide (g < ltS (gon V L (upN q.1 p (plc V c)) O) p), upN q.1 p (plc V c), gon V L (upN q.1 p (plc V c)) O)
def roS (V : Vil) (P : Nat → Nat) (L : Nat → Int32) (O : Scn) (ch : Nat → Nat) (p : Nat) (q : (Nat → Nat) × Scn) : Bool × (Nat → Nat) × Scn :=
  if hoV V p < 5 then itB (riS V L O p (ltS (gon V L (wgW V P (psS O) ch q.1) O) p)) (wgW V P (psS O) ch q.1, gon V L (wgW V P (psS O) ch q.1) O) (nhV V + 1) else (true, q)
def rgF (T : Tst) : Bool × (Nat → Nat) × Scn := itB (roS (vT T) (pT T) (lT T) (oT T) (cT T)) (wT T, sT T) (npV (vT T))
theorem Wle_up {V : Vil} {W : Nat → Nat} {p c : Nat} (h : Wle V W) (hc : c ≤ 5) : Wle V (upN W p c) := by
  intro k hk
  by_cases e : k = p
  · rw [e, upN_self]; exact hc
  · rw [upN_ne _ _ e]; exact h k hk
theorem riS_le {V : Vil} {L : Nat → Int32} {O S : Scn} {W : Nat → Nat} {p : Nat} {g : Int32} (hV : Vok V) (h : Wle V W) : ∀ n, Wle V (itB (riS V L O p g) (W, S) n).2.1 := by
  intro n
  induction n with
  | zero => exact h
  | succ n ih =>
    unfold itB
    split
    · exact Wle_up ih (plc_le hV n)
    · exact ih
