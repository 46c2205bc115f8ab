/-! THE REFERENCE: the best plan -/
section MTL
variable {E : EnvT} {ad r : Nat → Nat} {i : Nat → Int32} {V : Vil} {o : Ovr} {lg ll : Int32} {W : Nat → Nat} {B f g : Nat → Int32} {bp : Nat → Nat} {G : Nat → Int32} {S : Scn} {P : Nat → Nat} {L : Nat → Int32} {a : Nat}
theorem mt_pl {p q x : Nat} (h : p * 4 + q < 20) : (mtC E ad r i V o lg ll W B (rwF S P L a) g bp G).set 9 (aI E 57 (upd (rwF S P L a) (35 + 4 * p + q) (nI x))) = (mtC E ad r i V o lg ll W B (rwF S (upN P (p * 4 + q) x) L a) g bp G) := congrArg (fun f9 => (mtC E ad r i V o lg ll W B f9 g bp G)) (wr_pl' h)
theorem nw_pl {p q x : Nat} (h : p * 4 + q < 20) : (mtC E ad r i V o lg ll W B f (rwF S P L a) bp G).set 10 (aI E 57 (upd (rwF S P L a) (35 + 4 * p + q) (nI x))) = (mtC E ad r i V o lg ll W B f (rwF S (upN P (p * 4 + q) x) L a) bp G) := congrArg (fun f9 => (mtC E ad r i V o lg ll W B f f9 bp G)) (wr_pl' h)
theorem mt_lt {p : Nat} {x : Int32} (h : p < 5) : (mtC E ad r i V o lg ll W B (rwF S P L a) g bp G).set 9 (aI E 57 (upd (rwF S P L a) (30 + p) x)) = (mtC E ad r i V o lg ll W B (rwF S P (upd L p x) a) g bp G) := congrArg (fun f9 => (mtC E ad r i V o lg ll W B f9 g bp G)) (wr_le h)
theorem mt_bp {q x : Nat} : (mtC E ad r i V o lg ll W B f g bp G).set 11 (aI E 4 (upd (fun k => nI (bp k)) q (nI x))) = (mtC E ad r i V o lg ll W B f g (upN bp q x) G) := by
  unfold mtC
  rw [nI_upN]
  rfl
end MTL
/-- the plan of p by a number -/
def pxP (V : Vil) (p x : Nat) (P : Nat → Nat) : Nat → Nat := upN (upN (upN (upN P (p * 4 + 3) (plR (nhV V) (x % (nhV V + 1)))) (p * 4 + 2) (plR (nhV V) (x / (nhV V + 1) % (nhV V + 1)))) (p * 4 + 1) (plR (nhV V) (x / (nhV V + 1) / (nhV V + 1) % (nhV V + 1)))) (p * 4 + 0) (plR (nhV V) (x / (nhV V + 1) / (nhV V + 1) / (nhV V + 1) % (nhV V + 1)))
def pbR (V : Vil) (x : Nat) (bp : Nat → Nat) : Nat → Nat := upN (upN (upN (upN bp 3 (plR (nhV V) (x % (nhV V + 1)))) 2 (plR (nhV V) (x / (nhV V + 1) % (nhV V + 1)))) 1 (plR (nhV V) (x / (nhV V + 1) / (nhV V + 1) % (nhV V + 1)))) 0 (plR (nhV V) (x / (nhV V + 1) / (nhV V + 1) / (nhV V + 1) % (nhV V + 1)))
theorem plR_ok (nh l : Nat) : plR nh (l % (nh + 1)) < nh ∨ plR nh (l % (nh + 1)) = 5 := by
  have := Nat.mod_lt l (show nh + 1 > 0 by omega)
  unfold plR
  split <;> omega
theorem Pok_up {V : Vil} {P : Nat → Nat} (h : Pok V P) (k x : Nat) (hx : x < nhV V ∨ x = 5) : Pok V (upN P k x) := by
  intro p hp q hq
  by_cases e : p * 4 + q = k
  · rw [e, upN_self]; exact hx
  · rw [upN_ne _ _ e]; exact h p hp q hq
theorem pxP_ok {V : Vil} {P : Nat → Nat} (h : Pok V P) (p x : Nat) : Pok V (pxP V p x P) := Pok_up (Pok_up (Pok_up (Pok_up h _ _ (plR_ok _ _)) _ _ (plR_ok _ _)) _ _ (plR_ok _ _)) _ _ (plR_ok _ _)
abbrev Fmt : Type := Int32 × Nat × (Nat → Nat) × (Nat → Int32) × (Nat → Int32)
/-- the best of the plans up to x: greatest sum, its number, wishes, leaves, row -/
def fmS (V : Vil) (o : Ovr) (S : Scn) (P : Nat → Nat) (L : Nat → Int32) (a p : Nat) (q : Fmt) (x : Nat) : Fmt :=
  (if q.1 < smR V o (pxP V p x P) L (S, q.2.2.1, q.2.2.2.1) p then smR V o (pxP V p x P) L (S, q.2.2.1, q.2.2.2.1) p else q.1, if q.1 < smR V o (pxP V p x P) L (S, q.2.2.1, q.2.2.2.1) p then x else q.2.1, (mgF V o (pxP V p x P) L (S, q.2.2.1, q.2.2.2.1) 4).2.1, (mgF V o (pxP V p x P) L (S, q.2.2.1, q.2.2.2.1) 4).2.2, rwF (mgF V o (pxP V p x P) L (S, q.2.2.1, q.2.2.2.1) 4).1 (pxP V p x P) L a)
def fmF (V : Vil) (o : Ovr) (S : Scn) (P : Nat → Nat) (L : Nat → Int32) (a p : Nat) (q : Fmt) : Nat → Fmt
  | 0 => q
  | x + 1 => fmS V o S P L a p (fmF V o S P L a p q x) x
/-- how many plans there are -/
def nPl (V : Vil) : Nat := (nhV V + 1) * (nhV V + 1) * (nhV V + 1) * (nhV V + 1)
theorem nPl_le {V : Vil} (h : nhV V ≤ 5) : nPl V ≤ 1296 := by
  unfold nPl
  rcases (show nhV V = 0 ∨ nhV V = 1 ∨ nhV V = 2 ∨ nhV V = 3 ∨ nhV V = 4 ∨ nhV V = 5 by omega) with e | e | e | e | e | e <;> rw [e] <;> decide
theorem fmF_b (V : Vil) (o : Ovr) (S : Scn) (P : Nat → Nat) (L : Nat → Int32) (a p : Nat) (q : Fmt) (h : q.2.1 = 0) : ∀ n, (fmF V o S P L a p q n).2.1 ≤ n := by
  intro n
  induction n with
  | zero => exact Nat.le_of_eq h
  | succ n ih =>
    show (if _ then n else (fmF V o S P L a p q n).2.1) ≤ n + 1
    split <;> omega
def fmR (V : Vil) (o : Ovr) (S : Scn) (P : Nat → Nat) (L : Nat → Int32) (a p : Nat) (W : Nat → Nat) (B f : Nat → Int32) : Fmt := fmF V o S P L a p (-1000000, 0, W, B, f) (nPl V)
set_option maxHeartbeats 4000000 in
set_option maxRecDepth 100000 in
theorem m_findBest (E : EnvT) (ad r : Nat → Nat) (i : Nat → Int32) (V : Vil) (o : Ovr) (lg ll : Int32) (W : Nat → Nat) (B f g : Nat → Int32) (bp : Nat → Nat) (G : Nat → Int32) (S : Scn) (P : Nat → Nat) (L : Nat → Int32) (a : Nat) (p : Nat) (hV : Vok V) (hS : Sle V S) (hP : Pok V P) (ht : psS S < 2 ^ 29) (hp : p < npV V) : Md E mX10_findBest ad [.ref (ad 0), .int (nI p)] (mtC E ad r i V o lg ll W B f (rwF S P L a) bp G) (some (.int (fmR V o S P L a p W B f).1)) (mtC E ad r i V o lg ll (fmR V o S P L a p W B f).2.2.1 (fmR V o S P L a p W B f).2.2.2.1 (fmR V o S P L a p W B f).2.2.2.2 (rwF S P L a) (pbR V (fmR V o S P L a p W B f).2.1 bp) G) := by
  have v1 := hV.1
  have v2 := hV.2.1
  have hn := nPl_le v1
  have hmod : ∀ l, l % (nhV V + 1) ≤ nhV V := fun l => Nat.lt_succ_iff.mp (Nat.mod_lt l (by omega))
  have he0 : 0 < nhV V + 1 := by omega
  have he1 : nhV V + 1 < 2 ^ 31 := by omega
  have hdv : ∀ l, l < 2 ^ 31 → l / (nhV V + 1) < 2 ^ 31 := fun l hl => Nat.lt_of_le_of_lt (Nat.div_le_self _ _) hl
  have hR : (nhV V + 1) * (nhV V + 1) * (nhV V + 1) * (nhV V + 1) = nPl V := rfl
  refine Md.of 7 (by decide) rfl rfl ?_
  refine Tr.aload_n (i := 0) dX10_findBest_0 rfl rfl (Eq.refl 1) ?_
  refine Tr.getf dX10_findBest_1 fX10_282 rfl rfl (Eq.refl 4) ?_
  refine Tr.iconst (v := nI 1) dX10_findBest_4 (icN 1) (Eq.refl 5) ?_
  refine Tr.iaddN dX10_findBest_5 (Eq.refl 6) ?_
  refine Tr.istore_n (i := 2) dX10_findBest_6 rfl rfl rfl (Eq.refl 7) ?_
  refine Tr.iload_n (i := 2) dX10_findBest_7 rfl rfl (Eq.refl 8) ?_
  refine Tr.iload_n (i := 2) dX10_findBest_8 rfl rfl (Eq.refl 9) ?_
  refine Tr.imulN dX10_findBest_9 (Eq.refl 10) ?_
  refine Tr.iload_n (i := 2) dX10_findBest_10 rfl rfl (Eq.refl 11) ?_
  refine Tr.imulN dX10_findBest_11 (Eq.refl 12) ?_
  refine Tr.iload_n (i := 2) dX10_findBest_12 rfl rfl (Eq.refl 13) ?_
  refine Tr.imulN dX10_findBest_13 (Eq.refl 14) ?_
  refine Tr.istore_n (i := 3) dX10_findBest_14 rfl rfl rfl (Eq.refl 15) ?_
  refine Tr.ldcw dX10_findBest_15 qX10_395 (Eq.refl 18) ?_
  refine Tr.istore dX10_findBest_18 rfl rfl (Eq.refl 20) ?_
  refine Tr.iconst (v := nI 0) dX10_findBest_20 (icN 0) (Eq.refl 21) ?_
  refine Tr.istore dX10_findBest_21 rfl rfl (Eq.refl 23) ?_
  refine Tr.iconst (v := nI 0) dX10_findBest_23 (icN 0) (Eq.refl 24) ?_
  refine Tr.istore dX10_findBest_24 rfl rfl (Eq.refl 26) ?_
  refine Tr.mask [true, true, true, true, true, true, true, true, true] (lv' := [some (.ref (ad 0)), some (.int (nI p)), some (.int (nI (nhV V + 1))), some (.int (nI ((nhV V + 1) * (nhV V + 1) * (nhV V + 1) * (nhV V + 1)))), some (.int (fmF V o S P L a p (-1000000, 0, W, B, f) 0).1), some (.int (nI (fmF V o S P L a p (-1000000, 0, W, B, f) 0).2.1)), some (.int (nI 0)), none, none]) rfl ?_
  refine Tr.pic (w' := (mtC E ad r i V o lg ll (fmF V o S P L a p (-1000000, 0, W, B, f) 0).2.2.1 (fmF V o S P L a p (-1000000, 0, W, B, f) 0).2.2.2.1 (fmF V o S P L a p (-1000000, 0, W, B, f) 0).2.2.2.2 (rwF S P L a) bp G)) rfl ?_
  refine loopD (P := fun j => Tr _ 0 0 26 [some (.ref (ad 0)), some (.int (nI p)), some (.int (nI (nhV V + 1))), some (.int (nI ((nhV V + 1) * (nhV V + 1) * (nhV V + 1) * (nhV V + 1)))), some (.int (fmF V o S P L a p (-1000000, 0, W, B, f) j).1), some (.int (nI (fmF V o S P L a p (-1000000, 0, W, B, f) j).2.1)), some (.int (nI j)), none, none] [] (mtC E ad r i V o lg ll (fmF V o S P L a p (-1000000, 0, W, B, f) j).2.2.1 (fmF V o S P L a p (-1000000, 0, W, B, f) j).2.2.2.1 (fmF V o S P L a p (-1000000, 0, W, B, f) j).2.2.2.2 (rwF S P L a) bp G)) (nPl V) ?_ (fun j hj ih => ?_)
  · have hb : (fmR V o S P L a p W B f).2.1 ≤ nPl V := fmF_b V o S P L a p _ rfl (nPl V)
    show Tr _ 0 0 26 [some (.ref (ad 0)), some (.int (nI p)), some (.int (nI (nhV V + 1))), some (.int (nI ((nhV V + 1) * (nhV V + 1) * (nhV V + 1) * (nhV V + 1)))), some (.int (fmR V o S P L a p W B f).1), some (.int (nI (fmR V o S P L a p W B f).2.1)), some (.int (nI (nPl V))), none, none] [] (mtC E ad r i V o lg ll (fmR V o S P L a p W B f).2.2.1 (fmR V o S P L a p W B f).2.2.2.1 (fmR V o S P L a p W B f).2.2.2.2 (rwF S P L a) bp G)
    generalize (fmR V o S P L a p W B f) = q at *
    obtain ⟨m, b, W1, B1, f1⟩ := q
    have hb : b ≤ nPl V := hb
    have x0 : b < 2 ^ 31 := by omega
    have x1 := hdv _ x0
    have x2 := hdv _ x1
    have x3 := hdv _ x2
    have x4 := hdv _ x3
    refine Tr.iload dX10_findBest_26 rfl (Eq.refl 28) ?_
    refine Tr.iload_n (i := 3) dX10_findBest_28 rfl rfl (Eq.refl 29) ?_
    refine Tr.icmp_geN (tgt := 113) dX10_findBest_29 (by decide) (Eq.refl 32) (by omega) (by omega) (fun h29 => ?_) (fun h29 => ?_)
    · refine Tr.iconst (v := nI 3) dX10_findBest_113 (icN 3) (Eq.refl 114) ?_
      refine Tr.istore dX10_findBest_114 rfl rfl (Eq.refl 116) ?_
      refine Tr.iload dX10_findBest_116 rfl (Eq.refl 118) ?_
      refine Tr.if_lt (tgt := 148) dX10_findBest_118 (by decide) (Eq.refl 121) (fun h => absurd h (by decide)) (fun _ => ?_)
      refine Tr.aload_n (i := 0) dX10_findBest_121 rfl rfl (Eq.refl 122) ?_
      refine Tr.getf dX10_findBest_122 fX10_249 rfl rfl (Eq.refl 125) ?_
      refine Tr.iload dX10_findBest_125 rfl (Eq.refl 127) ?_
      refine Tr.aload_n (i := 0) dX10_findBest_127 rfl rfl (Eq.refl 128) ?_
      refine Tr.iload dX10_findBest_128 rfl (Eq.refl 130) ?_
      refine Tr.iload_n (i := 2) dX10_findBest_130 rfl rfl (Eq.refl 131) ?_
      refine Tr.irem dX10_findBest_131 (nI_ne0 he0 he1) (Eq.refl 132) ?_
      rw [pk_rem (by assumption) he0 he1]
      refine Tr.callVr (L := [0]) (m_place E _ (rP ad r) (iP V o lg ll i) (nhV V) (npV V) _ v1 (hmod _)) dX10_findBest_132 (kX10_411 (Nat.le_of_ble_eq_true rfl)) iX10_place rfl rfl rfl rfl rfl rfl rfl rfl rfl (Eq.refl 135) ?_
      refine Tr.iastN dX10_findBest_135 rfl (by omega) (by decide) (Eq.refl 136) ?_
      refine Tr.pic mt_bp ?_
      refine Tr.iload dX10_findBest_136 rfl (Eq.refl 138) ?_
      refine Tr.iload_n (i := 2) dX10_findBest_138 rfl rfl (Eq.refl 139) ?_
      refine Tr.idiv dX10_findBest_139 (nI_ne0 he0 he1) (Eq.refl 140) ?_
      rw [pk_div (by assumption) he0 he1]
      refine Tr.istore dX10_findBest_140 rfl rfl (Eq.refl 142) ?_
      refine Tr.iinc (v := nI 2) dX10_findBest_142 rfl (by decide +kernel) rfl rfl (Eq.refl 145) ?_
      refine Tr.goto (pc' := 116) dX10_findBest_145 (by decide) ?_
      refine Tr.iload dX10_findBest_116 rfl (Eq.refl 118) ?_
      refine Tr.if_lt (tgt := 148) dX10_findBest_118 (by decide) (Eq.refl 121) (fun h => absurd h (by decide)) (fun _ => ?_)
      refine Tr.aload_n (i := 0) dX10_findBest_121 rfl rfl (Eq.refl 122) ?_
      refine Tr.getf dX10_findBest_122 fX10_249 rfl rfl (Eq.refl 125) ?_
      refine Tr.iload dX10_findBest_125 rfl (Eq.refl 127) ?_
      refine Tr.aload_n (i := 0) dX10_findBest_127 rfl rfl (Eq.refl 128) ?_
      refine Tr.iload dX10_findBest_128 rfl (Eq.refl 130) ?_
      refine Tr.iload_n (i := 2) dX10_findBest_130 rfl rfl (Eq.refl 131) ?_
      refine Tr.irem dX10_findBest_131 (nI_ne0 he0 he1) (Eq.refl 132) ?_
      rw [pk_rem (by assumption) he0 he1]
      refine Tr.callVr (L := [0]) (m_place E _ (rP ad r) (iP V o lg ll i) (nhV V) (npV V) _ v1 (hmod _)) dX10_findBest_132 (kX10_411 (Nat.le_of_ble_eq_true rfl)) iX10_place rfl rfl rfl rfl rfl rfl rfl rfl rfl (Eq.refl 135) ?_
      refine Tr.iastN dX10_findBest_135 rfl (by omega) (by decide) (Eq.refl 136) ?_
      refine Tr.pic mt_bp ?_
      refine Tr.iload dX10_findBest_136 rfl (Eq.refl 138) ?_
      refine Tr.iload_n (i := 2) dX10_findBest_138 rfl rfl (Eq.refl 139) ?_
      refine Tr.idiv dX10_findBest_139 (nI_ne0 he0 he1) (Eq.refl 140) ?_
      rw [pk_div (by assumption) he0 he1]
      refine Tr.istore dX10_findBest_140 rfl rfl (Eq.refl 142) ?_
      refine Tr.iinc (v := nI 1) dX10_findBest_142 rfl (by decide +kernel) rfl rfl (Eq.refl 145) ?_
      refine Tr.goto (pc' := 116) dX10_findBest_145 (by decide) ?_
      refine Tr.iload dX10_findBest_116 rfl (Eq.refl 118) ?_
      refine Tr.if_lt (tgt := 148) dX10_findBest_118 (by decide) (Eq.refl 121) (fun h => absurd h (by decide)) (fun _ => ?_)
      refine Tr.aload_n (i := 0) dX10_findBest_121 rfl rfl (Eq.refl 122) ?_
      refine Tr.getf dX10_findBest_122 fX10_249 rfl rfl (Eq.refl 125) ?_
      refine Tr.iload dX10_findBest_125 rfl (Eq.refl 127) ?_
      refine Tr.aload_n (i := 0) dX10_findBest_127 rfl rfl (Eq.refl 128) ?_
      refine Tr.iload dX10_findBest_128 rfl (Eq.refl 130) ?_
      refine Tr.iload_n (i := 2) dX10_findBest_130 rfl rfl (Eq.refl 131) ?_
      refine Tr.irem dX10_findBest_131 (nI_ne0 he0 he1) (Eq.refl 132) ?_
      rw [pk_rem (by assumption) he0 he1]
      refine Tr.callVr (L := [0]) (m_place E _ (rP ad r) (iP V o lg ll i) (nhV V) (npV V) _ v1 (hmod _)) dX10_findBest_132 (kX10_411 (Nat.le_of_ble_eq_true rfl)) iX10_place rfl rfl rfl rfl rfl rfl rfl rfl rfl (Eq.refl 135) ?_
      refine Tr.iastN dX10_findBest_135 rfl (by omega) (by decide) (Eq.refl 136) ?_
      refine Tr.pic mt_bp ?_
      refine Tr.iload dX10_findBest_136 rfl (Eq.refl 138) ?_
      refine Tr.iload_n (i := 2) dX10_findBest_138 rfl rfl (Eq.refl 139) ?_
      refine Tr.idiv dX10_findBest_139 (nI_ne0 he0 he1) (Eq.refl 140) ?_
      rw [pk_div (by assumption) he0 he1]
      refine Tr.istore dX10_findBest_140 rfl rfl (Eq.refl 142) ?_
      refine Tr.iinc (v := nI 0) dX10_findBest_142 rfl (by decide +kernel) rfl rfl (Eq.refl 145) ?_
      refine Tr.goto (pc' := 116) dX10_findBest_145 (by decide) ?_
      refine Tr.iload dX10_findBest_116 rfl (Eq.refl 118) ?_
      refine Tr.if_lt (tgt := 148) dX10_findBest_118 (by decide) (Eq.refl 121) (fun h => absurd h (by decide)) (fun _ => ?_)
      refine Tr.aload_n (i := 0) dX10_findBest_121 rfl rfl (Eq.refl 122) ?_
      refine Tr.getf dX10_findBest_122 fX10_249 rfl rfl (Eq.refl 125) ?_
      refine Tr.iload dX10_findBest_125 rfl (Eq.refl 127) ?_
      refine Tr.aload_n (i := 0) dX10_findBest_127 rfl rfl (Eq.refl 128) ?_
      refine Tr.iload dX10_findBest_128 rfl (Eq.refl 130) ?_
      refine Tr.iload_n (i := 2) dX10_findBest_130 rfl rfl (Eq.refl 131) ?_
      refine Tr.irem dX10_findBest_131 (nI_ne0 he0 he1) (Eq.refl 132) ?_
      rw [pk_rem (by assumption) he0 he1]
      refine Tr.callVr (L := [0]) (m_place E _ (rP ad r) (iP V o lg ll i) (nhV V) (npV V) _ v1 (hmod _)) dX10_findBest_132 (kX10_411 (Nat.le_of_ble_eq_true rfl)) iX10_place rfl rfl rfl rfl rfl rfl rfl rfl rfl (Eq.refl 135) ?_
      refine Tr.iastN dX10_findBest_135 rfl (by omega) (by decide) (Eq.refl 136) ?_
      refine Tr.pic mt_bp ?_
      refine Tr.iload dX10_findBest_136 rfl (Eq.refl 138) ?_
      refine Tr.iload_n (i := 2) dX10_findBest_138 rfl rfl (Eq.refl 139) ?_
      refine Tr.idiv dX10_findBest_139 (nI_ne0 he0 he1) (Eq.refl 140) ?_
      rw [pk_div (by assumption) he0 he1]
      refine Tr.istore dX10_findBest_140 rfl rfl (Eq.refl 142) ?_
      refine Tr.iinc (v := (-1)) dX10_findBest_142 rfl (by decide +kernel) rfl rfl (Eq.refl 145) ?_
      refine Tr.goto (pc' := 116) dX10_findBest_145 (by decide) ?_
      refine Tr.iload dX10_findBest_116 rfl (Eq.refl 118) ?_
      refine Tr.if_lt (tgt := 148) dX10_findBest_118 (by decide) (Eq.refl 121) (fun _ => ?_) (fun h => absurd h (by decide))
      refine Tr.iload dX10_findBest_148 rfl (Eq.refl 150) ?_
      refine Tr.iret dX10_findBest_150 rfl (by first | rfl | exact bI_nar _) ?_ ?_
      · rfl
      · rfl
    · exact absurd h29 (by omega)
  · have hu : (fmF V o S P L a p (-1000000, 0, W, B, f) (j + 1)) = fmS V o S P L a p (fmF V o S P L a p (-1000000, 0, W, B, f) j) j := rfl
    rw [hu] at ih
    clear hu
    generalize (fmF V o S P L a p (-1000000, 0, W, B, f) j) = q at *
    obtain ⟨m, b, W1, B1, f1⟩ := q
    have hu : fmS V o S P L a p (m, b, W1, B1, f1) j = (if m < smR V o (pxP V p j P) L (S, W1, B1) p then smR V o (pxP V p j P) L (S, W1, B1) p else m, if m < smR V o (pxP V p j P) L (S, W1, B1) p then j else b, (mgF V o (pxP V p j P) L (S, W1, B1) 4).2.1, (mgF V o (pxP V p j P) L (S, W1, B1) 4).2.2, rwF (mgF V o (pxP V p j P) L (S, W1, B1) 4).1 (pxP V p j P) L a) := rfl
    rw [hu] at ih
    clear hu
    show Tr _ 0 0 26 [some (.ref (ad 0)), some (.int (nI p)), some (.int (nI (nhV V + 1))), some (.int (nI ((nhV V + 1) * (nhV V + 1) * (nhV V + 1) * (nhV V + 1)))), some (.int m), some (.int (nI b)), some (.int (nI j)), none, none] [] (mtC E ad r i V o lg ll W1 B1 f1 (rwF S P L a) bp G)
    have x0 : j < 2 ^ 31 := by omega
    have x1 := hdv _ x0
    have x2 := hdv _ x1
    have x3 := hdv _ x2
    have x4 := hdv _ x3
    refine Tr.iload dX10_findBest_26 rfl (Eq.refl 28) ?_
    refine Tr.iload_n (i := 3) dX10_findBest_28 rfl rfl (Eq.refl 29) ?_
    refine Tr.icmp_geN (tgt := 113) dX10_findBest_29 (by decide) (Eq.refl 32) (by omega) (by omega) (fun h29 => ?_) (fun h29 => ?_)
    · exact absurd h29 (by omega)
    · refine Tr.aload_n (i := 0) dX10_findBest_32 rfl rfl (Eq.refl 33) ?_
      refine Tr.callVs (m_copyNow E ad r i V o lg ll W1 B1 f1 (rwF S P L a) bp G) dX10_findBest_33 (kX10_402 (Nat.le_of_ble_eq_true rfl)) iX10_copyNow rfl rfl rfl rfl rfl (mt_le) rfl rfl (Eq.refl 36) ?_
      refine Tr.iload dX10_findBest_36 rfl (Eq.refl 38) ?_
      refine Tr.istore dX10_findBest_38 rfl rfl (Eq.refl 40) ?_
      refine Tr.iconst (v := nI 3) dX10_findBest_40 (icN 3) (Eq.refl 41) ?_
      refine Tr.istore dX10_findBest_41 rfl rfl (Eq.refl 43) ?_
      refine Tr.iload dX10_findBest_43 rfl (Eq.refl 45) ?_
      refine Tr.if_lt (tgt := 82) dX10_findBest_45 (by decide) (Eq.refl 48) (fun h => absurd h (by decide)) (fun _ => ?_)
      refine Tr.aload_n (i := 0) dX10_findBest_48 rfl rfl (Eq.refl 49) ?_
      refine Tr.getf dX10_findBest_49 fX10_222 rfl rfl (Eq.refl 52) ?_
      refine Tr.bipush (v := nI 35) dX10_findBest_52 (by decide +kernel) (Eq.refl 54) ?_
      refine Tr.iconst (v := nI 4) dX10_findBest_54 (icN 4) (Eq.refl 55) ?_
      refine Tr.iload_n (i := 1) dX10_findBest_55 rfl rfl (Eq.refl 56) ?_
      refine Tr.imulN dX10_findBest_56 (Eq.refl 57) ?_
      refine Tr.iaddN dX10_findBest_57 (Eq.refl 58) ?_
      refine Tr.iload dX10_findBest_58 rfl (Eq.refl 60) ?_
      refine Tr.iaddN dX10_findBest_60 (Eq.refl 61) ?_
      refine Tr.aload_n (i := 0) dX10_findBest_61 rfl rfl (Eq.refl 62) ?_
      refine Tr.iload dX10_findBest_62 rfl (Eq.refl 64) ?_
      refine Tr.iload_n (i := 2) dX10_findBest_64 rfl rfl (Eq.refl 65) ?_
      refine Tr.irem dX10_findBest_65 (nI_ne0 he0 he1) (Eq.refl 66) ?_
      rw [pk_rem (by assumption) he0 he1]
      refine Tr.callVr (L := [0]) (m_place E _ (rP ad r) (iP V o lg ll i) (nhV V) (npV V) _ v1 (hmod _)) dX10_findBest_66 (kX10_411 (Nat.le_of_ble_eq_true rfl)) iX10_place rfl rfl rfl rfl rfl rfl rfl rfl rfl (Eq.refl 69) ?_
      refine Tr.iastN dX10_findBest_69 rfl (by omega) (by decide) (Eq.refl 70) ?_
      refine Tr.pic (mt_pl (by omega)) ?_
      refine Tr.iload dX10_findBest_70 rfl (Eq.refl 72) ?_
      refine Tr.iload_n (i := 2) dX10_findBest_72 rfl rfl (Eq.refl 73) ?_
      refine Tr.idiv dX10_findBest_73 (nI_ne0 he0 he1) (Eq.refl 74) ?_
      rw [pk_div (by assumption) he0 he1]
      refine Tr.istore dX10_findBest_74 rfl rfl (Eq.refl 76) ?_
      refine Tr.iinc (v := nI 2) dX10_findBest_76 rfl (by decide +kernel) rfl rfl (Eq.refl 79) ?_
      refine Tr.goto (pc' := 43) dX10_findBest_79 (by decide) ?_
      refine Tr.iload dX10_findBest_43 rfl (Eq.refl 45) ?_
      refine Tr.if_lt (tgt := 82) dX10_findBest_45 (by decide) (Eq.refl 48) (fun h => absurd h (by decide)) (fun _ => ?_)
      refine Tr.aload_n (i := 0) dX10_findBest_48 rfl rfl (Eq.refl 49) ?_
      refine Tr.getf dX10_findBest_49 fX10_222 rfl rfl (Eq.refl 52) ?_
      refine Tr.bipush (v := nI 35) dX10_findBest_52 (by decide +kernel) (Eq.refl 54) ?_
      refine Tr.iconst (v := nI 4) dX10_findBest_54 (icN 4) (Eq.refl 55) ?_
      refine Tr.iload_n (i := 1) dX10_findBest_55 rfl rfl (Eq.refl 56) ?_
      refine Tr.imulN dX10_findBest_56 (Eq.refl 57) ?_
      refine Tr.iaddN dX10_findBest_57 (Eq.refl 58) ?_
      refine Tr.iload dX10_findBest_58 rfl (Eq.refl 60) ?_
      refine Tr.iaddN dX10_findBest_60 (Eq.refl 61) ?_
      refine Tr.aload_n (i := 0) dX10_findBest_61 rfl rfl (Eq.refl 62) ?_
      refine Tr.iload dX10_findBest_62 rfl (Eq.refl 64) ?_
      refine Tr.iload_n (i := 2) dX10_findBest_64 rfl rfl (Eq.refl 65) ?_
      refine Tr.irem dX10_findBest_65 (nI_ne0 he0 he1) (Eq.refl 66) ?_
      rw [pk_rem (by assumption) he0 he1]
      refine Tr.callVr (L := [0]) (m_place E _ (rP ad r) (iP V o lg ll i) (nhV V) (npV V) _ v1 (hmod _)) dX10_findBest_66 (kX10_411 (Nat.le_of_ble_eq_true rfl)) iX10_place rfl rfl rfl rfl rfl rfl rfl rfl rfl (Eq.refl 69) ?_
      refine Tr.iastN dX10_findBest_69 rfl (by omega) (by decide) (Eq.refl 70) ?_
      refine Tr.pic (mt_pl (by omega)) ?_
      refine Tr.iload dX10_findBest_70 rfl (Eq.refl 72) ?_
      refine Tr.iload_n (i := 2) dX10_findBest_72 rfl rfl (Eq.refl 73) ?_
      refine Tr.idiv dX10_findBest_73 (nI_ne0 he0 he1) (Eq.refl 74) ?_
      rw [pk_div (by assumption) he0 he1]
      refine Tr.istore dX10_findBest_74 rfl rfl (Eq.refl 76) ?_
      refine Tr.iinc (v := nI 1) dX10_findBest_76 rfl (by decide +kernel) rfl rfl (Eq.refl 79) ?_
      refine Tr.goto (pc' := 43) dX10_findBest_79 (by decide) ?_
      refine Tr.iload dX10_findBest_43 rfl (Eq.refl 45) ?_
      refine Tr.if_lt (tgt := 82) dX10_findBest_45 (by decide) (Eq.refl 48) (fun h => absurd h (by decide)) (fun _ => ?_)
      refine Tr.aload_n (i := 0) dX10_findBest_48 rfl rfl (Eq.refl 49) ?_
      refine Tr.getf dX10_findBest_49 fX10_222 rfl rfl (Eq.refl 52) ?_
      refine Tr.bipush (v := nI 35) dX10_findBest_52 (by decide +kernel) (Eq.refl 54) ?_
      refine Tr.iconst (v := nI 4) dX10_findBest_54 (icN 4) (Eq.refl 55) ?_
      refine Tr.iload_n (i := 1) dX10_findBest_55 rfl rfl (Eq.refl 56) ?_
      refine Tr.imulN dX10_findBest_56 (Eq.refl 57) ?_
      refine Tr.iaddN dX10_findBest_57 (Eq.refl 58) ?_
      refine Tr.iload dX10_findBest_58 rfl (Eq.refl 60) ?_
      refine Tr.iaddN dX10_findBest_60 (Eq.refl 61) ?_
      refine Tr.aload_n (i := 0) dX10_findBest_61 rfl rfl (Eq.refl 62) ?_
      refine Tr.iload dX10_findBest_62 rfl (Eq.refl 64) ?_
      refine Tr.iload_n (i := 2) dX10_findBest_64 rfl rfl (Eq.refl 65) ?_
      refine Tr.irem dX10_findBest_65 (nI_ne0 he0 he1) (Eq.refl 66) ?_
      rw [pk_rem (by assumption) he0 he1]
      refine Tr.callVr (L := [0]) (m_place E _ (rP ad r) (iP V o lg ll i) (nhV V) (npV V) _ v1 (hmod _)) dX10_findBest_66 (kX10_411 (Nat.le_of_ble_eq_true rfl)) iX10_place rfl rfl rfl rfl rfl rfl rfl rfl rfl (Eq.refl 69) ?_
      refine Tr.iastN dX10_findBest_69 rfl (by omega) (by decide) (Eq.refl 70) ?_
      refine Tr.pic (mt_pl (by omega)) ?_
      refine Tr.iload dX10_findBest_70 rfl (Eq.refl 72) ?_
      refine Tr.iload_n (i := 2) dX10_findBest_72 rfl rfl (Eq.refl 73) ?_
      refine Tr.idiv dX10_findBest_73 (nI_ne0 he0 he1) (Eq.refl 74) ?_
      rw [pk_div (by assumption) he0 he1]
      refine Tr.istore dX10_findBest_74 rfl rfl (Eq.refl 76) ?_
      refine Tr.iinc (v := nI 0) dX10_findBest_76 rfl (by decide +kernel) rfl rfl (Eq.refl 79) ?_
      refine Tr.goto (pc' := 43) dX10_findBest_79 (by decide) ?_
      refine Tr.iload dX10_findBest_43 rfl (Eq.refl 45) ?_
      refine Tr.if_lt (tgt := 82) dX10_findBest_45 (by decide) (Eq.refl 48) (fun h => absurd h (by decide)) (fun _ => ?_)
      refine Tr.aload_n (i := 0) dX10_findBest_48 rfl rfl (Eq.refl 49) ?_
      refine Tr.getf dX10_findBest_49 fX10_222 rfl rfl (Eq.refl 52) ?_
      refine Tr.bipush (v := nI 35) dX10_findBest_52 (by decide +kernel) (Eq.refl 54) ?_
      refine Tr.iconst (v := nI 4) dX10_findBest_54 (icN 4) (Eq.refl 55) ?_
      refine Tr.iload_n (i := 1) dX10_findBest_55 rfl rfl (Eq.refl 56) ?_
      refine Tr.imulN dX10_findBest_56 (Eq.refl 57) ?_
      refine Tr.iaddN dX10_findBest_57 (Eq.refl 58) ?_
      refine Tr.iload dX10_findBest_58 rfl (Eq.refl 60) ?_
      refine Tr.iaddN dX10_findBest_60 (Eq.refl 61) ?_
      refine Tr.aload_n (i := 0) dX10_findBest_61 rfl rfl (Eq.refl 62) ?_
      refine Tr.iload dX10_findBest_62 rfl (Eq.refl 64) ?_
      refine Tr.iload_n (i := 2) dX10_findBest_64 rfl rfl (Eq.refl 65) ?_
      refine Tr.irem dX10_findBest_65 (nI_ne0 he0 he1) (Eq.refl 66) ?_
      rw [pk_rem (by assumption) he0 he1]
      refine Tr.callVr (L := [0]) (m_place E _ (rP ad r) (iP V o lg ll i) (nhV V) (npV V) _ v1 (hmod _)) dX10_findBest_66 (kX10_411 (Nat.le_of_ble_eq_true rfl)) iX10_place rfl rfl rfl rfl rfl rfl rfl rfl rfl (Eq.refl 69) ?_
      refine Tr.iastN dX10_findBest_69 rfl (by omega) (by decide) (Eq.refl 70) ?_
      refine Tr.pic (mt_pl (by omega)) ?_
      refine Tr.iload dX10_findBest_70 rfl (Eq.refl 72) ?_
      refine Tr.iload_n (i := 2) dX10_findBest_72 rfl rfl (Eq.refl 73) ?_
      refine Tr.idiv dX10_findBest_73 (nI_ne0 he0 he1) (Eq.refl 74) ?_
      rw [pk_div (by assumption) he0 he1]
      refine Tr.istore dX10_findBest_74 rfl rfl (Eq.refl 76) ?_
      refine Tr.iinc (v := (-1)) dX10_findBest_76 rfl (by decide +kernel) rfl rfl (Eq.refl 79) ?_
      refine Tr.goto (pc' := 43) dX10_findBest_79 (by decide) ?_
      refine Tr.iload dX10_findBest_43 rfl (Eq.refl 45) ?_
      refine Tr.if_lt (tgt := 82) dX10_findBest_45 (by decide) (Eq.refl 48) (fun _ => ?_) (fun h => absurd h (by decide))
      refine Tr.pic (w' := (mtC E ad r i V o lg ll W1 B1 (rwF S (pxP V p j P) L a) (rwF S P L a) bp G)) rfl ?_
      refine Tr.aload_n (i := 0) dX10_findBest_82 rfl rfl (Eq.refl 83) ?_
      refine Tr.iload_n (i := 1) dX10_findBest_83 rfl rfl (Eq.refl 84) ?_
      refine Tr.callVs (m_sumOf E ad r i V o lg ll W1 B1 (rwF S P L a) bp G S (pxP V p j P) L a p hV hS (pxP_ok hP p j) ht hp) dX10_findBest_84 (kX10_405 (Nat.le_of_ble_eq_true rfl)) iX10_sumOf rfl rfl rfl rfl rfl (mt_le) rfl rfl (Eq.refl 87) ?_
      refine Tr.istore dX10_findBest_87 rfl rfl (Eq.refl 89) ?_
      refine Tr.iload dX10_findBest_89 rfl (Eq.refl 91) ?_
      refine Tr.iload dX10_findBest_91 rfl (Eq.refl 93) ?_
      refine Tr.icmp_gt (tgt := 99) dX10_findBest_93 (by decide) (Eq.refl 96) (fun h93 => ?_) (fun h93 => ?_)
      · rw [if_pos h93, if_pos h93] at ih
        refine Tr.iload dX10_findBest_99 rfl (Eq.refl 101) ?_
        refine Tr.istore dX10_findBest_101 rfl rfl (Eq.refl 103) ?_
        refine Tr.iload dX10_findBest_103 rfl (Eq.refl 105) ?_
        refine Tr.istore dX10_findBest_105 rfl rfl (Eq.refl 107) ?_
        refine Tr.iincN dX10_findBest_107 rfl rfl rfl (Eq.refl 110) ?_
        refine Tr.goto (pc' := 26) dX10_findBest_110 (by decide) ?_
        exact Tr.mask [true, true, true, true, true, true, true, false, false] rfl ih
      · rw [if_neg h93, if_neg h93] at ih
        refine Tr.goto (pc' := 107) dX10_findBest_96 (by decide) ?_
        refine Tr.iincN dX10_findBest_107 rfl rfl rfl (Eq.refl 110) ?_
        refine Tr.goto (pc' := 26) dX10_findBest_110 (by decide) ?_
        exact Tr.mask [true, true, true, true, true, true, true, false, false] rfl ih
