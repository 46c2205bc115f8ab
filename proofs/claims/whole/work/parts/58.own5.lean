/-! plans and feasts, slots: the class and the reference -/
/-- a sign of a plan -/
def rpB (nh : Nat) (T : Nat → Nat) (k : Nat) : Bool := decide (T k = 111) || ixB (sgI T k) nh
def rpS (nh : Nat) (T : Nat → Nat) (k : Nat) (_ : Unit) : Bool × Unit := (rpB nh T k, ())
def rpA (nh len : Nat) (T : Nat → Nat) : Bool := decide (len = 4) && (itB (rpS nh T) () 4).1
def rpP (T : Nat → Nat) (k : Nat) : Nat := if T k = 111 then 5 else nN (sgI T k)
def rpF (T : Nat → Nat) (p : Nat) (P : Nat → Nat) : Nat → Nat → Nat
  | 0 => P
  | k + 1 => upN (rpF T p P k) (p * 4 + k) (rpP T k)
theorem rp_ok {nh : Nat} {T : Nat → Nat} : ∀ n, (itB (rpS nh T) () n).1 = true → ∀ k, k < n → rpB nh T k = true := by
  intro n
  induction n with
  | zero => intro _ k hk; omega
  | succ n ih =>
    intro h k hk
    by_cases h2 : (itB (rpS nh T) () n).1 = true
    · by_cases e : k = n
      · subst e; rw [itB_s h2] at h; exact h
      · exact ih h2 k (by omega)
    · exact absurd h (by rw [itB_fr (Nat.le_succ n) (bnt h2)]; exact h2)
theorem rpP_ok {nh : Nat} {T : Nat → Nat} {k : Nat} (hn : nh ≤ 5) (h : rpB nh T k = true) : rpP T k < nh ∨ rpP T k = 5 := by
  unfold rpP
  by_cases e : T k = 111
  · rw [if_pos e]; exact Or.inr rfl
  · rw [if_neg e]
    have h2 : ixB (sgI T k) nh = true := by
      unfold rpB at h
      rw [decide_eq_false e, Bool.false_or] at h
      exact h
    obtain ⟨j, hj, hjx⟩ := ixB_n hn h2
    rw [hjx, nN_n (by omega)]
    exact Or.inl hj
set_option maxHeartbeats 4000000 in
set_option maxRecDepth 100000 in
theorem x_readPlan (E : EnvT) (ad r : Nat → Nat) (hb : Bool) (len : Nat) (q : Int32 × Int32 × Int32 × Int32) (nm : Int64) (T : Nat → Nat) (S : Scn) (P : Nat → Nat) (L : Nat → Int32) (a : Nat) (kp : Bool) (W : Nat → Nat) (V : Vil) (X : Vix) (F : Nat → Nat) (p : Nat) (hV : Vok V) (hl : len ≤ 900) (hp : p < npV V) (hT : ∀ k, k < 900 → T k < 256) : Md E mX9_readPlan ad [.ref (ad 0), .int (nI p)] (xpC E ad r hb len q nm T S P L a kp W V X F) (some (.int (if (rpA (nhV V) len T) then 1 else -1))) (xpC E ad r hb len q nm T S (if (rpA (nhV V) len T) then rpF T p P 4 else P) L a kp W V X F) := by
  have v1 := hV.1
  have v2 := hV.2.1
  by_cases he : len = 4
  · have hcx : (rpA (nhV V) len T) = (itB (rpS (nhV V) T) () 4).1 := by unfold rpA; rw [decide_eq_true he, Bool.true_and]
    rw [hcx]
    clear hcx
    have hok := rp_ok (nh := nhV V) (T := T) 4
    generalize hR : (itB (rpS (nhV V) T) () 4) = R at *
    refine Md.of 2 (by decide) rfl rfl ?_
    refine Tr.aload_n (i := 0) dX9_readPlan_0 rfl rfl (Eq.refl 1) ?_
    refine Tr.getf dX9_readPlan_1 fX9_10 rfl rfl (Eq.refl 4) ?_
    refine Tr.getf dX9_readPlan_4 fX9_68 rfl rfl (Eq.refl 7) ?_
    refine Tr.iconst (v := nI 4) dX9_readPlan_7 (icN 4) (Eq.refl 8) ?_
    refine Tr.icmp_eqN (tgt := 13) dX9_readPlan_8 (by decide) (Eq.refl 11) (by omega) (by omega) (fun h8 => ?_) (fun h8 => ?_)
    · refine Tr.iconst (v := nI 0) dX9_readPlan_13 (icN 0) (Eq.refl 14) ?_
      refine Tr.istore_n (i := 2) dX9_readPlan_14 rfl rfl rfl (Eq.refl 15) ?_
      skip
      refine Tr.mask [true, true, true, true] (lv' := [some (.ref (ad 0)), some (.int (nI p)), some (.int (nI 0)), none]) rfl ?_
      refine loopD (P := fun j => (itB (rpS (nhV V) T) () j).1 = true → Tr _ 0 0 15 [some (.ref (ad 0)), some (.int (nI p)), some (.int (nI j)), none] [] (xpC E ad r hb len q nm T S P L a kp W V X F)) 4 (fun hn => ?_) (fun j hj ih hn => ?_) rfl
      · rw [hR] at hn
        rw [if_pos hn, if_pos hn]
        refine Tr.iload_n (i := 2) dX9_readPlan_15 rfl rfl (Eq.refl 16) ?_
        refine Tr.iconst (v := nI 4) dX9_readPlan_16 (icN 4) (Eq.refl 17) ?_
        refine Tr.icmp_geN (tgt := 54) dX9_readPlan_17 (by decide) (Eq.refl 20) (by omega) (by omega) (fun h17 => ?_) (fun h17 => ?_)
        · refine Tr.iconst (v := nI 0) dX9_readPlan_54 (icN 0) (Eq.refl 55) ?_
          refine Tr.istore_n (i := 2) dX9_readPlan_55 rfl rfl rfl (Eq.refl 56) ?_
          skip
          refine Tr.mask [true, true, true, false] (lv' := [some (.ref (ad 0)), some (.int (nI p)), some (.int (nI 0)), none]) rfl ?_
          refine Tr.pic (w' := (xpC E ad r hb len q nm T S (rpF T p P 0) L a kp W V X F)) rfl ?_
          refine loopD (P := fun j => Tr _ 0 0 56 [some (.ref (ad 0)), some (.int (nI p)), some (.int (nI j)), none] [] (xpC E ad r hb len q nm T S (rpF T p P j) L a kp W V X F)) 4 ?_ (fun j hj ih => ?_)
          · refine Tr.iload_n (i := 2) dX9_readPlan_56 rfl rfl (Eq.refl 57) ?_
            refine Tr.iconst (v := nI 4) dX9_readPlan_57 (icN 4) (Eq.refl 58) ?_
            refine Tr.icmp_geN (tgt := 106) dX9_readPlan_58 (by decide) (Eq.refl 61) (by omega) (by omega) (fun h58 => ?_) (fun h58 => ?_)
            · refine Tr.iconst (v := nI 1) dX9_readPlan_106 (icN 1) (Eq.refl 107) ?_
              refine Tr.iret dX9_readPlan_107 rfl (by first | rfl | exact bI_nar _) ?_ ?_
              · rfl
              · rfl
            · exact absurd h58 (by omega)
          · have hu : rpF T p P (j + 1) = upN (rpF T p P j) (p * 4 + j) (rpP T j) := rfl
            rw [hu] at ih
            clear hu
            have hok2 := rpP_ok v1 (hok hn j hj)
            have hok3 := hok hn j hj
            have hb9 : byA len T j = nI (T j) := if_pos (by omega)
            have hTj := hT j (by omega)
            generalize rpF T p P j = P1 at *
            refine Tr.iload_n (i := 2) dX9_readPlan_56 rfl rfl (Eq.refl 57) ?_
            refine Tr.iconst (v := nI 4) dX9_readPlan_57 (icN 4) (Eq.refl 58) ?_
            refine Tr.icmp_geN (tgt := 106) dX9_readPlan_58 (by decide) (Eq.refl 61) (by omega) (by omega) (fun h58 => ?_) (fun h58 => ?_)
            · exact absurd h58 (by omega)
            · refine Tr.aload_n (i := 0) dX9_readPlan_61 rfl rfl (Eq.refl 62) ?_
              refine Tr.getf dX9_readPlan_62 fX9_10 rfl rfl (Eq.refl 65) ?_
              refine Tr.iload_n (i := 2) dX9_readPlan_65 rfl rfl (Eq.refl 66) ?_
              refine Tr.callVr (L := [1, 2]) (t_byteAt E _ len q nm T j hl (by omega)) dX9_readPlan_66 (kX9_154 (Nat.le_of_ble_eq_true rfl)) iX4_byteAt rfl rfl rfl rfl rfl rfl rfl rfl rfl (Eq.refl 69) ?_
              rw [hb9]
              refine Tr.istore_n (i := 3) dX9_readPlan_69 rfl rfl rfl (Eq.refl 70) ?_
              refine Tr.aload_n (i := 0) dX9_readPlan_70 rfl rfl (Eq.refl 71) ?_
              refine Tr.getf dX9_readPlan_71 fX9_35 rfl rfl (Eq.refl 74) ?_
              refine Tr.getf dX9_readPlan_74 fX9_157 rfl rfl (Eq.refl 77) ?_
              refine Tr.getf dX9_readPlan_77 fX9_161 rfl rfl (Eq.refl 80) ?_
              refine Tr.iload_n (i := 1) dX9_readPlan_80 rfl rfl (Eq.refl 81) ?_
              refine Tr.iconst (v := nI 4) dX9_readPlan_81 (icN 4) (Eq.refl 82) ?_
              refine Tr.imulN dX9_readPlan_82 (Eq.refl 83) ?_
              refine Tr.iload_n (i := 2) dX9_readPlan_83 rfl rfl (Eq.refl 84) ?_
              refine Tr.iaddN dX9_readPlan_84 (Eq.refl 85) ?_
              refine Tr.iload_n (i := 3) dX9_readPlan_85 rfl rfl (Eq.refl 86) ?_
              refine Tr.bipush (v := nI 111) dX9_readPlan_86 (by decide +kernel) (Eq.refl 88) ?_
              refine Tr.icmp_neN (tgt := 95) dX9_readPlan_88 (by decide) (Eq.refl 91) (by omega) (by omega) (fun h88 => ?_) (fun h88 => ?_)
              · have hpx : rpP T j = nN (sgI T j) := if_neg h88
                have hix : ixB (sgI T j) (nhV V) = true := by unfold rpB at hok3; rw [decide_eq_false h88, Bool.false_or] at hok3; exact hok3
                obtain ⟨k9, hk9, hk9x⟩ := ixB_n v1 hix
                rw [hk9x, nN_n (by omega)] at hpx
                rw [hpx] at ih
                refine Tr.iload_n (i := 3) dX9_readPlan_95 rfl rfl (Eq.refl 96) ?_
                refine Tr.bipush (v := nI 48) dX9_readPlan_96 (by decide +kernel) (Eq.refl 98) ?_
                refine Tr.isub dX9_readPlan_98 (Eq.refl 99) ?_
                refine Tr.top (y := cl k9) (hk9x.trans (cl_lt (by omega)).symm) ?_
                refine Tr.iastN dX9_readPlan_99 rfl (by omega) (by decide) (Eq.refl 100) ?_
                refine Tr.iincN dX9_readPlan_100 rfl rfl rfl (Eq.refl 103) ?_
                refine Tr.goto (pc' := 56) dX9_readPlan_103 (by decide) ?_
                refine Tr.mask [true, true, true, false] rfl (Tr.pic ?_ ih)
                unfold xpC coC wyC
                rw [cl_upN]
                rfl
              · have hpx : rpP T j = 5 := if_pos h88
                rw [hpx] at ih
                refine Tr.iconst (v := (-1)) dX9_readPlan_91 (by decide +kernel) (Eq.refl 92) ?_
                refine Tr.goto (pc' := 99) dX9_readPlan_92 (by decide) ?_
                refine Tr.iastN dX9_readPlan_99 rfl (by omega) (by decide) (Eq.refl 100) ?_
                refine Tr.iincN dX9_readPlan_100 rfl rfl rfl (Eq.refl 103) ?_
                refine Tr.goto (pc' := 56) dX9_readPlan_103 (by decide) ?_
                refine Tr.mask [true, true, true, false] rfl (Tr.pic ?_ ih)
                unfold xpC coC wyC
                rw [cl_upN]
                rfl
        · exact absurd h17 (by omega)
      · have hs := itB_s hn
        have hf : (itB (rpS (nhV V) T) () (j + 1)).1 = false → R = (itB (rpS (nhV V) T) () (j + 1)) := fun z9 => by rw [← hR]; exact itB_fr (Nat.succ_le_of_lt hj) z9
        rw [hs] at ih hf
        have hu : rpS (nhV V) T j (itB (rpS (nhV V) T) () j).2 = (rpB (nhV V) T j, ()) := rfl
        rw [hu] at ih hf
        clear hu hs
        have hb9 : byA len T j = nI (T j) := if_pos (by omega)
        have hTj := hT j (by omega)
        refine Tr.iload_n (i := 2) dX9_readPlan_15 rfl rfl (Eq.refl 16) ?_
        refine Tr.iconst (v := nI 4) dX9_readPlan_16 (icN 4) (Eq.refl 17) ?_
        refine Tr.icmp_geN (tgt := 54) dX9_readPlan_17 (by decide) (Eq.refl 20) (by omega) (by omega) (fun h17 => ?_) (fun h17 => ?_)
        · exact absurd h17 (by omega)
        · refine Tr.aload_n (i := 0) dX9_readPlan_20 rfl rfl (Eq.refl 21) ?_
          refine Tr.getf dX9_readPlan_21 fX9_10 rfl rfl (Eq.refl 24) ?_
          refine Tr.iload_n (i := 2) dX9_readPlan_24 rfl rfl (Eq.refl 25) ?_
          refine Tr.callVr (L := [1, 2]) (t_byteAt E _ len q nm T j hl (by omega)) dX9_readPlan_25 (kX9_154 (Nat.le_of_ble_eq_true rfl)) iX4_byteAt rfl rfl rfl rfl rfl rfl rfl rfl rfl (Eq.refl 28) ?_
          rw [hb9]
          refine Tr.istore_n (i := 3) dX9_readPlan_28 rfl rfl rfl (Eq.refl 29) ?_
          refine Tr.iload_n (i := 3) dX9_readPlan_29 rfl rfl (Eq.refl 30) ?_
          refine Tr.bipush (v := nI 111) dX9_readPlan_30 (by decide +kernel) (Eq.refl 32) ?_
          refine Tr.icmp_eqN (tgt := 48) dX9_readPlan_32 (by decide) (Eq.refl 35) (by omega) (by omega) (fun h32 => ?_) (fun h32 => ?_)
          · have hrb : rpB (nhV V) T j = true := by unfold rpB; rw [decide_eq_true h32, Bool.true_or]
            refine Tr.iincN dX9_readPlan_48 rfl rfl rfl (Eq.refl 51) ?_
            refine Tr.goto (pc' := 15) dX9_readPlan_51 (by decide) ?_
            exact Tr.mask [true, true, true, false] rfl (ih hrb)
          · refine Tr.aload_n (i := 0) dX9_readPlan_35 rfl rfl (Eq.refl 36) ?_
            refine Tr.iload_n (i := 3) dX9_readPlan_36 rfl rfl (Eq.refl 37) ?_
            refine Tr.bipush (v := nI 48) dX9_readPlan_37 (by decide +kernel) (Eq.refl 39) ?_
            refine Tr.isub dX9_readPlan_39 (Eq.refl 40) ?_
            refine Tr.top (y := sgI T j) rfl ?_
            refine Tr.callVr (L := [0, 15, 16, 17, 18, 19, 20, 21, 22, 23, 24, 25]) (x_isHouse E _ (rU ad r) (bI hb) V X (sgI T j)) dX9_readPlan_40 (kX9_118 (Nat.le_of_ble_eq_true rfl)) iX9_isHouse rfl rfl rfl rfl rfl rfl rfl rfl rfl (Eq.refl 43) ?_
            refine Tr.if_neB (tgt := 48) dX9_readPlan_43 (by decide) (Eq.refl 46) (fun h43 => ?_) (fun h43 => ?_)
            · have hrb : rpB (nhV V) T j = true := by unfold rpB; rw [h43, Bool.or_true]
              refine Tr.iincN dX9_readPlan_48 rfl rfl rfl (Eq.refl 51) ?_
              refine Tr.goto (pc' := 15) dX9_readPlan_51 (by decide) ?_
              exact Tr.mask [true, true, true, false] rfl (ih hrb)
            · have hrb : rpB (nhV V) T j = false := by unfold rpB; rw [h43, decide_eq_false h32]; rfl
              have hRf : R.1 = false := by rw [hf hrb]; exact hrb
              rw [if_neg (by rw [hRf]; decide), if_neg (by rw [hRf]; decide)]
              refine Tr.iconst (v := (-1)) dX9_readPlan_46 (by decide +kernel) (Eq.refl 47) ?_
              refine Tr.iret dX9_readPlan_47 rfl (by first | rfl | exact bI_nar _) ?_ ?_
              · rfl
              · rfl
    · exact absurd he h8
  · have hcx : (rpA (nhV V) len T) = false := by unfold rpA; rw [decide_eq_false he, Bool.false_and]
    rw [hcx, if_neg (by decide), if_neg (by decide)]
    refine Md.of 2 (by decide) rfl rfl ?_
    refine Tr.aload_n (i := 0) dX9_readPlan_0 rfl rfl (Eq.refl 1) ?_
    refine Tr.getf dX9_readPlan_1 fX9_10 rfl rfl (Eq.refl 4) ?_
    refine Tr.getf dX9_readPlan_4 fX9_68 rfl rfl (Eq.refl 7) ?_
    refine Tr.iconst (v := nI 4) dX9_readPlan_7 (icN 4) (Eq.refl 8) ?_
    refine Tr.icmp_eqN (tgt := 13) dX9_readPlan_8 (by decide) (Eq.refl 11) (by omega) (by omega) (fun h8 => ?_) (fun h8 => ?_)
    · exact absurd h8 he
    · refine Tr.iconst (v := (-1)) dX9_readPlan_11 (by decide +kernel) (Eq.refl 12) ?_
      refine Tr.iret dX9_readPlan_12 rfl (by first | rfl | exact bI_nar _) ?_ ?_
      · rfl
      · rfl
set_option maxHeartbeats 4000000 in
set_option maxRecDepth 100000 in
theorem x_plan (E : EnvT) (ad r : Nat → Nat) (hb : Bool) (len : Nat) (q : Int32 × Int32 × Int32 × Int32) (nm : Int64) (T : Nat → Nat) (S : Scn) (P : Nat → Nat) (L : Nat → Int32) (a : Nat) (kp : Bool) (W : Nat → Nat) (V : Vil) (X : Vix) (F : Nat → Nat) (x : Int32) (hV : Vok V) (hl : len ≤ 900) (hT : ∀ k, k < 900 → T k < 256) : Md E mX9_plan ad [.ref (ad 0), .int x] (xpC E ad r hb len q nm T S P L a kp W V X F) (some (.int (if (ixB x (npV V)) then (if (rpA (nhV V) len T) then 1 else -1) else -2))) (xpC E ad r hb 0 q nm T S (if (ixB x (npV V)) then (if (rpA (nhV V) len T) then rpF T (nN x) P 4 else P) else P) L a kp W V X F) := by
  have v2 := hV.2.1
  by_cases hc : (ixB x (npV V)) = true
  · rw [if_pos hc, if_pos hc]
    obtain ⟨p, hp, rfl⟩ := ixB_n v2 hc
    rw [nN_n (show p < 2 ^ 31 by omega)]
    refine Md.of 1 (by decide) rfl rfl ?_
    refine Tr.aload_n (i := 0) dX9_plan_0 rfl rfl (Eq.refl 1) ?_
    refine Tr.iload_n (i := 1) dX9_plan_1 rfl rfl (Eq.refl 2) ?_
    refine Tr.callVr (L := [0, 15, 16, 17, 18, 19, 20, 21, 22, 23, 24, 25]) (x_isPerson E _ (rU ad r) (bI hb) V X (nI p)) dX9_plan_2 (kX9_134 (Nat.le_of_ble_eq_true rfl)) iX9_isPerson rfl rfl rfl rfl rfl rfl rfl rfl rfl (Eq.refl 5) ?_
    refine Tr.if_eqB (tgt := 16) dX9_plan_5 (by decide) (Eq.refl 8) (fun h5 => ?_) (fun h5 => ?_)
    · exact absurd (hc.symm.trans h5) (by decide)
    · refine Tr.aload_n (i := 0) dX9_plan_8 rfl rfl (Eq.refl 9) ?_
      refine Tr.iload_n (i := 1) dX9_plan_9 rfl rfl (Eq.refl 10) ?_
      refine Tr.callVs (x_readPlan E ad r hb len q nm T S P L a kp W V X F p hV hl hp hT) dX9_plan_10 (kX9_150 (Nat.le_of_ble_eq_true rfl)) iX9_readPlan rfl rfl rfl rfl rfl (xp_le) rfl rfl (Eq.refl 13) ?_
      refine Tr.goto (pc' := 18) dX9_plan_13 (by decide) ?_
      refine Tr.istore_n (i := 2) dX9_plan_18 rfl rfl rfl (Eq.refl 19) ?_
      refine Tr.aload_n (i := 0) dX9_plan_19 rfl rfl (Eq.refl 20) ?_
      refine Tr.getf dX9_plan_20 fX9_10 rfl rfl (Eq.refl 23) ?_
      refine Tr.iconst (v := nI 0) dX9_plan_23 (icN 0) (Eq.refl 24) ?_
      refine Tr.putf dX9_plan_24 pX9_68 rfl (rfl) (rfl) rfl (Eq.refl 27) ?_
      refine Tr.iload_n (i := 2) dX9_plan_27 rfl rfl (Eq.refl 28) ?_
      refine Tr.iret dX9_plan_28 rfl (by first | rfl | exact bI_nar _) ?_ ?_
      · rfl
      · rfl
  · rw [if_neg hc, if_neg hc]
    refine Md.of 1 (by decide) rfl rfl ?_
    refine Tr.aload_n (i := 0) dX9_plan_0 rfl rfl (Eq.refl 1) ?_
    refine Tr.iload_n (i := 1) dX9_plan_1 rfl rfl (Eq.refl 2) ?_
    refine Tr.callVr (L := [0, 15, 16, 17, 18, 19, 20, 21, 22, 23, 24, 25]) (x_isPerson E _ (rU ad r) (bI hb) V X x) dX9_plan_2 (kX9_134 (Nat.le_of_ble_eq_true rfl)) iX9_isPerson rfl rfl rfl rfl rfl rfl rfl rfl rfl (Eq.refl 5) ?_
    refine Tr.if_eqB (tgt := 16) dX9_plan_5 (by decide) (Eq.refl 8) (fun h5 => ?_) (fun h5 => ?_)
    · refine Tr.bipush (v := (-2)) dX9_plan_16 (by decide +kernel) (Eq.refl 18) ?_
      refine Tr.istore_n (i := 2) dX9_plan_18 rfl rfl rfl (Eq.refl 19) ?_
      refine Tr.aload_n (i := 0) dX9_plan_19 rfl rfl (Eq.refl 20) ?_
      refine Tr.getf dX9_plan_20 fX9_10 rfl rfl (Eq.refl 23) ?_
      refine Tr.iconst (v := nI 0) dX9_plan_23 (icN 0) (Eq.refl 24) ?_
      refine Tr.putf dX9_plan_24 pX9_68 rfl (rfl) (rfl) rfl (Eq.refl 27) ?_
      refine Tr.iload_n (i := 2) dX9_plan_27 rfl rfl (Eq.refl 28) ?_
      refine Tr.iret dX9_plan_28 rfl (by first | rfl | exact bI_nar _) ?_ ?_
      · rfl
      · rfl
    · exact absurd h5 hc
/-- a course: scene, plans, lets, seed, kept, wishes -/
abbrev Crs : Type := Scn × (Nat → Nat) × (Nat → Int32) × Nat × Bool × (Nat → Nat)
def coQ (E : EnvT) (ad : Nat → Nat) (b : Nat) (Q : Crs) : List va_E := coC E ad b Q.1 Q.2.1 Q.2.2.1 Q.2.2.2.1 Q.2.2.2.2.1 Q.2.2.2.2.2
def upQ (f : Nat → Crs) (k : Nat) (x : Crs) : Nat → Crs := fun j => if j = k then x else f j
/-- object, course, slots -/
def xkC (E : EnvT) (ad r : Nat → Nat) (hf : Int32) (N : Crs) (Q0 Q1 Q2 : Crs) : List va_E := (.inr (9, [.ref (r 0), .ref (r 1), .ref (r 2), .ref (ad 1), .ref (ad 13), .ref (r 5), .ref (r 6), .ref (r 7), .int hf]) : va_E) :: (coQ E ad 1 N ++ ([aR E 4 3 (fun k => some (ad (14 + 12 * k)))] ++ (coQ E ad 14 Q0 ++ (coQ E ad 26 Q1 ++ coQ E ad 38 Q2))))
/-- a kept one of n over o -/
def kpQ (N O : Crs) : Crs := (N.1, N.2.1, N.2.2.1, N.2.2.2.1, true, O.2.2.2.2.2)
/-- n taken from o -/
def tkQ (N O : Crs) : Crs := (O.1, O.2.1, O.2.2.1, O.2.2.2.1, N.2.2.2.2.1, N.2.2.2.2.2)
set_option maxHeartbeats 4000000 in
set_option maxRecDepth 100000 in
theorem x_keep (E : EnvT) (ad r : Nat → Nat) (hf : Int32) (N Q0 Q1 Q2 : Crs) (x : Int32) : Md E mX9_keep ad [.ref (ad 0), .int x] (xkC E ad r hf N Q0 Q1 Q2) (some (.int (if rgB x (nI 0) (nI 2) then nI (psS N.1) else -2))) (xkC E ad r hf N (if rgB x (nI 0) (nI 2) then (if x = nI 0 then kpQ N Q0 else Q0) else Q0) (if rgB x (nI 0) (nI 2) then (if x = nI 1 then kpQ N Q1 else Q1) else Q1) (if rgB x (nI 0) (nI 2) then (if x = nI 2 then kpQ N Q2 else Q2) else Q2)) := by
  by_cases hc : rgB x (nI 0) (nI 2) = true
  · rw [if_pos hc, if_pos hc, if_pos hc, if_pos hc]
    obtain ⟨s, -, hs, rfl⟩ := rgB_n (by decide) (by decide) hc
    rcases (show s = 0 ∨ s = 1 ∨ s = 2 by omega) with rfl | rfl | rfl
    · refine Md.of 0 (by decide) rfl rfl ?_
      refine Tr.iload_n (i := 1) dX9_keep_0 rfl rfl (Eq.refl 1) ?_
      refine Tr.if_lt (tgt := 9) dX9_keep_1 (by decide) (Eq.refl 4) (fun h => absurd h (by decide)) (fun _ => ?_)
      refine Tr.iload_n (i := 1) dX9_keep_4 rfl rfl (Eq.refl 5) ?_
      refine Tr.iconst (v := nI 3) dX9_keep_5 (icN 3) (Eq.refl 6) ?_
      refine Tr.icmp_lt (tgt := 12) dX9_keep_6 (by decide) (Eq.refl 9) (fun _ => ?_) (fun h => absurd h (by decide))
      refine Tr.aload_n (i := 0) dX9_keep_12 rfl rfl (Eq.refl 13) ?_
      refine Tr.getf dX9_keep_13 fX9_39 rfl rfl (Eq.refl 16) ?_
      refine Tr.iload_n (i := 1) dX9_keep_16 rfl rfl (Eq.refl 17) ?_
      refine Tr.aald dX9_keep_17 rfl rfl (by omega) (by decide) rfl (Eq.refl 18) ?_
      refine Tr.aload_n (i := 0) dX9_keep_18 rfl rfl (Eq.refl 19) ?_
      refine Tr.getf dX9_keep_19 fX9_35 rfl rfl (Eq.refl 22) ?_
      refine Tr.callV (L := [14, 15, 16, 17, 18, 19, 20, 21, 22, 23, 24, 25, 1, 2, 3, 4, 5, 6, 7, 8, 9, 10, 11, 12]) (c_coCopy E _ Q0.1 N.1 Q0.2.1 N.2.1 Q0.2.2.1 N.2.2.1 Q0.2.2.2.1 N.2.2.2.1 Q0.2.2.2.2.1 N.2.2.2.2.1 Q0.2.2.2.2.2 N.2.2.2.2.2) dX9_keep_22 (kX9_209 (Nat.le_of_ble_eq_true rfl)) iX1_copyFrom rfl rfl rfl rfl rfl rfl rfl rfl rfl rfl (Eq.refl 25) ?_
      refine Tr.pic (w' := xkC E ad r hf N (N.1, N.2.1, N.2.2.1, N.2.2.2.1, Q0.2.2.2.2.1, Q0.2.2.2.2.2) Q1 Q2) (putB_eq (Lc := [0, 13, 26, 27, 28, 29, 30, 31, 32, 33, 34, 35, 36, 37, 38, 39, 40, 41, 42, 43, 44, 45, 46, 47, 48, 49]) 50 rfl rfl rfl rfl ⟨⟨_, rfl, rfl⟩, ⟨_, rfl, rfl⟩, ⟨_, rfl, rfl⟩, ⟨_, rfl, rfl⟩, ⟨_, rfl, rfl⟩, ⟨_, rfl, rfl⟩, ⟨_, rfl, rfl⟩, ⟨_, rfl, rfl⟩, ⟨_, rfl, rfl⟩, ⟨_, rfl, rfl⟩, ⟨_, rfl, rfl⟩, ⟨_, rfl, rfl⟩, ⟨_, rfl, rfl⟩, ⟨_, rfl, rfl⟩, ⟨_, rfl, rfl⟩, ⟨_, rfl, rfl⟩, ⟨_, rfl, rfl⟩, ⟨_, rfl, rfl⟩, ⟨_, rfl, rfl⟩, ⟨_, rfl, rfl⟩, ⟨_, rfl, rfl⟩, ⟨_, rfl, rfl⟩, ⟨_, rfl, rfl⟩, ⟨_, rfl, rfl⟩, ⟨_, rfl, rfl⟩, ⟨_, rfl, rfl⟩, trivial⟩ (by decide) rfl) ?_
      refine Tr.aload_n (i := 0) dX9_keep_25 rfl rfl (Eq.refl 26) ?_
      refine Tr.getf dX9_keep_26 fX9_39 rfl rfl (Eq.refl 29) ?_
      refine Tr.iload_n (i := 1) dX9_keep_29 rfl rfl (Eq.refl 30) ?_
      refine Tr.aald dX9_keep_30 rfl rfl (by omega) (by decide) rfl (Eq.refl 31) ?_
      refine Tr.iconst (v := nI 1) dX9_keep_31 (icN 1) (Eq.refl 32) ?_
      refine Tr.putf dX9_keep_32 pX9_83 rfl (rfl) (rfl) rfl (Eq.refl 35) ?_
      refine Tr.pic (w' := xkC E ad r hf N (kpQ N Q0) Q1 Q2) rfl ?_
      refine Tr.aload_n (i := 0) dX9_keep_35 rfl rfl (Eq.refl 36) ?_
      refine Tr.getf dX9_keep_36 fX9_35 rfl rfl (Eq.refl 39) ?_
      refine Tr.getf dX9_keep_39 fX9_175 rfl rfl (Eq.refl 42) ?_
      refine Tr.getf dX9_keep_42 fX9_179 rfl rfl (Eq.refl 45) ?_
      refine Tr.iret dX9_keep_45 rfl (by first | rfl | exact bI_nar _) ?_ ?_
      · rfl
      · rfl
    · refine Md.of 0 (by decide) rfl rfl ?_
      refine Tr.iload_n (i := 1) dX9_keep_0 rfl rfl (Eq.refl 1) ?_
      refine Tr.if_lt (tgt := 9) dX9_keep_1 (by decide) (Eq.refl 4) (fun h => absurd h (by decide)) (fun _ => ?_)
      refine Tr.iload_n (i := 1) dX9_keep_4 rfl rfl (Eq.refl 5) ?_
      refine Tr.iconst (v := nI 3) dX9_keep_5 (icN 3) (Eq.refl 6) ?_
      refine Tr.icmp_lt (tgt := 12) dX9_keep_6 (by decide) (Eq.refl 9) (fun _ => ?_) (fun h => absurd h (by decide))
      refine Tr.aload_n (i := 0) dX9_keep_12 rfl rfl (Eq.refl 13) ?_
      refine Tr.getf dX9_keep_13 fX9_39 rfl rfl (Eq.refl 16) ?_
      refine Tr.iload_n (i := 1) dX9_keep_16 rfl rfl (Eq.refl 17) ?_
      refine Tr.aald dX9_keep_17 rfl rfl (by omega) (by decide) rfl (Eq.refl 18) ?_
      refine Tr.aload_n (i := 0) dX9_keep_18 rfl rfl (Eq.refl 19) ?_
      refine Tr.getf dX9_keep_19 fX9_35 rfl rfl (Eq.refl 22) ?_
      refine Tr.callV (L := [26, 27, 28, 29, 30, 31, 32, 33, 34, 35, 36, 37, 1, 2, 3, 4, 5, 6, 7, 8, 9, 10, 11, 12]) (c_coCopy E _ Q1.1 N.1 Q1.2.1 N.2.1 Q1.2.2.1 N.2.2.1 Q1.2.2.2.1 N.2.2.2.1 Q1.2.2.2.2.1 N.2.2.2.2.1 Q1.2.2.2.2.2 N.2.2.2.2.2) dX9_keep_22 (kX9_209 (Nat.le_of_ble_eq_true rfl)) iX1_copyFrom rfl rfl rfl rfl rfl rfl rfl rfl rfl rfl (Eq.refl 25) ?_
      refine Tr.pic (w' := xkC E ad r hf N Q0 (N.1, N.2.1, N.2.2.1, N.2.2.2.1, Q1.2.2.2.2.1, Q1.2.2.2.2.2) Q2) (putB_eq (Lc := [0, 13, 14, 15, 16, 17, 18, 19, 20, 21, 22, 23, 24, 25, 38, 39, 40, 41, 42, 43, 44, 45, 46, 47, 48, 49]) 50 rfl rfl rfl rfl ⟨⟨_, rfl, rfl⟩, ⟨_, rfl, rfl⟩, ⟨_, rfl, rfl⟩, ⟨_, rfl, rfl⟩, ⟨_, rfl, rfl⟩, ⟨_, rfl, rfl⟩, ⟨_, rfl, rfl⟩, ⟨_, rfl, rfl⟩, ⟨_, rfl, rfl⟩, ⟨_, rfl, rfl⟩, ⟨_, rfl, rfl⟩, ⟨_, rfl, rfl⟩, ⟨_, rfl, rfl⟩, ⟨_, rfl, rfl⟩, ⟨_, rfl, rfl⟩, ⟨_, rfl, rfl⟩, ⟨_, rfl, rfl⟩, ⟨_, rfl, rfl⟩, ⟨_, rfl, rfl⟩, ⟨_, rfl, rfl⟩, ⟨_, rfl, rfl⟩, ⟨_, rfl, rfl⟩, ⟨_, rfl, rfl⟩, ⟨_, rfl, rfl⟩, ⟨_, rfl, rfl⟩, ⟨_, rfl, rfl⟩, trivial⟩ (by decide) rfl) ?_
      refine Tr.aload_n (i := 0) dX9_keep_25 rfl rfl (Eq.refl 26) ?_
      refine Tr.getf dX9_keep_26 fX9_39 rfl rfl (Eq.refl 29) ?_
      refine Tr.iload_n (i := 1) dX9_keep_29 rfl rfl (Eq.refl 30) ?_
      refine Tr.aald dX9_keep_30 rfl rfl (by omega) (by decide) rfl (Eq.refl 31) ?_
      refine Tr.iconst (v := nI 1) dX9_keep_31 (icN 1) (Eq.refl 32) ?_
      refine Tr.putf dX9_keep_32 pX9_83 rfl (rfl) (rfl) rfl (Eq.refl 35) ?_
      refine Tr.pic (w' := xkC E ad r hf N Q0 (kpQ N Q1) Q2) rfl ?_
      refine Tr.aload_n (i := 0) dX9_keep_35 rfl rfl (Eq.refl 36) ?_
      refine Tr.getf dX9_keep_36 fX9_35 rfl rfl (Eq.refl 39) ?_
      refine Tr.getf dX9_keep_39 fX9_175 rfl rfl (Eq.refl 42) ?_
      refine Tr.getf dX9_keep_42 fX9_179 rfl rfl (Eq.refl 45) ?_
      refine Tr.iret dX9_keep_45 rfl (by first | rfl | exact bI_nar _) ?_ ?_
      · rfl
      · rfl
    · refine Md.of 0 (by decide) rfl rfl ?_
      refine Tr.iload_n (i := 1) dX9_keep_0 rfl rfl (Eq.refl 1) ?_
      refine Tr.if_lt (tgt := 9) dX9_keep_1 (by decide) (Eq.refl 4) (fun h => absurd h (by decide)) (fun _ => ?_)
      refine Tr.iload_n (i := 1) dX9_keep_4 rfl rfl (Eq.refl 5) ?_
      refine Tr.iconst (v := nI 3) dX9_keep_5 (icN 3) (Eq.refl 6) ?_
      refine Tr.icmp_lt (tgt := 12) dX9_keep_6 (by decide) (Eq.refl 9) (fun _ => ?_) (fun h => absurd h (by decide))
      refine Tr.aload_n (i := 0) dX9_keep_12 rfl rfl (Eq.refl 13) ?_
      refine Tr.getf dX9_keep_13 fX9_39 rfl rfl (Eq.refl 16) ?_
      refine Tr.iload_n (i := 1) dX9_keep_16 rfl rfl (Eq.refl 17) ?_
      refine Tr.aald dX9_keep_17 rfl rfl (by omega) (by decide) rfl (Eq.refl 18) ?_
      refine Tr.aload_n (i := 0) dX9_keep_18 rfl rfl (Eq.refl 19) ?_
      refine Tr.getf dX9_keep_19 fX9_35 rfl rfl (Eq.refl 22) ?_
      refine Tr.callV (L := [38, 39, 40, 41, 42, 43, 44, 45, 46, 47, 48, 49, 1, 2, 3, 4, 5, 6, 7, 8, 9, 10, 11, 12]) (c_coCopy E _ Q2.1 N.1 Q2.2.1 N.2.1 Q2.2.2.1 N.2.2.1 Q2.2.2.2.1 N.2.2.2.1 Q2.2.2.2.2.1 N.2.2.2.2.1 Q2.2.2.2.2.2 N.2.2.2.2.2) dX9_keep_22 (kX9_209 (Nat.le_of_ble_eq_true rfl)) iX1_copyFrom rfl rfl rfl rfl rfl rfl rfl rfl rfl rfl (Eq.refl 25) ?_
      refine Tr.pic (w' := xkC E ad r hf N Q0 Q1 (N.1, N.2.1, N.2.2.1, N.2.2.2.1, Q2.2.2.2.2.1, Q2.2.2.2.2.2)) (putB_eq (Lc := [0, 13, 14, 15, 16, 17, 18, 19, 20, 21, 22, 23, 24, 25, 26, 27, 28, 29, 30, 31, 32, 33, 34, 35, 36, 37]) 50 rfl rfl rfl rfl ⟨⟨_, rfl, rfl⟩, ⟨_, rfl, rfl⟩, ⟨_, rfl, rfl⟩, ⟨_, rfl, rfl⟩, ⟨_, rfl, rfl⟩, ⟨_, rfl, rfl⟩, ⟨_, rfl, rfl⟩, ⟨_, rfl, rfl⟩, ⟨_, rfl, rfl⟩, ⟨_, rfl, rfl⟩, ⟨_, rfl, rfl⟩, ⟨_, rfl, rfl⟩, ⟨_, rfl, rfl⟩, ⟨_, rfl, rfl⟩, ⟨_, rfl, rfl⟩, ⟨_, rfl, rfl⟩, ⟨_, rfl, rfl⟩, ⟨_, rfl, rfl⟩, ⟨_, rfl, rfl⟩, ⟨_, rfl, rfl⟩, ⟨_, rfl, rfl⟩, ⟨_, rfl, rfl⟩, ⟨_, rfl, rfl⟩, ⟨_, rfl, rfl⟩, ⟨_, rfl, rfl⟩, ⟨_, rfl, rfl⟩, trivial⟩ (by decide) rfl) ?_
      refine Tr.aload_n (i := 0) dX9_keep_25 rfl rfl (Eq.refl 26) ?_
      refine Tr.getf dX9_keep_26 fX9_39 rfl rfl (Eq.refl 29) ?_
      refine Tr.iload_n (i := 1) dX9_keep_29 rfl rfl (Eq.refl 30) ?_
      refine Tr.aald dX9_keep_30 rfl rfl (by omega) (by decide) rfl (Eq.refl 31) ?_
      refine Tr.iconst (v := nI 1) dX9_keep_31 (icN 1) (Eq.refl 32) ?_
      refine Tr.putf dX9_keep_32 pX9_83 rfl (rfl) (rfl) rfl (Eq.refl 35) ?_
      refine Tr.pic (w' := xkC E ad r hf N Q0 Q1 (kpQ N Q2)) rfl ?_
      refine Tr.aload_n (i := 0) dX9_keep_35 rfl rfl (Eq.refl 36) ?_
      refine Tr.getf dX9_keep_36 fX9_35 rfl rfl (Eq.refl 39) ?_
      refine Tr.getf dX9_keep_39 fX9_175 rfl rfl (Eq.refl 42) ?_
      refine Tr.getf dX9_keep_42 fX9_179 rfl rfl (Eq.refl 45) ?_
      refine Tr.iret dX9_keep_45 rfl (by first | rfl | exact bI_nar _) ?_ ?_
      · rfl
      · rfl
  · rw [if_neg hc, if_neg hc, if_neg hc, if_neg hc]
    refine Md.of 0 (by decide) rfl rfl ?_
    refine Tr.iload_n (i := 1) dX9_keep_0 rfl rfl (Eq.refl 1) ?_
    refine Tr.if_lt (tgt := 9) dX9_keep_1 (by decide) (Eq.refl 4) (fun h1 => ?_) (fun h1 => ?_)
    · refine Tr.bipush (v := (-2)) dX9_keep_9 (by decide +kernel) (Eq.refl 11) ?_
      refine Tr.iret dX9_keep_11 rfl (by first | rfl | exact bI_nar _) ?_ ?_
      · rfl
      · rfl
    · refine Tr.iload_n (i := 1) dX9_keep_4 rfl rfl (Eq.refl 5) ?_
      refine Tr.iconst (v := nI 3) dX9_keep_5 (icN 3) (Eq.refl 6) ?_
      refine Tr.icmp_lt (tgt := 12) dX9_keep_6 (by decide) (Eq.refl 9) (fun h6 => ?_) (fun h6 => ?_)
      · exact absurd (rg_in (a := 0) (b := 2) (by decide) (by decide) h1 h6) hc
      · refine Tr.bipush (v := (-2)) dX9_keep_9 (by decide +kernel) (Eq.refl 11) ?_
        refine Tr.iret dX9_keep_11 rfl (by first | rfl | exact bI_nar _) ?_ ?_
        · rfl
        · rfl
set_option maxHeartbeats 4000000 in
set_option maxRecDepth 100000 in
theorem x_take (E : EnvT) (ad r : Nat → Nat) (hf : Int32) (N Q0 Q1 Q2 : Crs) (x : Int32) : Md E mX9_take ad [.ref (ad 0), .int x] (xkC E ad r hf N Q0 Q1 Q2) (some (.int (if rgB x (nI 0) (nI 2) then (if (if x = nI 0 then Q0 else if x = nI 1 then Q1 else Q2).2.2.2.2.1 then nI (psS (if x = nI 0 then Q0 else if x = nI 1 then Q1 else Q2).1) else -4) else -2))) (xkC E ad r hf (if rgB x (nI 0) (nI 2) then (if (if x = nI 0 then Q0 else if x = nI 1 then Q1 else Q2).2.2.2.2.1 then tkQ N (if x = nI 0 then Q0 else if x = nI 1 then Q1 else Q2) else N) else N) Q0 Q1 Q2) := by
  by_cases hc : rgB x (nI 0) (nI 2) = true
  · rw [if_pos hc, if_pos hc]
    obtain ⟨s, -, hs, rfl⟩ := rgB_n (by decide) (by decide) hc
    rcases (show s = 0 ∨ s = 1 ∨ s = 2 by omega) with rfl | rfl | rfl
    · by_cases hk : Q0.2.2.2.2.1 = true
      · have hk2 : (if nI 0 = nI 0 then Q0 else if nI 0 = nI 1 then Q1 else Q2) = Q0 := rfl
        rw [hk2, if_pos hk, if_pos hk]
        refine Md.of 0 (by decide) rfl rfl ?_
        refine Tr.iload_n (i := 1) dX9_take_0 rfl rfl (Eq.refl 1) ?_
        refine Tr.if_lt (tgt := 9) dX9_take_1 (by decide) (Eq.refl 4) (fun h => absurd h (by decide)) (fun _ => ?_)
        refine Tr.iload_n (i := 1) dX9_take_4 rfl rfl (Eq.refl 5) ?_
        refine Tr.iconst (v := nI 3) dX9_take_5 (icN 3) (Eq.refl 6) ?_
        refine Tr.icmp_lt (tgt := 12) dX9_take_6 (by decide) (Eq.refl 9) (fun _ => ?_) (fun h => absurd h (by decide))
        refine Tr.aload_n (i := 0) dX9_take_12 rfl rfl (Eq.refl 13) ?_
        refine Tr.getf dX9_take_13 fX9_39 rfl rfl (Eq.refl 16) ?_
        refine Tr.iload_n (i := 1) dX9_take_16 rfl rfl (Eq.refl 17) ?_
        refine Tr.aald dX9_take_17 rfl rfl (by omega) (by decide) rfl (Eq.refl 18) ?_
        refine Tr.getf dX9_take_18 fX9_83 rfl rfl (Eq.refl 21) ?_
        refine Tr.if_neB (tgt := 27) dX9_take_21 (by decide) (Eq.refl 24) (fun h21 => ?_) (fun h21 => ?_)
        · refine Tr.aload_n (i := 0) dX9_take_27 rfl rfl (Eq.refl 28) ?_
          refine Tr.getf dX9_take_28 fX9_35 rfl rfl (Eq.refl 31) ?_
          refine Tr.aload_n (i := 0) dX9_take_31 rfl rfl (Eq.refl 32) ?_
          refine Tr.getf dX9_take_32 fX9_39 rfl rfl (Eq.refl 35) ?_
          refine Tr.iload_n (i := 1) dX9_take_35 rfl rfl (Eq.refl 36) ?_
          refine Tr.aald dX9_take_36 rfl rfl (by omega) (by decide) rfl (Eq.refl 37) ?_
          refine Tr.callV (L := [1, 2, 3, 4, 5, 6, 7, 8, 9, 10, 11, 12, 14, 15, 16, 17, 18, 19, 20, 21, 22, 23, 24, 25]) (c_coCopy E _ N.1 Q0.1 N.2.1 Q0.2.1 N.2.2.1 Q0.2.2.1 N.2.2.2.1 Q0.2.2.2.1 N.2.2.2.2.1 Q0.2.2.2.2.1 N.2.2.2.2.2 Q0.2.2.2.2.2) dX9_take_37 (kX9_209 (Nat.le_of_ble_eq_true rfl)) iX1_copyFrom rfl rfl rfl rfl rfl rfl rfl rfl rfl rfl (Eq.refl 40) ?_
          refine Tr.pic (w' := xkC E ad r hf (tkQ N Q0) Q0 Q1 Q2) (putB_eq (Lc := [0, 13, 26, 27, 28, 29, 30, 31, 32, 33, 34, 35, 36, 37, 38, 39, 40, 41, 42, 43, 44, 45, 46, 47, 48, 49]) 50 rfl rfl rfl rfl ⟨⟨_, rfl, rfl⟩, ⟨_, rfl, rfl⟩, ⟨_, rfl, rfl⟩, ⟨_, rfl, rfl⟩, ⟨_, rfl, rfl⟩, ⟨_, rfl, rfl⟩, ⟨_, rfl, rfl⟩, ⟨_, rfl, rfl⟩, ⟨_, rfl, rfl⟩, ⟨_, rfl, rfl⟩, ⟨_, rfl, rfl⟩, ⟨_, rfl, rfl⟩, ⟨_, rfl, rfl⟩, ⟨_, rfl, rfl⟩, ⟨_, rfl, rfl⟩, ⟨_, rfl, rfl⟩, ⟨_, rfl, rfl⟩, ⟨_, rfl, rfl⟩, ⟨_, rfl, rfl⟩, ⟨_, rfl, rfl⟩, ⟨_, rfl, rfl⟩, ⟨_, rfl, rfl⟩, ⟨_, rfl, rfl⟩, ⟨_, rfl, rfl⟩, ⟨_, rfl, rfl⟩, ⟨_, rfl, rfl⟩, trivial⟩ (by decide) rfl) ?_
          refine Tr.aload_n (i := 0) dX9_take_40 rfl rfl (Eq.refl 41) ?_
          refine Tr.getf dX9_take_41 fX9_35 rfl rfl (Eq.refl 44) ?_
          refine Tr.getf dX9_take_44 fX9_175 rfl rfl (Eq.refl 47) ?_
          refine Tr.getf dX9_take_47 fX9_179 rfl rfl (Eq.refl 50) ?_
          refine Tr.iret dX9_take_50 rfl (by first | rfl | exact bI_nar _) ?_ ?_
          · rfl
          · rfl
        · exact absurd (hk.symm.trans h21) (by decide)
      · have hk2 : (if nI 0 = nI 0 then Q0 else if nI 0 = nI 1 then Q1 else Q2) = Q0 := rfl
        rw [hk2, if_neg hk, if_neg hk]
        refine Md.of 0 (by decide) rfl rfl ?_
        refine Tr.iload_n (i := 1) dX9_take_0 rfl rfl (Eq.refl 1) ?_
        refine Tr.if_lt (tgt := 9) dX9_take_1 (by decide) (Eq.refl 4) (fun h => absurd h (by decide)) (fun _ => ?_)
        refine Tr.iload_n (i := 1) dX9_take_4 rfl rfl (Eq.refl 5) ?_
        refine Tr.iconst (v := nI 3) dX9_take_5 (icN 3) (Eq.refl 6) ?_
        refine Tr.icmp_lt (tgt := 12) dX9_take_6 (by decide) (Eq.refl 9) (fun _ => ?_) (fun h => absurd h (by decide))
        refine Tr.aload_n (i := 0) dX9_take_12 rfl rfl (Eq.refl 13) ?_
        refine Tr.getf dX9_take_13 fX9_39 rfl rfl (Eq.refl 16) ?_
        refine Tr.iload_n (i := 1) dX9_take_16 rfl rfl (Eq.refl 17) ?_
        refine Tr.aald dX9_take_17 rfl rfl (by omega) (by decide) rfl (Eq.refl 18) ?_
        refine Tr.getf dX9_take_18 fX9_83 rfl rfl (Eq.refl 21) ?_
        refine Tr.if_neB (tgt := 27) dX9_take_21 (by decide) (Eq.refl 24) (fun h21 => ?_) (fun h21 => ?_)
        · exact absurd h21 hk
        · refine Tr.bipush (v := (-4)) dX9_take_24 (by decide +kernel) (Eq.refl 26) ?_
          refine Tr.iret dX9_take_26 rfl (by first | rfl | exact bI_nar _) ?_ ?_
          · rfl
          · rfl
    · by_cases hk : Q1.2.2.2.2.1 = true
      · have hk2 : (if nI 1 = nI 0 then Q0 else if nI 1 = nI 1 then Q1 else Q2) = Q1 := rfl
        rw [hk2, if_pos hk, if_pos hk]
        refine Md.of 0 (by decide) rfl rfl ?_
        refine Tr.iload_n (i := 1) dX9_take_0 rfl rfl (Eq.refl 1) ?_
        refine Tr.if_lt (tgt := 9) dX9_take_1 (by decide) (Eq.refl 4) (fun h => absurd h (by decide)) (fun _ => ?_)
        refine Tr.iload_n (i := 1) dX9_take_4 rfl rfl (Eq.refl 5) ?_
        refine Tr.iconst (v := nI 3) dX9_take_5 (icN 3) (Eq.refl 6) ?_
        refine Tr.icmp_lt (tgt := 12) dX9_take_6 (by decide) (Eq.refl 9) (fun _ => ?_) (fun h => absurd h (by decide))
        refine Tr.aload_n (i := 0) dX9_take_12 rfl rfl (Eq.refl 13) ?_
        refine Tr.getf dX9_take_13 fX9_39 rfl rfl (Eq.refl 16) ?_
        refine Tr.iload_n (i := 1) dX9_take_16 rfl rfl (Eq.refl 17) ?_
        refine Tr.aald dX9_take_17 rfl rfl (by omega) (by decide) rfl (Eq.refl 18) ?_
        refine Tr.getf dX9_take_18 fX9_83 rfl rfl (Eq.refl 21) ?_
        refine Tr.if_neB (tgt := 27) dX9_take_21 (by decide) (Eq.refl 24) (fun h21 => ?_) (fun h21 => ?_)
        · refine Tr.aload_n (i := 0) dX9_take_27 rfl rfl (Eq.refl 28) ?_
          refine Tr.getf dX9_take_28 fX9_35 rfl rfl (Eq.refl 31) ?_
          refine Tr.aload_n (i := 0) dX9_take_31 rfl rfl (Eq.refl 32) ?_
          refine Tr.getf dX9_take_32 fX9_39 rfl rfl (Eq.refl 35) ?_
          refine Tr.iload_n (i := 1) dX9_take_35 rfl rfl (Eq.refl 36) ?_
          refine Tr.aald dX9_take_36 rfl rfl (by omega) (by decide) rfl (Eq.refl 37) ?_
          refine Tr.callV (L := [1, 2, 3, 4, 5, 6, 7, 8, 9, 10, 11, 12, 26, 27, 28, 29, 30, 31, 32, 33, 34, 35, 36, 37]) (c_coCopy E _ N.1 Q1.1 N.2.1 Q1.2.1 N.2.2.1 Q1.2.2.1 N.2.2.2.1 Q1.2.2.2.1 N.2.2.2.2.1 Q1.2.2.2.2.1 N.2.2.2.2.2 Q1.2.2.2.2.2) dX9_take_37 (kX9_209 (Nat.le_of_ble_eq_true rfl)) iX1_copyFrom rfl rfl rfl rfl rfl rfl rfl rfl rfl rfl (Eq.refl 40) ?_
          refine Tr.pic (w' := xkC E ad r hf (tkQ N Q1) Q0 Q1 Q2) (putB_eq (Lc := [0, 13, 14, 15, 16, 17, 18, 19, 20, 21, 22, 23, 24, 25, 38, 39, 40, 41, 42, 43, 44, 45, 46, 47, 48, 49]) 50 rfl rfl rfl rfl ⟨⟨_, rfl, rfl⟩, ⟨_, rfl, rfl⟩, ⟨_, rfl, rfl⟩, ⟨_, rfl, rfl⟩, ⟨_, rfl, rfl⟩, ⟨_, rfl, rfl⟩, ⟨_, rfl, rfl⟩, ⟨_, rfl, rfl⟩, ⟨_, rfl, rfl⟩, ⟨_, rfl, rfl⟩, ⟨_, rfl, rfl⟩, ⟨_, rfl, rfl⟩, ⟨_, rfl, rfl⟩, ⟨_, rfl, rfl⟩, ⟨_, rfl, rfl⟩, ⟨_, rfl, rfl⟩, ⟨_, rfl, rfl⟩, ⟨_, rfl, rfl⟩, ⟨_, rfl, rfl⟩, ⟨_, rfl, rfl⟩, ⟨_, rfl, rfl⟩, ⟨_, rfl, rfl⟩, ⟨_, rfl, rfl⟩, ⟨_, rfl, rfl⟩, ⟨_, rfl, rfl⟩, ⟨_, rfl, rfl⟩, trivial⟩ (by decide) rfl) ?_
          refine Tr.aload_n (i := 0) dX9_take_40 rfl rfl (Eq.refl 41) ?_
          refine Tr.getf dX9_take_41 fX9_35 rfl rfl (Eq.refl 44) ?_
          refine Tr.getf dX9_take_44 fX9_175 rfl rfl (Eq.refl 47) ?_
          refine Tr.getf dX9_take_47 fX9_179 rfl rfl (Eq.refl 50) ?_
          refine Tr.iret dX9_take_50 rfl (by first | rfl | exact bI_nar _) ?_ ?_
          · rfl
          · rfl
        · exact absurd (hk.symm.trans h21) (by decide)
      · have hk2 : (if nI 1 = nI 0 then Q0 else if nI 1 = nI 1 then Q1 else Q2) = Q1 := rfl
        rw [hk2, if_neg hk, if_neg hk]
        refine Md.of 0 (by decide) rfl rfl ?_
        refine Tr.iload_n (i := 1) dX9_take_0 rfl rfl (Eq.refl 1) ?_
        refine Tr.if_lt (tgt := 9) dX9_take_1 (by decide) (Eq.refl 4) (fun h => absurd h (by decide)) (fun _ => ?_)
        refine Tr.iload_n (i := 1) dX9_take_4 rfl rfl (Eq.refl 5) ?_
        refine Tr.iconst (v := nI 3) dX9_take_5 (icN 3) (Eq.refl 6) ?_
        refine Tr.icmp_lt (tgt := 12) dX9_take_6 (by decide) (Eq.refl 9) (fun _ => ?_) (fun h => absurd h (by decide))
        refine Tr.aload_n (i := 0) dX9_take_12 rfl rfl (Eq.refl 13) ?_
        refine Tr.getf dX9_take_13 fX9_39 rfl rfl (Eq.refl 16) ?_
        refine Tr.iload_n (i := 1) dX9_take_16 rfl rfl (Eq.refl 17) ?_
        refine Tr.aald dX9_take_17 rfl rfl (by omega) (by decide) rfl (Eq.refl 18) ?_
        refine Tr.getf dX9_take_18 fX9_83 rfl rfl (Eq.refl 21) ?_
        refine Tr.if_neB (tgt := 27) dX9_take_21 (by decide) (Eq.refl 24) (fun h21 => ?_) (fun h21 => ?_)
        · exact absurd h21 hk
        · refine Tr.bipush (v := (-4)) dX9_take_24 (by decide +kernel) (Eq.refl 26) ?_
          refine Tr.iret dX9_take_26 rfl (by first | rfl | exact bI_nar _) ?_ ?_
          · rfl
          · rfl
    · by_cases hk : Q2.2.2.2.2.1 = true
      · have hk2 : (if nI 2 = nI 0 then Q0 else if nI 2 = nI 1 then Q1 else Q2) = Q2 := rfl
        rw [hk2, if_pos hk, if_pos hk]
        refine Md.of 0 (by decide) rfl rfl ?_
        refine Tr.iload_n (i := 1) dX9_take_0 rfl rfl (Eq.refl 1) ?_
        refine Tr.if_lt (tgt := 9) dX9_take_1 (by decide) (Eq.refl 4) (fun h => absurd h (by decide)) (fun _ => ?_)
        refine Tr.iload_n (i := 1) dX9_take_4 rfl rfl (Eq.refl 5) ?_
        refine Tr.iconst (v := nI 3) dX9_take_5 (icN 3) (Eq.refl 6) ?_
        refine Tr.icmp_lt (tgt := 12) dX9_take_6 (by decide) (Eq.refl 9) (fun _ => ?_) (fun h => absurd h (by decide))
        refine Tr.aload_n (i := 0) dX9_take_12 rfl rfl (Eq.refl 13) ?_
        refine Tr.getf dX9_take_13 fX9_39 rfl rfl (Eq.refl 16) ?_
        refine Tr.iload_n (i := 1) dX9_take_16 rfl rfl (Eq.refl 17) ?_
        refine Tr.aald dX9_take_17 rfl rfl (by omega) (by decide) rfl (Eq.refl 18) ?_
        refine Tr.getf dX9_take_18 fX9_83 rfl rfl (Eq.refl 21) ?_
        refine Tr.if_neB (tgt := 27) dX9_take_21 (by decide) (Eq.refl 24) (fun h21 => ?_) (fun h21 => ?_)
        · refine Tr.aload_n (i := 0) dX9_take_27 rfl rfl (Eq.refl 28) ?_
          refine Tr.getf dX9_take_28 fX9_35 rfl rfl (Eq.refl 31) ?_
          refine Tr.aload_n (i := 0) dX9_take_31 rfl rfl (Eq.refl 32) ?_
          refine Tr.getf dX9_take_32 fX9_39 rfl rfl (Eq.refl 35) ?_
          refine Tr.iload_n (i := 1) dX9_take_35 rfl rfl (Eq.refl 36) ?_
          refine Tr.aald dX9_take_36 rfl rfl (by omega) (by decide) rfl (Eq.refl 37) ?_
          refine Tr.callV (L := [1, 2, 3, 4, 5, 6, 7, 8, 9, 10, 11, 12, 38, 39, 40, 41, 42, 43, 44, 45, 46, 47, 48, 49]) (c_coCopy E _ N.1 Q2.1 N.2.1 Q2.2.1 N.2.2.1 Q2.2.2.1 N.2.2.2.1 Q2.2.2.2.1 N.2.2.2.2.1 Q2.2.2.2.2.1 N.2.2.2.2.2 Q2.2.2.2.2.2) dX9_take_37 (kX9_209 (Nat.le_of_ble_eq_true rfl)) iX1_copyFrom rfl rfl rfl rfl rfl rfl rfl rfl rfl rfl (Eq.refl 40) ?_
          refine Tr.pic (w' := xkC E ad r hf (tkQ N Q2) Q0 Q1 Q2) (putB_eq (Lc := [0, 13, 14, 15, 16, 17, 18, 19, 20, 21, 22, 23, 24, 25, 26, 27, 28, 29, 30, 31, 32, 33, 34, 35, 36, 37]) 50 rfl rfl rfl rfl ⟨⟨_, rfl, rfl⟩, ⟨_, rfl, rfl⟩, ⟨_, rfl, rfl⟩, ⟨_, rfl, rfl⟩, ⟨_, rfl, rfl⟩, ⟨_, rfl, rfl⟩, ⟨_, rfl, rfl⟩, ⟨_, rfl, rfl⟩, ⟨_, rfl, rfl⟩, ⟨_, rfl, rfl⟩, ⟨_, rfl, rfl⟩, ⟨_, rfl, rfl⟩, ⟨_, rfl, rfl⟩, ⟨_, rfl, rfl⟩, ⟨_, rfl, rfl⟩, ⟨_, rfl, rfl⟩, ⟨_, rfl, rfl⟩, ⟨_, rfl, rfl⟩, ⟨_, rfl, rfl⟩, ⟨_, rfl, rfl⟩, ⟨_, rfl, rfl⟩, ⟨_, rfl, rfl⟩, ⟨_, rfl, rfl⟩, ⟨_, rfl, rfl⟩, ⟨_, rfl, rfl⟩, ⟨_, rfl, rfl⟩, trivial⟩ (by decide) rfl) ?_
          refine Tr.aload_n (i := 0) dX9_take_40 rfl rfl (Eq.refl 41) ?_
          refine Tr.getf dX9_take_41 fX9_35 rfl rfl (Eq.refl 44) ?_
          refine Tr.getf dX9_take_44 fX9_175 rfl rfl (Eq.refl 47) ?_
          refine Tr.getf dX9_take_47 fX9_179 rfl rfl (Eq.refl 50) ?_
          refine Tr.iret dX9_take_50 rfl (by first | rfl | exact bI_nar _) ?_ ?_
          · rfl
          · rfl
        · exact absurd (hk.symm.trans h21) (by decide)
      · have hk2 : (if nI 2 = nI 0 then Q0 else if nI 2 = nI 1 then Q1 else Q2) = Q2 := rfl
        rw [hk2, if_neg hk, if_neg hk]
        refine Md.of 0 (by decide) rfl rfl ?_
        refine Tr.iload_n (i := 1) dX9_take_0 rfl rfl (Eq.refl 1) ?_
        refine Tr.if_lt (tgt := 9) dX9_take_1 (by decide) (Eq.refl 4) (fun h => absurd h (by decide)) (fun _ => ?_)
        refine Tr.iload_n (i := 1) dX9_take_4 rfl rfl (Eq.refl 5) ?_
        refine Tr.iconst (v := nI 3) dX9_take_5 (icN 3) (Eq.refl 6) ?_
        refine Tr.icmp_lt (tgt := 12) dX9_take_6 (by decide) (Eq.refl 9) (fun _ => ?_) (fun h => absurd h (by decide))
        refine Tr.aload_n (i := 0) dX9_take_12 rfl rfl (Eq.refl 13) ?_
        refine Tr.getf dX9_take_13 fX9_39 rfl rfl (Eq.refl 16) ?_
        refine Tr.iload_n (i := 1) dX9_take_16 rfl rfl (Eq.refl 17) ?_
        refine Tr.aald dX9_take_17 rfl rfl (by omega) (by decide) rfl (Eq.refl 18) ?_
        refine Tr.getf dX9_take_18 fX9_83 rfl rfl (Eq.refl 21) ?_
        refine Tr.if_neB (tgt := 27) dX9_take_21 (by decide) (Eq.refl 24) (fun h21 => ?_) (fun h21 => ?_)
        · exact absurd h21 hk
        · refine Tr.bipush (v := (-4)) dX9_take_24 (by decide +kernel) (Eq.refl 26) ?_
          refine Tr.iret dX9_take_26 rfl (by first | rfl | exact bI_nar _) ?_ ?_
          · rfl
          · rfl
  · rw [if_neg hc, if_neg hc]
    refine Md.of 0 (by decide) rfl rfl ?_
    refine Tr.iload_n (i := 1) dX9_take_0 rfl rfl (Eq.refl 1) ?_
    refine Tr.if_lt (tgt := 9) dX9_take_1 (by decide) (Eq.refl 4) (fun h1 => ?_) (fun h1 => ?_)
    · refine Tr.bipush (v := (-2)) dX9_take_9 (by decide +kernel) (Eq.refl 11) ?_
      refine Tr.iret dX9_take_11 rfl (by first | rfl | exact bI_nar _) ?_ ?_
      · rfl
      · rfl
    · refine Tr.iload_n (i := 1) dX9_take_4 rfl rfl (Eq.refl 5) ?_
      refine Tr.iconst (v := nI 3) dX9_take_5 (icN 3) (Eq.refl 6) ?_
      refine Tr.icmp_lt (tgt := 12) dX9_take_6 (by decide) (Eq.refl 9) (fun h6 => ?_) (fun h6 => ?_)
      · exact absurd (rg_in (a := 0) (b := 2) (by decide) (by decide) h1 h6) hc
      · refine Tr.bipush (v := (-2)) dX9_take_9 (by decide +kernel) (Eq.refl 11) ?_
        refine Tr.iret dX9_take_11 rfl (by first | rfl | exact bI_nar _) ?_ ?_
        · rfl
        · rfl
