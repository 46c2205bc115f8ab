/-! OwnedByGuests: the tape, plans, feasts -/
def tpC (E : EnvT) (ad : Nat → Nat) (b len : Nat) (q : Int32 × Int32 × Int32 × Int32) (nm : Int64) (T : Nat → Nat) : List va_E := [.inr (4, [.ref (ad (b + 1)), .int (nI len), .int q.1, .int q.2.1, .int q.2.2.1, .int q.2.2.2, .long nm]), aI E 900 (fun k => nI (T k))]
/-- object, tape, course, village, feast -/
def xpC (E : EnvT) (ad r : Nat → Nat) (hb : Bool) (len : Nat) (q : Int32 × Int32 × Int32 × Int32) (nm : Int64) (T : Nat → Nat) (S : Scn) (P : Nat → Nat) (L : Nat → Int32) (a : Nat) (kp : Bool) (W : Nat → Nat) (V : Vil) (X : Vix) (F : Nat → Nat) : List va_E := (.inr (9, [.ref (ad 1), .ref (r 1), .ref (ad 15), .ref (ad 3), .ref (r 4), .ref (r 5), .ref (r 6), .ref (ad 26), .int (bI hb)]) : va_E) :: (tpC E ad 1 len q nm T ++ (coC E ad 3 S P L a kp W ++ (viC E ad 15 V X ++ [aI E 5 (fun k => nI (F k))])))
def rU (ad r : Nat → Nat) (k : Nat) : Nat := if k = 0 then ad 1 else if k = 3 then ad 3 else if k = 7 then ad 26 else r k
/-- a byte of an int -/
def ub8 (v : Int32) (k : Nat) : Nat := v.toBitVec.toNat / 2 ^ k % 256
theorem ub_e (v : Int32) {k : Nat} (hs : (((nI k).toUInt32 &&& Int32.toUInt32 31).toBitVec % 32).toNat = k) : (v.toUInt32 >>> ((nI k).toUInt32 &&& Int32.toUInt32 31)).toInt32 &&& nI 255 = nI (ub8 v k) := by
  rw [pk_and _ 8 (by decide), pk_ushr v (nI k) k hs]
  rfl
def c4F (T : Nat → Nat) (t : Nat) (v : Int32) : Nat → Nat := upN (upN (upN (upN T t (ub8 v 24)) (t + 1) (ub8 v 16)) (t + 1 + 1) (ub8 v 8)) (t + 1 + 1 + 1) (ub8 v 0)
theorem tp_T {E : EnvT} {ad : Nat → Nat} {len : Nat} {q : Int32 × Int32 × Int32 × Int32} {nm : Int64} {T : Nat → Nat} {t x : Nat} : (tpC E ad 0 len q nm T).set 1 (aI E 900 (upd (fun k => nI (T k)) t (nI x))) = (tpC E ad 0 len q nm (upN T t x)) := by
  unfold tpC
  rw [nI_upN]
  rfl
set_option maxHeartbeats 4000000 in
set_option maxRecDepth 100000 in
theorem t_addFour (E : EnvT) (ad : Nat → Nat) (len : Nat) (q : Int32 × Int32 × Int32 × Int32) (nm : Int64) (T : Nat → Nat) (v : Int32) (h : len + 4 ≤ 900) : Md E mX4_addFour ad [.ref (ad 0), .int v] (tpC E ad 0 len q nm T) none (tpC E ad 0 (len + 4) q nm (c4F T len v)) := by
  refine Md.of 1 (by decide) rfl rfl ?_
  refine Tr.bipush (v := nI 24) dX4_addFour_0 (by decide +kernel) (Eq.refl 2) ?_
  refine Tr.istore_n (i := 2) dX4_addFour_2 rfl rfl rfl (Eq.refl 3) ?_
  refine Tr.iload_n (i := 2) dX4_addFour_3 rfl rfl (Eq.refl 4) ?_
  refine Tr.if_lt (tgt := 56) dX4_addFour_4 (by decide) (Eq.refl 7) (fun h => absurd h (by decide)) (fun _ => ?_)
  refine Tr.aload_n (i := 0) dX4_addFour_7 rfl rfl (Eq.refl 8) ?_
  refine Tr.getf dX4_addFour_8 fX4_15 rfl rfl (Eq.refl 11) ?_
  refine Tr.if_lt (tgt := 50) dX4_addFour_11 (by decide) (Eq.refl 14) (fun h11 => ?_) (fun h11 => ?_)
  · exact absurd h11 (nI_nneg (by omega))
  · refine Tr.aload_n (i := 0) dX4_addFour_14 rfl rfl (Eq.refl 15) ?_
    refine Tr.getf dX4_addFour_15 fX4_15 rfl rfl (Eq.refl 18) ?_
    refine Tr.sipush (v := nI 900) dX4_addFour_18 (by decide +kernel) (Eq.refl 21) ?_
    refine Tr.icmp_geN (tgt := 50) dX4_addFour_21 (by decide) (Eq.refl 24) (by omega) (by omega) (fun h21 => ?_) (fun h21 => ?_)
    · exact absurd h21 (by omega)
    · refine Tr.aload_n (i := 0) dX4_addFour_24 rfl rfl (Eq.refl 25) ?_
      refine Tr.getf dX4_addFour_25 fX4_11 rfl rfl (Eq.refl 28) ?_
      refine Tr.aload_n (i := 0) dX4_addFour_28 rfl rfl (Eq.refl 29) ?_
      refine Tr.getf dX4_addFour_29 fX4_15 rfl rfl (Eq.refl 32) ?_
      refine Tr.iload_n (i := 1) dX4_addFour_32 rfl rfl (Eq.refl 33) ?_
      refine Tr.iload_n (i := 2) dX4_addFour_33 rfl rfl (Eq.refl 34) ?_
      refine Tr.iushr dX4_addFour_34 rfl (Eq.refl 35) ?_
      refine Tr.sipush (v := nI 255) dX4_addFour_35 (by decide +kernel) (Eq.refl 38) ?_
      refine Tr.iand dX4_addFour_38 (Eq.refl 39) ?_
      first | refine Tr.top (ub_e v (k := 24) (by decide)) ?_ | refine Tr.top (ub_e v (k := 16) (by decide)) ?_ | refine Tr.top (ub_e v (k := 8) (by decide)) ?_ | refine Tr.top (ub_e v (k := 0) (by decide)) ?_
      refine Tr.iastN dX4_addFour_39 rfl (by omega) (by decide) (Eq.refl 40) ?_
      refine Tr.pic tp_T ?_
      refine Tr.aload_n (i := 0) dX4_addFour_40 rfl rfl (Eq.refl 41) ?_
      refine Tr.dup dX4_addFour_41 rfl (Eq.refl 42) ?_
      refine Tr.getf dX4_addFour_42 fX4_15 rfl rfl (Eq.refl 45) ?_
      refine Tr.iconst (v := nI 1) dX4_addFour_45 (icN 1) (Eq.refl 46) ?_
      refine Tr.iaddN dX4_addFour_46 (Eq.refl 47) ?_
      refine Tr.putf dX4_addFour_47 pX4_15 rfl (rfl) (rfl) rfl (Eq.refl 50) ?_
      refine Tr.pic (w' := tpC E ad 0 (_ + 1) q nm _) rfl ?_
      refine Tr.iinc (v := nI 16) dX4_addFour_50 rfl (by decide +kernel) rfl rfl (Eq.refl 53) ?_
      refine Tr.goto (pc' := 3) dX4_addFour_53 (by decide) ?_
      refine Tr.iload_n (i := 2) dX4_addFour_3 rfl rfl (Eq.refl 4) ?_
      refine Tr.if_lt (tgt := 56) dX4_addFour_4 (by decide) (Eq.refl 7) (fun h => absurd h (by decide)) (fun _ => ?_)
      refine Tr.aload_n (i := 0) dX4_addFour_7 rfl rfl (Eq.refl 8) ?_
      refine Tr.getf dX4_addFour_8 fX4_15 rfl rfl (Eq.refl 11) ?_
      refine Tr.if_lt (tgt := 50) dX4_addFour_11 (by decide) (Eq.refl 14) (fun h11 => ?_) (fun h11 => ?_)
      · exact absurd h11 (nI_nneg (by omega))
      · refine Tr.aload_n (i := 0) dX4_addFour_14 rfl rfl (Eq.refl 15) ?_
        refine Tr.getf dX4_addFour_15 fX4_15 rfl rfl (Eq.refl 18) ?_
        refine Tr.sipush (v := nI 900) dX4_addFour_18 (by decide +kernel) (Eq.refl 21) ?_
        refine Tr.icmp_geN (tgt := 50) dX4_addFour_21 (by decide) (Eq.refl 24) (by omega) (by omega) (fun h21 => ?_) (fun h21 => ?_)
        · exact absurd h21 (by omega)
        · refine Tr.aload_n (i := 0) dX4_addFour_24 rfl rfl (Eq.refl 25) ?_
          refine Tr.getf dX4_addFour_25 fX4_11 rfl rfl (Eq.refl 28) ?_
          refine Tr.aload_n (i := 0) dX4_addFour_28 rfl rfl (Eq.refl 29) ?_
          refine Tr.getf dX4_addFour_29 fX4_15 rfl rfl (Eq.refl 32) ?_
          refine Tr.iload_n (i := 1) dX4_addFour_32 rfl rfl (Eq.refl 33) ?_
          refine Tr.iload_n (i := 2) dX4_addFour_33 rfl rfl (Eq.refl 34) ?_
          refine Tr.iushr dX4_addFour_34 rfl (Eq.refl 35) ?_
          refine Tr.sipush (v := nI 255) dX4_addFour_35 (by decide +kernel) (Eq.refl 38) ?_
          refine Tr.iand dX4_addFour_38 (Eq.refl 39) ?_
          first | refine Tr.top (ub_e v (k := 24) (by decide)) ?_ | refine Tr.top (ub_e v (k := 16) (by decide)) ?_ | refine Tr.top (ub_e v (k := 8) (by decide)) ?_ | refine Tr.top (ub_e v (k := 0) (by decide)) ?_
          refine Tr.iastN dX4_addFour_39 rfl (by omega) (by decide) (Eq.refl 40) ?_
          refine Tr.pic tp_T ?_
          refine Tr.aload_n (i := 0) dX4_addFour_40 rfl rfl (Eq.refl 41) ?_
          refine Tr.dup dX4_addFour_41 rfl (Eq.refl 42) ?_
          refine Tr.getf dX4_addFour_42 fX4_15 rfl rfl (Eq.refl 45) ?_
          refine Tr.iconst (v := nI 1) dX4_addFour_45 (icN 1) (Eq.refl 46) ?_
          refine Tr.iaddN dX4_addFour_46 (Eq.refl 47) ?_
          refine Tr.putf dX4_addFour_47 pX4_15 rfl (rfl) (rfl) rfl (Eq.refl 50) ?_
          refine Tr.pic (w' := tpC E ad 0 (_ + 1) q nm _) rfl ?_
          refine Tr.iinc (v := nI 8) dX4_addFour_50 rfl (by decide +kernel) rfl rfl (Eq.refl 53) ?_
          refine Tr.goto (pc' := 3) dX4_addFour_53 (by decide) ?_
          refine Tr.iload_n (i := 2) dX4_addFour_3 rfl rfl (Eq.refl 4) ?_
          refine Tr.if_lt (tgt := 56) dX4_addFour_4 (by decide) (Eq.refl 7) (fun h => absurd h (by decide)) (fun _ => ?_)
          refine Tr.aload_n (i := 0) dX4_addFour_7 rfl rfl (Eq.refl 8) ?_
          refine Tr.getf dX4_addFour_8 fX4_15 rfl rfl (Eq.refl 11) ?_
          refine Tr.if_lt (tgt := 50) dX4_addFour_11 (by decide) (Eq.refl 14) (fun h11 => ?_) (fun h11 => ?_)
          · exact absurd h11 (nI_nneg (by omega))
          · refine Tr.aload_n (i := 0) dX4_addFour_14 rfl rfl (Eq.refl 15) ?_
            refine Tr.getf dX4_addFour_15 fX4_15 rfl rfl (Eq.refl 18) ?_
            refine Tr.sipush (v := nI 900) dX4_addFour_18 (by decide +kernel) (Eq.refl 21) ?_
            refine Tr.icmp_geN (tgt := 50) dX4_addFour_21 (by decide) (Eq.refl 24) (by omega) (by omega) (fun h21 => ?_) (fun h21 => ?_)
            · exact absurd h21 (by omega)
            · refine Tr.aload_n (i := 0) dX4_addFour_24 rfl rfl (Eq.refl 25) ?_
              refine Tr.getf dX4_addFour_25 fX4_11 rfl rfl (Eq.refl 28) ?_
              refine Tr.aload_n (i := 0) dX4_addFour_28 rfl rfl (Eq.refl 29) ?_
              refine Tr.getf dX4_addFour_29 fX4_15 rfl rfl (Eq.refl 32) ?_
              refine Tr.iload_n (i := 1) dX4_addFour_32 rfl rfl (Eq.refl 33) ?_
              refine Tr.iload_n (i := 2) dX4_addFour_33 rfl rfl (Eq.refl 34) ?_
              refine Tr.iushr dX4_addFour_34 rfl (Eq.refl 35) ?_
              refine Tr.sipush (v := nI 255) dX4_addFour_35 (by decide +kernel) (Eq.refl 38) ?_
              refine Tr.iand dX4_addFour_38 (Eq.refl 39) ?_
              first | refine Tr.top (ub_e v (k := 24) (by decide)) ?_ | refine Tr.top (ub_e v (k := 16) (by decide)) ?_ | refine Tr.top (ub_e v (k := 8) (by decide)) ?_ | refine Tr.top (ub_e v (k := 0) (by decide)) ?_
              refine Tr.iastN dX4_addFour_39 rfl (by omega) (by decide) (Eq.refl 40) ?_
              refine Tr.pic tp_T ?_
              refine Tr.aload_n (i := 0) dX4_addFour_40 rfl rfl (Eq.refl 41) ?_
              refine Tr.dup dX4_addFour_41 rfl (Eq.refl 42) ?_
              refine Tr.getf dX4_addFour_42 fX4_15 rfl rfl (Eq.refl 45) ?_
              refine Tr.iconst (v := nI 1) dX4_addFour_45 (icN 1) (Eq.refl 46) ?_
              refine Tr.iaddN dX4_addFour_46 (Eq.refl 47) ?_
              refine Tr.putf dX4_addFour_47 pX4_15 rfl (rfl) (rfl) rfl (Eq.refl 50) ?_
              refine Tr.pic (w' := tpC E ad 0 (_ + 1) q nm _) rfl ?_
              refine Tr.iinc (v := nI 0) dX4_addFour_50 rfl (by decide +kernel) rfl rfl (Eq.refl 53) ?_
              refine Tr.goto (pc' := 3) dX4_addFour_53 (by decide) ?_
              refine Tr.iload_n (i := 2) dX4_addFour_3 rfl rfl (Eq.refl 4) ?_
              refine Tr.if_lt (tgt := 56) dX4_addFour_4 (by decide) (Eq.refl 7) (fun h => absurd h (by decide)) (fun _ => ?_)
              refine Tr.aload_n (i := 0) dX4_addFour_7 rfl rfl (Eq.refl 8) ?_
              refine Tr.getf dX4_addFour_8 fX4_15 rfl rfl (Eq.refl 11) ?_
              refine Tr.if_lt (tgt := 50) dX4_addFour_11 (by decide) (Eq.refl 14) (fun h11 => ?_) (fun h11 => ?_)
              · exact absurd h11 (nI_nneg (by omega))
              · refine Tr.aload_n (i := 0) dX4_addFour_14 rfl rfl (Eq.refl 15) ?_
                refine Tr.getf dX4_addFour_15 fX4_15 rfl rfl (Eq.refl 18) ?_
                refine Tr.sipush (v := nI 900) dX4_addFour_18 (by decide +kernel) (Eq.refl 21) ?_
                refine Tr.icmp_geN (tgt := 50) dX4_addFour_21 (by decide) (Eq.refl 24) (by omega) (by omega) (fun h21 => ?_) (fun h21 => ?_)
                · exact absurd h21 (by omega)
                · refine Tr.aload_n (i := 0) dX4_addFour_24 rfl rfl (Eq.refl 25) ?_
                  refine Tr.getf dX4_addFour_25 fX4_11 rfl rfl (Eq.refl 28) ?_
                  refine Tr.aload_n (i := 0) dX4_addFour_28 rfl rfl (Eq.refl 29) ?_
                  refine Tr.getf dX4_addFour_29 fX4_15 rfl rfl (Eq.refl 32) ?_
                  refine Tr.iload_n (i := 1) dX4_addFour_32 rfl rfl (Eq.refl 33) ?_
                  refine Tr.iload_n (i := 2) dX4_addFour_33 rfl rfl (Eq.refl 34) ?_
                  refine Tr.iushr dX4_addFour_34 rfl (Eq.refl 35) ?_
                  refine Tr.sipush (v := nI 255) dX4_addFour_35 (by decide +kernel) (Eq.refl 38) ?_
                  refine Tr.iand dX4_addFour_38 (Eq.refl 39) ?_
                  first | refine Tr.top (ub_e v (k := 24) (by decide)) ?_ | refine Tr.top (ub_e v (k := 16) (by decide)) ?_ | refine Tr.top (ub_e v (k := 8) (by decide)) ?_ | refine Tr.top (ub_e v (k := 0) (by decide)) ?_
                  refine Tr.iastN dX4_addFour_39 rfl (by omega) (by decide) (Eq.refl 40) ?_
                  refine Tr.pic tp_T ?_
                  refine Tr.aload_n (i := 0) dX4_addFour_40 rfl rfl (Eq.refl 41) ?_
                  refine Tr.dup dX4_addFour_41 rfl (Eq.refl 42) ?_
                  refine Tr.getf dX4_addFour_42 fX4_15 rfl rfl (Eq.refl 45) ?_
                  refine Tr.iconst (v := nI 1) dX4_addFour_45 (icN 1) (Eq.refl 46) ?_
                  refine Tr.iaddN dX4_addFour_46 (Eq.refl 47) ?_
                  refine Tr.putf dX4_addFour_47 pX4_15 rfl (rfl) (rfl) rfl (Eq.refl 50) ?_
                  refine Tr.pic (w' := tpC E ad 0 (_ + 1) q nm _) rfl ?_
                  refine Tr.iinc (v := (-8)) dX4_addFour_50 rfl (by decide +kernel) rfl rfl (Eq.refl 53) ?_
                  refine Tr.goto (pc' := 3) dX4_addFour_53 (by decide) ?_
                  refine Tr.iload_n (i := 2) dX4_addFour_3 rfl rfl (Eq.refl 4) ?_
                  refine Tr.if_lt (tgt := 56) dX4_addFour_4 (by decide) (Eq.refl 7) (fun _ => ?_) (fun h => absurd h (by decide))
                  refine Tr.ret dX4_addFour_56 rfl rfl ?_
                  · rfl
def byA (len : Nat) (T : Nat → Nat) (k : Nat) : Int32 := if k < len then nI (T k) else -1
set_option maxHeartbeats 4000000 in
set_option maxRecDepth 100000 in
theorem t_byteAt (E : EnvT) (ad : Nat → Nat) (len : Nat) (q : Int32 × Int32 × Int32 × Int32) (nm : Int64) (T : Nat → Nat) (k : Nat) (h : len ≤ 900) (hk : k < 2 ^ 31) : Md E mX4_byteAt ad [.ref (ad 0), .int (nI k)] (tpC E ad 0 len q nm T) (some (.int (byA len T k))) (tpC E ad 0 len q nm T) := by
  unfold byA
  refine Md.of 0 (by decide) rfl rfl ?_
  refine Tr.iload_n (i := 1) dX4_byteAt_0 rfl rfl (Eq.refl 1) ?_
  refine Tr.if_lt (tgt := 28) dX4_byteAt_1 (by decide) (Eq.refl 4) (fun h1 => ?_) (fun h1 => ?_)
  · exact absurd h1 (nI_nneg hk)
  · refine Tr.iload_n (i := 1) dX4_byteAt_4 rfl rfl (Eq.refl 5) ?_
    refine Tr.aload_n (i := 0) dX4_byteAt_5 rfl rfl (Eq.refl 6) ?_
    refine Tr.getf dX4_byteAt_6 fX4_15 rfl rfl (Eq.refl 9) ?_
    refine Tr.icmp_geN (tgt := 28) dX4_byteAt_9 (by decide) (Eq.refl 12) (by omega) (by omega) (fun h9 => ?_) (fun h9 => ?_)
    · rw [if_neg (by omega)]
      refine Tr.iconst (v := (-1)) dX4_byteAt_28 (by decide +kernel) (Eq.refl 29) ?_
      refine Tr.iret dX4_byteAt_29 rfl (by first | rfl | exact bI_nar _) ?_ ?_
      · rfl
      · rfl
    · rw [if_pos (by omega)]
      refine Tr.iload_n (i := 1) dX4_byteAt_12 rfl rfl (Eq.refl 13) ?_
      refine Tr.sipush (v := nI 900) dX4_byteAt_13 (by decide +kernel) (Eq.refl 16) ?_
      refine Tr.icmp_geN (tgt := 28) dX4_byteAt_16 (by decide) (Eq.refl 19) (by omega) (by omega) (fun h16 => ?_) (fun h16 => ?_)
      · exact absurd h16 (by omega)
      · refine Tr.aload_n (i := 0) dX4_byteAt_19 rfl rfl (Eq.refl 20) ?_
        refine Tr.getf dX4_byteAt_20 fX4_11 rfl rfl (Eq.refl 23) ?_
        refine Tr.iload_n (i := 1) dX4_byteAt_23 rfl rfl (Eq.refl 24) ?_
        refine Tr.ialdN dX4_byteAt_24 rfl (by omega) (by decide) (Eq.refl 25) ?_
        refine Tr.goto (pc' := 29) dX4_byteAt_25 (by decide) ?_
        refine Tr.iret dX4_byteAt_29 rfl (by first | rfl | exact bI_nar _) ?_ ?_
        · rfl
        · rfl
theorem xp_le {E E2 : EnvT} {ad r ad2 r2 : Nat → Nat} {hb hb2 : Bool} {len len2 : Nat} {q q2 : Int32 × Int32 × Int32 × Int32} {nm nm2 : Int64} {T T2 : Nat → Nat} {S S2 : Scn} {P P2 : Nat → Nat} {L L2 : Nat → Int32} {a a2 : Nat} {kp kp2 : Bool} {W W2 : Nat → Nat} {V V2 : Vil} {X X2 : Vix} {F F2 : Nat → Nat} : (xpC E ad r hb len q nm T S P L a kp W V X F).length ≤ (xpC E2 ad2 r2 hb2 len2 q2 nm2 T2 S2 P2 L2 a2 kp2 W2 V2 X2 F2).length := Nat.le_refl 27
set_option maxHeartbeats 4000000 in
set_option maxRecDepth 100000 in
theorem x_feed (E : EnvT) (ad r : Nat → Nat) (hb : Bool) (len : Nat) (q : Int32 × Int32 × Int32 × Int32) (nm : Int64) (T : Nat → Nat) (S : Scn) (P : Nat → Nat) (L : Nat → Int32) (a : Nat) (kp : Bool) (W : Nat → Nat) (V : Vil) (X : Vix) (F : Nat → Nat) (v1 v2 v3 v4 v5 : Int32) (hl : len ≤ 900) : Md E mX9_feed ad [.ref (ad 0), .int v1, .int v2, .int v3, .int v4, .int v5] (xpC E ad r hb len q nm T S P L a kp W V X F) (some (.int (if 900 < len + 20 then -3 else nI (len + 4 + 4 + 4 + 4 + 4)))) (if 900 < len + 20 then (xpC E ad r hb len q nm T S P L a kp W V X F) else (xpC E ad r hb (len + 4 + 4 + 4 + 4 + 4) q nm (c4F (c4F (c4F (c4F (c4F T (len) v1) (len + 4) v2) (len + 4 + 4) v3) (len + 4 + 4 + 4) v4) (len + 4 + 4 + 4 + 4) v5) S P L a kp W V X F)) := by
  by_cases hc : 900 < len + 20
  · rw [if_pos hc, if_pos hc]
    refine Md.of 0 (by decide) rfl rfl ?_
    refine Tr.aload_n (i := 0) dX9_feed_0 rfl rfl (Eq.refl 1) ?_
    refine Tr.getf dX9_feed_1 fX9_10 rfl rfl (Eq.refl 4) ?_
    refine Tr.getf dX9_feed_4 fX9_68 rfl rfl (Eq.refl 7) ?_
    refine Tr.bipush (v := nI 20) dX9_feed_7 (by decide +kernel) (Eq.refl 9) ?_
    refine Tr.iaddN dX9_feed_9 (Eq.refl 10) ?_
    refine Tr.sipush (v := nI 900) dX9_feed_10 (by decide +kernel) (Eq.refl 13) ?_
    refine Tr.icmp_leN (tgt := 19) dX9_feed_13 (by decide) (Eq.refl 16) (by omega) (by omega) (fun h13 => ?_) (fun h13 => ?_)
    · exact absurd h13 (by omega)
    · refine Tr.bipush (v := (-3)) dX9_feed_16 (by decide +kernel) (Eq.refl 18) ?_
      refine Tr.iret dX9_feed_18 rfl (by first | rfl | exact bI_nar _) ?_ ?_
      · rfl
      · rfl
  · rw [if_neg hc, if_neg hc]
    refine Md.of 0 (by decide) rfl rfl ?_
    refine Tr.aload_n (i := 0) dX9_feed_0 rfl rfl (Eq.refl 1) ?_
    refine Tr.getf dX9_feed_1 fX9_10 rfl rfl (Eq.refl 4) ?_
    refine Tr.getf dX9_feed_4 fX9_68 rfl rfl (Eq.refl 7) ?_
    refine Tr.bipush (v := nI 20) dX9_feed_7 (by decide +kernel) (Eq.refl 9) ?_
    refine Tr.iaddN dX9_feed_9 (Eq.refl 10) ?_
    refine Tr.sipush (v := nI 900) dX9_feed_10 (by decide +kernel) (Eq.refl 13) ?_
    refine Tr.icmp_leN (tgt := 19) dX9_feed_13 (by decide) (Eq.refl 16) (by omega) (by omega) (fun h13 => ?_) (fun h13 => ?_)
    · refine Tr.aload_n (i := 0) dX9_feed_19 rfl rfl (Eq.refl 20) ?_
      refine Tr.getf dX9_feed_20 fX9_10 rfl rfl (Eq.refl 23) ?_
      refine Tr.iload_n (i := 1) dX9_feed_23 rfl rfl (Eq.refl 24) ?_
      refine Tr.callV (L := [1, 2]) (t_addFour E _ (len) q nm T v1 (by omega)) dX9_feed_24 (kX9_72 (Nat.le_of_ble_eq_true rfl)) iX4_addFour rfl rfl rfl rfl rfl rfl rfl rfl rfl rfl (Eq.refl 27) ?_
      refine Tr.pic (w' := xpC E ad r hb (len + 4) q nm (c4F T (len) v1) S P L a kp W V X F) (putB_eq (Lc := [0, 3, 4, 5, 6, 7, 8, 9, 10, 11, 12, 13, 14, 15, 16, 17, 18, 19, 20, 21, 22, 23, 24, 25, 26]) 27 rfl rfl rfl rfl ⟨⟨_, rfl, rfl⟩, ⟨_, rfl, rfl⟩, ⟨_, rfl, rfl⟩, ⟨_, rfl, rfl⟩, ⟨_, rfl, rfl⟩, ⟨_, rfl, rfl⟩, ⟨_, rfl, rfl⟩, ⟨_, rfl, rfl⟩, ⟨_, rfl, rfl⟩, ⟨_, rfl, rfl⟩, ⟨_, rfl, rfl⟩, ⟨_, rfl, rfl⟩, ⟨_, rfl, rfl⟩, ⟨_, rfl, rfl⟩, ⟨_, rfl, rfl⟩, ⟨_, rfl, rfl⟩, ⟨_, rfl, rfl⟩, ⟨_, rfl, rfl⟩, ⟨_, rfl, rfl⟩, ⟨_, rfl, rfl⟩, ⟨_, rfl, rfl⟩, ⟨_, rfl, rfl⟩, ⟨_, rfl, rfl⟩, ⟨_, rfl, rfl⟩, ⟨_, rfl, rfl⟩, trivial⟩ (by decide) rfl) ?_
      refine Tr.aload_n (i := 0) dX9_feed_27 rfl rfl (Eq.refl 28) ?_
      refine Tr.getf dX9_feed_28 fX9_10 rfl rfl (Eq.refl 31) ?_
      refine Tr.iload_n (i := 2) dX9_feed_31 rfl rfl (Eq.refl 32) ?_
      refine Tr.callV (L := [1, 2]) (t_addFour E _ (len + 4) q nm (c4F T (len) v1) v2 (by omega)) dX9_feed_32 (kX9_72 (Nat.le_of_ble_eq_true rfl)) iX4_addFour rfl rfl rfl rfl rfl rfl rfl rfl rfl rfl (Eq.refl 35) ?_
      refine Tr.pic (w' := xpC E ad r hb (len + 4 + 4) q nm (c4F (c4F T (len) v1) (len + 4) v2) S P L a kp W V X F) (putB_eq (Lc := [0, 3, 4, 5, 6, 7, 8, 9, 10, 11, 12, 13, 14, 15, 16, 17, 18, 19, 20, 21, 22, 23, 24, 25, 26]) 27 rfl rfl rfl rfl ⟨⟨_, rfl, rfl⟩, ⟨_, rfl, rfl⟩, ⟨_, rfl, rfl⟩, ⟨_, rfl, rfl⟩, ⟨_, rfl, rfl⟩, ⟨_, rfl, rfl⟩, ⟨_, rfl, rfl⟩, ⟨_, rfl, rfl⟩, ⟨_, rfl, rfl⟩, ⟨_, rfl, rfl⟩, ⟨_, rfl, rfl⟩, ⟨_, rfl, rfl⟩, ⟨_, rfl, rfl⟩, ⟨_, rfl, rfl⟩, ⟨_, rfl, rfl⟩, ⟨_, rfl, rfl⟩, ⟨_, rfl, rfl⟩, ⟨_, rfl, rfl⟩, ⟨_, rfl, rfl⟩, ⟨_, rfl, rfl⟩, ⟨_, rfl, rfl⟩, ⟨_, rfl, rfl⟩, ⟨_, rfl, rfl⟩, ⟨_, rfl, rfl⟩, ⟨_, rfl, rfl⟩, trivial⟩ (by decide) rfl) ?_
      refine Tr.aload_n (i := 0) dX9_feed_35 rfl rfl (Eq.refl 36) ?_
      refine Tr.getf dX9_feed_36 fX9_10 rfl rfl (Eq.refl 39) ?_
      refine Tr.iload_n (i := 3) dX9_feed_39 rfl rfl (Eq.refl 40) ?_
      refine Tr.callV (L := [1, 2]) (t_addFour E _ (len + 4 + 4) q nm (c4F (c4F T (len) v1) (len + 4) v2) v3 (by omega)) dX9_feed_40 (kX9_72 (Nat.le_of_ble_eq_true rfl)) iX4_addFour rfl rfl rfl rfl rfl rfl rfl rfl rfl rfl (Eq.refl 43) ?_
      refine Tr.pic (w' := xpC E ad r hb (len + 4 + 4 + 4) q nm (c4F (c4F (c4F T (len) v1) (len + 4) v2) (len + 4 + 4) v3) S P L a kp W V X F) (putB_eq (Lc := [0, 3, 4, 5, 6, 7, 8, 9, 10, 11, 12, 13, 14, 15, 16, 17, 18, 19, 20, 21, 22, 23, 24, 25, 26]) 27 rfl rfl rfl rfl ⟨⟨_, rfl, rfl⟩, ⟨_, rfl, rfl⟩, ⟨_, rfl, rfl⟩, ⟨_, rfl, rfl⟩, ⟨_, rfl, rfl⟩, ⟨_, rfl, rfl⟩, ⟨_, rfl, rfl⟩, ⟨_, rfl, rfl⟩, ⟨_, rfl, rfl⟩, ⟨_, rfl, rfl⟩, ⟨_, rfl, rfl⟩, ⟨_, rfl, rfl⟩, ⟨_, rfl, rfl⟩, ⟨_, rfl, rfl⟩, ⟨_, rfl, rfl⟩, ⟨_, rfl, rfl⟩, ⟨_, rfl, rfl⟩, ⟨_, rfl, rfl⟩, ⟨_, rfl, rfl⟩, ⟨_, rfl, rfl⟩, ⟨_, rfl, rfl⟩, ⟨_, rfl, rfl⟩, ⟨_, rfl, rfl⟩, ⟨_, rfl, rfl⟩, ⟨_, rfl, rfl⟩, trivial⟩ (by decide) rfl) ?_
      refine Tr.aload_n (i := 0) dX9_feed_43 rfl rfl (Eq.refl 44) ?_
      refine Tr.getf dX9_feed_44 fX9_10 rfl rfl (Eq.refl 47) ?_
      refine Tr.iload dX9_feed_47 rfl (Eq.refl 49) ?_
      refine Tr.callV (L := [1, 2]) (t_addFour E _ (len + 4 + 4 + 4) q nm (c4F (c4F (c4F T (len) v1) (len + 4) v2) (len + 4 + 4) v3) v4 (by omega)) dX9_feed_49 (kX9_72 (Nat.le_of_ble_eq_true rfl)) iX4_addFour rfl rfl rfl rfl rfl rfl rfl rfl rfl rfl (Eq.refl 52) ?_
      refine Tr.pic (w' := xpC E ad r hb (len + 4 + 4 + 4 + 4) q nm (c4F (c4F (c4F (c4F T (len) v1) (len + 4) v2) (len + 4 + 4) v3) (len + 4 + 4 + 4) v4) S P L a kp W V X F) (putB_eq (Lc := [0, 3, 4, 5, 6, 7, 8, 9, 10, 11, 12, 13, 14, 15, 16, 17, 18, 19, 20, 21, 22, 23, 24, 25, 26]) 27 rfl rfl rfl rfl ⟨⟨_, rfl, rfl⟩, ⟨_, rfl, rfl⟩, ⟨_, rfl, rfl⟩, ⟨_, rfl, rfl⟩, ⟨_, rfl, rfl⟩, ⟨_, rfl, rfl⟩, ⟨_, rfl, rfl⟩, ⟨_, rfl, rfl⟩, ⟨_, rfl, rfl⟩, ⟨_, rfl, rfl⟩, ⟨_, rfl, rfl⟩, ⟨_, rfl, rfl⟩, ⟨_, rfl, rfl⟩, ⟨_, rfl, rfl⟩, ⟨_, rfl, rfl⟩, ⟨_, rfl, rfl⟩, ⟨_, rfl, rfl⟩, ⟨_, rfl, rfl⟩, ⟨_, rfl, rfl⟩, ⟨_, rfl, rfl⟩, ⟨_, rfl, rfl⟩, ⟨_, rfl, rfl⟩, ⟨_, rfl, rfl⟩, ⟨_, rfl, rfl⟩, ⟨_, rfl, rfl⟩, trivial⟩ (by decide) rfl) ?_
      refine Tr.aload_n (i := 0) dX9_feed_52 rfl rfl (Eq.refl 53) ?_
      refine Tr.getf dX9_feed_53 fX9_10 rfl rfl (Eq.refl 56) ?_
      refine Tr.iload dX9_feed_56 rfl (Eq.refl 58) ?_
      refine Tr.callV (L := [1, 2]) (t_addFour E _ (len + 4 + 4 + 4 + 4) q nm (c4F (c4F (c4F (c4F T (len) v1) (len + 4) v2) (len + 4 + 4) v3) (len + 4 + 4 + 4) v4) v5 (by omega)) dX9_feed_58 (kX9_72 (Nat.le_of_ble_eq_true rfl)) iX4_addFour rfl rfl rfl rfl rfl rfl rfl rfl rfl rfl (Eq.refl 61) ?_
      refine Tr.pic (w' := xpC E ad r hb (len + 4 + 4 + 4 + 4 + 4) q nm (c4F (c4F (c4F (c4F (c4F T (len) v1) (len + 4) v2) (len + 4 + 4) v3) (len + 4 + 4 + 4) v4) (len + 4 + 4 + 4 + 4) v5) S P L a kp W V X F) (putB_eq (Lc := [0, 3, 4, 5, 6, 7, 8, 9, 10, 11, 12, 13, 14, 15, 16, 17, 18, 19, 20, 21, 22, 23, 24, 25, 26]) 27 rfl rfl rfl rfl ⟨⟨_, rfl, rfl⟩, ⟨_, rfl, rfl⟩, ⟨_, rfl, rfl⟩, ⟨_, rfl, rfl⟩, ⟨_, rfl, rfl⟩, ⟨_, rfl, rfl⟩, ⟨_, rfl, rfl⟩, ⟨_, rfl, rfl⟩, ⟨_, rfl, rfl⟩, ⟨_, rfl, rfl⟩, ⟨_, rfl, rfl⟩, ⟨_, rfl, rfl⟩, ⟨_, rfl, rfl⟩, ⟨_, rfl, rfl⟩, ⟨_, rfl, rfl⟩, ⟨_, rfl, rfl⟩, ⟨_, rfl, rfl⟩, ⟨_, rfl, rfl⟩, ⟨_, rfl, rfl⟩, ⟨_, rfl, rfl⟩, ⟨_, rfl, rfl⟩, ⟨_, rfl, rfl⟩, ⟨_, rfl, rfl⟩, ⟨_, rfl, rfl⟩, ⟨_, rfl, rfl⟩, trivial⟩ (by decide) rfl) ?_
      refine Tr.aload_n (i := 0) dX9_feed_61 rfl rfl (Eq.refl 62) ?_
      refine Tr.getf dX9_feed_62 fX9_10 rfl rfl (Eq.refl 65) ?_
      refine Tr.getf dX9_feed_65 fX9_68 rfl rfl (Eq.refl 68) ?_
      refine Tr.iret dX9_feed_68 rfl (by first | rfl | exact bI_nar _) ?_ ?_
      · rfl
      · rfl
    · exact absurd h13 (by omega)
set_option maxHeartbeats 4000000 in
set_option maxRecDepth 100000 in
theorem x_end (E : EnvT) (ad r : Nat → Nat) (hb : Bool) (len : Nat) (q : Int32 × Int32 × Int32 × Int32) (nm : Int64) (T : Nat → Nat) (S : Scn) (P : Nat → Nat) (L : Nat → Int32) (a : Nat) (kp : Bool) (W : Nat → Nat) (V : Vil) (X : Vix) (F : Nat → Nat) (x : Int32) (hl : len ≤ 900) : Md E mX9_end ad [.ref (ad 0), .int x] (xpC E ad r hb len q nm T S P L a kp W V X F) (some (.int (if rgB x (nI 0) (nI len) then x else -1))) (xpC E ad r hb (if rgB x (nI 0) (nI len) then nN x else len) q nm T S P L a kp W V X F) := by
  by_cases hc : rgB x (nI 0) (nI len) = true
  · rw [if_pos hc, if_pos hc]
    obtain ⟨n, -, hn, rfl⟩ := rgB_n (by omega) (by omega) hc
    rw [nN_n (by omega)]
    refine Md.of 0 (by decide) rfl rfl ?_
    refine Tr.iload_n (i := 1) dX9_end_0 rfl rfl (Eq.refl 1) ?_
    refine Tr.if_lt (tgt := 15) dX9_end_1 (by decide) (Eq.refl 4) (fun h1 => ?_) (fun h1 => ?_)
    · exact absurd h1 (nI_nneg (by omega))
    · refine Tr.iload_n (i := 1) dX9_end_4 rfl rfl (Eq.refl 5) ?_
      refine Tr.aload_n (i := 0) dX9_end_5 rfl rfl (Eq.refl 6) ?_
      refine Tr.getf dX9_end_6 fX9_10 rfl rfl (Eq.refl 9) ?_
      refine Tr.getf dX9_end_9 fX9_68 rfl rfl (Eq.refl 12) ?_
      refine Tr.icmp_leN (tgt := 17) dX9_end_12 (by decide) (Eq.refl 15) (by omega) (by omega) (fun h12 => ?_) (fun h12 => ?_)
      · refine Tr.aload_n (i := 0) dX9_end_17 rfl rfl (Eq.refl 18) ?_
        refine Tr.getf dX9_end_18 fX9_10 rfl rfl (Eq.refl 21) ?_
        refine Tr.iload_n (i := 1) dX9_end_21 rfl rfl (Eq.refl 22) ?_
        refine Tr.putf dX9_end_22 pX9_68 rfl (rfl) (rfl) rfl (Eq.refl 25) ?_
        refine Tr.iload_n (i := 1) dX9_end_25 rfl rfl (Eq.refl 26) ?_
        refine Tr.iret dX9_end_26 rfl (by first | rfl | exact bI_nar _) ?_ ?_
        · rfl
        · rfl
      · exact absurd h12 (by omega)
  · rw [if_neg hc, if_neg hc]
    refine Md.of 0 (by decide) rfl rfl ?_
    refine Tr.iload_n (i := 1) dX9_end_0 rfl rfl (Eq.refl 1) ?_
    refine Tr.if_lt (tgt := 15) dX9_end_1 (by decide) (Eq.refl 4) (fun h1 => ?_) (fun h1 => ?_)
    · refine Tr.iconst (v := (-1)) dX9_end_15 (by decide +kernel) (Eq.refl 16) ?_
      refine Tr.iret dX9_end_16 rfl (by first | rfl | exact bI_nar _) ?_ ?_
      · rfl
      · rfl
    · refine Tr.iload_n (i := 1) dX9_end_4 rfl rfl (Eq.refl 5) ?_
      refine Tr.aload_n (i := 0) dX9_end_5 rfl rfl (Eq.refl 6) ?_
      refine Tr.getf dX9_end_6 fX9_10 rfl rfl (Eq.refl 9) ?_
      refine Tr.getf dX9_end_9 fX9_68 rfl rfl (Eq.refl 12) ?_
      refine Tr.icmp_leL (tgt := 17) dX9_end_12 (by decide) (Eq.refl 15) (fun h12 => ?_) (fun h12 => ?_)
      · exact absurd (rgB_t (a := nI 0) (b := nI len) h1 h12) hc
      · refine Tr.iconst (v := (-1)) dX9_end_15 (by decide +kernel) (Eq.refl 16) ?_
        refine Tr.iret dX9_end_16 rfl (by first | rfl | exact bI_nar _) ?_ ?_
        · rfl
        · rfl
set_option maxHeartbeats 4000000 in
set_option maxRecDepth 100000 in
theorem x_count (E : EnvT) (ad r : Nat → Nat) (hb : Bool) (len : Nat) (q : Int32 × Int32 × Int32 × Int32) (nm : Int64) (T : Nat → Nat) (S : Scn) (P : Nat → Nat) (L : Nat → Int32) (a : Nat) (kp : Bool) (W : Nat → Nat) (V : Vil) (X : Vix) (F : Nat → Nat) (x : Int32) : Md E mX9_count ad [.ref (ad 0), .int x] (xpC E ad r hb len q nm T S P L a kp W V X F) (some (.int (if x = nI 0 then X.1 else if x = nI 1 then nI (psS S) else if x = nI 2 then nI len else -1))) (xpC E ad r hb len q nm T S P L a kp W V X F) := by
  refine Md.of 0 (by decide) rfl rfl ?_
  refine Tr.iload_n (i := 1) dX9_count_0 rfl rfl (Eq.refl 1) ?_
  by_cases h1_0 : x = nI 0
  · refine Tr.tsIn (off := 27) (tgt := 28) dX9_count_1 (by rw [h1_0]; decide) (by rw [h1_0]; decide) (by rw [h1_0]; rfl) (by decide) ?_
    rw [if_pos h1_0]
    refine Tr.aload_n (i := 0) dX9_count_28 rfl rfl (Eq.refl 29) ?_
    refine Tr.getf dX9_count_29 fX9_28 rfl rfl (Eq.refl 32) ?_
    refine Tr.getf dX9_count_32 fX9_90 rfl rfl (Eq.refl 35) ?_
    refine Tr.iret dX9_count_35 rfl (by first | rfl | exact bI_nar _) ?_ ?_
    · rfl
    · rfl
  by_cases h1_1 : x = nI 1
  · refine Tr.tsIn (off := 35) (tgt := 36) dX9_count_1 (by rw [h1_1]; decide) (by rw [h1_1]; decide) (by rw [h1_1]; rfl) (by decide) ?_
    rw [if_neg h1_0, if_pos h1_1]
    refine Tr.aload_n (i := 0) dX9_count_36 rfl rfl (Eq.refl 37) ?_
    refine Tr.getf dX9_count_37 fX9_35 rfl rfl (Eq.refl 40) ?_
    refine Tr.getf dX9_count_40 fX9_175 rfl rfl (Eq.refl 43) ?_
    refine Tr.getf dX9_count_43 fX9_179 rfl rfl (Eq.refl 46) ?_
    refine Tr.iret dX9_count_46 rfl (by first | rfl | exact bI_nar _) ?_ ?_
    · rfl
    · rfl
  by_cases h1_2 : x = nI 2
  · refine Tr.tsIn (off := 46) (tgt := 47) dX9_count_1 (by rw [h1_2]; decide) (by rw [h1_2]; decide) (by rw [h1_2]; rfl) (by decide) ?_
    rw [if_neg h1_0, if_neg h1_1, if_pos h1_2]
    refine Tr.aload_n (i := 0) dX9_count_47 rfl rfl (Eq.refl 48) ?_
    refine Tr.getf dX9_count_48 fX9_10 rfl rfl (Eq.refl 51) ?_
    refine Tr.getf dX9_count_51 fX9_68 rfl rfl (Eq.refl 54) ?_
    refine Tr.iret dX9_count_54 rfl (by first | rfl | exact bI_nar _) ?_ ?_
    · rfl
    · rfl
  refine Tr.tsOut (tgt := 55) dX9_count_1 (by by_cases hA : (x).toInt < 0 ∨ 2 < (x).toInt; exact hA; exfalso; rcases (show (x).toInt = 0 ∨ (x).toInt = 1 ∨ (x).toInt = 2 by omega) with hB | hB | hB; exact h1_0 (sw_e (k := 0) (by decide) hB); exact h1_1 (sw_e (k := 1) (by decide) hB); exact h1_2 (sw_e (k := 2) (by decide) hB)) (by decide) ?_
  rw [if_neg h1_0, if_neg h1_1, if_neg h1_2]
  refine Tr.iconst (v := (-1)) dX9_count_55 (by decide +kernel) (Eq.refl 56) ?_
  refine Tr.iret dX9_count_56 rfl (by first | rfl | exact bI_nar _) ?_ ?_
  · rfl
  · rfl
def xfO (ad r : Nat → Nat) (hf : Int32) : va_E := .inr (9, [.ref (r 0), .ref (ad 1), .ref (r 2), .ref (r 3), .ref (r 4), .ref (r 5), .ref (r 6), .ref (r 7), .int hf])
set_option maxHeartbeats 4000000 in
set_option maxRecDepth 100000 in
theorem x_fault (E : EnvT) (ad r : Nat → Nat) (hf : Int32) (t1 t2 : Nat) (fk fa x : Int32) : Md E mX9_fault ad [.ref (ad 0), .int x] [xfO ad r hf, .inr (5, [.ref t1, .ref t2, .int fk, .int fa])] (some (.int (if x = nI 0 then fk else if x = nI 1 then fa else -1))) [xfO ad r hf, .inr (5, [.ref t1, .ref t2, .int fk, .int fa])] := by
  refine Md.of 0 (by decide) rfl rfl ?_
  refine Tr.iload_n (i := 1) dX9_fault_0 rfl rfl (Eq.refl 1) ?_
  by_cases h1_0 : x = nI 0
  · refine Tr.lsw (off := 27) (tgt := 28) dX9_fault_1 (by decide) (by rw [h1_0]; rfl) (by decide) ?_
    rw [if_pos h1_0]
    refine Tr.aload_n (i := 0) dX9_fault_28 rfl rfl (Eq.refl 29) ?_
    refine Tr.getf dX9_fault_29 fX9_21 rfl rfl (Eq.refl 32) ?_
    refine Tr.getf dX9_fault_32 fX9_93 rfl rfl (Eq.refl 35) ?_
    refine Tr.iret dX9_fault_35 rfl (by first | rfl | exact bI_nar _) ?_ ?_
    · rfl
    · rfl
  by_cases h1_1 : x = nI 1
  · refine Tr.lsw (off := 35) (tgt := 36) dX9_fault_1 (by decide) (by rw [h1_1]; rfl) (by decide) ?_
    rw [if_neg h1_0, if_pos h1_1]
    refine Tr.aload_n (i := 0) dX9_fault_36 rfl rfl (Eq.refl 37) ?_
    refine Tr.getf dX9_fault_37 fX9_21 rfl rfl (Eq.refl 40) ?_
    refine Tr.getf dX9_fault_40 fX9_96 rfl rfl (Eq.refl 43) ?_
    refine Tr.iret dX9_fault_43 rfl (by first | rfl | exact bI_nar _) ?_ ?_
    · rfl
    · rfl
  refine Tr.lsw (off := 43) (tgt := 44) dX9_fault_1 (by decide) (by show Op.lookupswitch.offset [(0, 27), (1, 35)] 43 _ = 43; rw [Op.lookupswitch.offset_cons, if_neg (show ¬ (0 : Int) = _ from sw_ne (k := 0) (by decide) h1_0), Op.lookupswitch.offset_cons, if_neg (show ¬ (1 : Int) = _ from sw_ne (k := 1) (by decide) h1_1)]; rfl) (by decide) ?_
  rw [if_neg h1_0, if_neg h1_1]
  refine Tr.iconst (v := (-1)) dX9_fault_44 (by decide +kernel) (Eq.refl 45) ?_
  refine Tr.iret dX9_fault_45 rfl (by first | rfl | exact bI_nar _) ?_ ?_
  · rfl
  · rfl
/-- from p so many turns on -/
def plB (F : Nat → Nat) (np p : Nat) : Nat → Nat
  | 0 => p
  | n + 1 => if plB F np p n < np then F (plB F np p n) else plB F np p n
theorem plB_lt {F : Nat → Nat} {np p : Nat} (hF : ∀ k, k < 5 → F k < 5) (hn : np ≤ 5) (hp : p < 5) : ∀ n, plB F np p n < 5 := by
  intro n
  induction n with
  | zero => exact hp
  | succ n ih =>
    unfold plB
    split
    · exact hF _ (by omega)
    · exact ih
set_option maxHeartbeats 4000000 in
set_option maxRecDepth 100000 in
theorem x_placeBehind (E : EnvT) (ad r : Nat → Nat) (hb : Bool) (len : Nat) (q : Int32 × Int32 × Int32 × Int32) (nm : Int64) (T : Nat → Nat) (S : Scn) (P : Nat → Nat) (L : Nat → Int32) (a : Nat) (kp : Bool) (W : Nat → Nat) (V : Vil) (X : Vix) (F : Nat → Nat) (p n : Nat) (hV : Vok V) (hF : ∀ k, k < 5 → F k < 5) (hp : p < 5) (hn : n < 2 ^ 31) : Md E mX9_placeBehind ad [.ref (ad 0), .int (nI p), .int (nI n)] (xpC E ad r hb len q nm T S P L a kp W V X F) (some (.int (nI (plB F (npV V) p n)))) (xpC E ad r hb len q nm T S P L a kp W V X F) := by
  have v2 := hV.2.1
  refine Md.of 2 (by decide) rfl rfl ?_
  refine Tr.iload_n (i := 1) dX9_placeBehind_0 rfl rfl (Eq.refl 1) ?_
  refine Tr.istore_n (i := 3) dX9_placeBehind_1 rfl rfl rfl (Eq.refl 2) ?_
  refine Tr.iconst (v := nI 0) dX9_placeBehind_2 (icN 0) (Eq.refl 3) ?_
  refine Tr.istore dX9_placeBehind_3 rfl rfl (Eq.refl 5) ?_
  refine Tr.mask [true, true, true, true, true] (lv' := [some (.ref (ad 0)), some (.int (nI p)), some (.int (nI n)), some (.int (nI (plB F (npV V) p 0))), some (.int (nI 0))]) rfl ?_
  refine loopD (P := fun j => Tr _ 0 0 5 [some (.ref (ad 0)), some (.int (nI p)), some (.int (nI n)), some (.int (nI (plB F (npV V) p j))), some (.int (nI j))] [] (xpC E ad r hb len q nm T S P L a kp W V X F)) n ?_ (fun j hj ih => ?_)
  · refine Tr.iload dX9_placeBehind_5 rfl (Eq.refl 7) ?_
    refine Tr.iload_n (i := 2) dX9_placeBehind_7 rfl rfl (Eq.refl 8) ?_
    refine Tr.icmp_geN (tgt := 32) dX9_placeBehind_8 (by decide) (Eq.refl 11) (by omega) (by omega) (fun h8 => ?_) (fun h8 => ?_)
    · refine Tr.iload_n (i := 3) dX9_placeBehind_32 rfl rfl (Eq.refl 33) ?_
      refine Tr.iret dX9_placeBehind_33 rfl (by first | rfl | exact bI_nar _) ?_ ?_
      · rfl
      · rfl
    · exact absurd h8 (by omega)
  · have hl := plB_lt (F := F) (np := npV V) hF v2 hp j
    have hu : plB F (npV V) p (j + 1) = if plB F (npV V) p j < npV V then F (plB F (npV V) p j) else plB F (npV V) p j := rfl
    rw [hu] at ih
    clear hu
    generalize plB F (npV V) p j = x at *
    have hx := ixB_i (k := x) (n := npV V) (by omega) (by omega)
    refine Tr.iload dX9_placeBehind_5 rfl (Eq.refl 7) ?_
    refine Tr.iload_n (i := 2) dX9_placeBehind_7 rfl rfl (Eq.refl 8) ?_
    refine Tr.icmp_geN (tgt := 32) dX9_placeBehind_8 (by decide) (Eq.refl 11) (by omega) (by omega) (fun h8 => ?_) (fun h8 => ?_)
    · exact absurd h8 (by omega)
    · refine Tr.aload_n (i := 0) dX9_placeBehind_11 rfl rfl (Eq.refl 12) ?_
      refine Tr.iload_n (i := 3) dX9_placeBehind_12 rfl rfl (Eq.refl 13) ?_
      refine Tr.callVr (L := [0, 15, 16, 17, 18, 19, 20, 21, 22, 23, 24, 25]) (x_isPerson E _ (rU ad r) (bI hb) V X (nI x)) dX9_placeBehind_13 (kX9_134 (Nat.le_of_ble_eq_true rfl)) iX9_isPerson rfl rfl rfl rfl rfl rfl rfl rfl rfl (Eq.refl 16) ?_
      refine Tr.if_eqB (tgt := 26) dX9_placeBehind_16 (by decide) (Eq.refl 19) (fun h16 => ?_) (fun h16 => ?_)
      · rw [hx] at h16
        rw [if_neg (of_decide_eq_false h16)] at ih
        refine Tr.iincN dX9_placeBehind_26 rfl rfl rfl (Eq.refl 29) ?_
        refine Tr.goto (pc' := 5) dX9_placeBehind_29 (by decide) ?_
        exact Tr.eqs rfl rfl rfl ih
      · rw [hx] at h16
        rw [if_pos (of_decide_eq_true h16)] at ih
        refine Tr.aload_n (i := 0) dX9_placeBehind_19 rfl rfl (Eq.refl 20) ?_
        refine Tr.getf dX9_placeBehind_20 fX9_57 rfl rfl (Eq.refl 23) ?_
        refine Tr.iload_n (i := 3) dX9_placeBehind_23 rfl rfl (Eq.refl 24) ?_
        refine Tr.ialdN dX9_placeBehind_24 rfl (by omega) (by decide) (Eq.refl 25) ?_
        refine Tr.istore_n (i := 3) dX9_placeBehind_25 rfl rfl rfl (Eq.refl 26) ?_
        refine Tr.iincN dX9_placeBehind_26 rfl rfl rfl (Eq.refl 29) ?_
        refine Tr.goto (pc' := 5) dX9_placeBehind_29 (by decide) ?_
        exact Tr.eqs rfl rfl rfl ih
set_option maxHeartbeats 4000000 in
set_option maxRecDepth 100000 in
theorem x_turned (E : EnvT) (ad r : Nat → Nat) (hb : Bool) (len : Nat) (q : Int32 × Int32 × Int32 × Int32) (nm : Int64) (T : Nat → Nat) (S : Scn) (P : Nat → Nat) (L : Nat → Int32) (a : Nat) (kp : Bool) (W : Nat → Nat) (V : Vil) (X : Vix) (F : Nat → Nat) (x y : Int32) (hV : Vok V) (hF : ∀ k, k < 5 → F k < 5) : Md E mX9_turned ad [.ref (ad 0), .int x, .int y] (xpC E ad r hb len q nm T S P L a kp W V X F) (some (.int (if (ixB x (npV V) && rgB y (nI 0) (nI 999)) then (if hb then nI (plB F (npV V) (nN x) (nN y)) else -1) else -2))) (xpC E ad r hb len q nm T S P L a kp W V X F) := by
  have v2 := hV.2.1
  by_cases hc : (ixB x (npV V) && rgB y (nI 0) (nI 999)) = true
  · rw [if_pos hc]
    have hc1 : ixB x (npV V) = true := (Bool.and_eq_true_iff.mp hc).1
    have hc2 : rgB y (nI 0) (nI 999) = true := (Bool.and_eq_true_iff.mp hc).2
    obtain ⟨p, hp, rfl⟩ := ixB_n v2 hc1
    obtain ⟨k, -, hk, rfl⟩ := rgB_n (by decide) (by decide) hc2
    rw [nN_n (show p < 2 ^ 31 by omega), nN_n (show k < 2 ^ 31 by omega)]
    refine Md.of 0 (by decide) rfl rfl ?_
    refine Tr.aload_n (i := 0) dX9_turned_0 rfl rfl (Eq.refl 1) ?_
    refine Tr.iload_n (i := 1) dX9_turned_1 rfl rfl (Eq.refl 2) ?_
    refine Tr.callVr (L := [0, 15, 16, 17, 18, 19, 20, 21, 22, 23, 24, 25]) (x_isPerson E _ (rU ad r) (bI hb) V X (nI p)) dX9_turned_2 (kX9_134 (Nat.le_of_ble_eq_true rfl)) iX9_isPerson rfl rfl rfl rfl rfl rfl rfl rfl rfl (Eq.refl 5) ?_
    refine Tr.if_eqB (tgt := 19) dX9_turned_5 (by decide) (Eq.refl 8) (fun h5 => ?_) (fun h5 => ?_)
    · exact absurd (hc1.symm.trans h5) (by decide)
    · refine Tr.iload_n (i := 2) dX9_turned_8 rfl rfl (Eq.refl 9) ?_
      refine Tr.if_lt (tgt := 19) dX9_turned_9 (by decide) (Eq.refl 12) (fun h9 => ?_) (fun h9 => ?_)
      · exact absurd h9 (nI_nneg (by omega))
      · refine Tr.iload_n (i := 2) dX9_turned_12 rfl rfl (Eq.refl 13) ?_
        refine Tr.sipush (v := nI 999) dX9_turned_13 (by decide +kernel) (Eq.refl 16) ?_
        refine Tr.icmp_leN (tgt := 22) dX9_turned_16 (by decide) (Eq.refl 19) (by omega) (by omega) (fun h16 => ?_) (fun h16 => ?_)
        · refine Tr.aload_n (i := 0) dX9_turned_22 rfl rfl (Eq.refl 23) ?_
          refine Tr.getf dX9_turned_23 fX9_87 rfl rfl (Eq.refl 26) ?_
          refine Tr.if_eqB (tgt := 38) dX9_turned_26 (by decide) (Eq.refl 29) (fun h26 => ?_) (fun h26 => ?_)
          · rw [if_neg (by rw [h26]; decide)]
            refine Tr.iconst (v := (-1)) dX9_turned_38 (by decide +kernel) (Eq.refl 39) ?_
            refine Tr.iret dX9_turned_39 rfl (by first | rfl | exact bI_nar _) ?_ ?_
            · rfl
            · rfl
          · rw [if_pos h26]
            refine Tr.aload_n (i := 0) dX9_turned_29 rfl rfl (Eq.refl 30) ?_
            refine Tr.iload_n (i := 1) dX9_turned_30 rfl rfl (Eq.refl 31) ?_
            refine Tr.iload_n (i := 2) dX9_turned_31 rfl rfl (Eq.refl 32) ?_
            refine Tr.callVs (x_placeBehind E ad r hb len q nm T S P L a kp W V X F p k hV hF (by omega) (by omega)) dX9_turned_32 (kX9_284 (Nat.le_of_ble_eq_true rfl)) iX9_placeBehind rfl rfl rfl rfl rfl (xp_le) rfl rfl (Eq.refl 35) ?_
            refine Tr.goto (pc' := 39) dX9_turned_35 (by decide) ?_
            refine Tr.iret dX9_turned_39 rfl (by first | rfl | exact bI_nar _) ?_ ?_
            · rfl
            · rfl
        · exact absurd h16 (by omega)
  · rw [if_neg hc]
    refine Md.of 0 (by decide) rfl rfl ?_
    refine Tr.aload_n (i := 0) dX9_turned_0 rfl rfl (Eq.refl 1) ?_
    refine Tr.iload_n (i := 1) dX9_turned_1 rfl rfl (Eq.refl 2) ?_
    refine Tr.callVr (L := [0, 15, 16, 17, 18, 19, 20, 21, 22, 23, 24, 25]) (x_isPerson E _ (rU ad r) (bI hb) V X x) dX9_turned_2 (kX9_134 (Nat.le_of_ble_eq_true rfl)) iX9_isPerson rfl rfl rfl rfl rfl rfl rfl rfl rfl (Eq.refl 5) ?_
    refine Tr.if_eqB (tgt := 19) dX9_turned_5 (by decide) (Eq.refl 8) (fun h5 => ?_) (fun h5 => ?_)
    · refine Tr.bipush (v := (-2)) dX9_turned_19 (by decide +kernel) (Eq.refl 21) ?_
      refine Tr.iret dX9_turned_21 rfl (by first | rfl | exact bI_nar _) ?_ ?_
      · rfl
      · rfl
    · refine Tr.iload_n (i := 2) dX9_turned_8 rfl rfl (Eq.refl 9) ?_
      refine Tr.if_lt (tgt := 19) dX9_turned_9 (by decide) (Eq.refl 12) (fun h9 => ?_) (fun h9 => ?_)
      · refine Tr.bipush (v := (-2)) dX9_turned_19 (by decide +kernel) (Eq.refl 21) ?_
        refine Tr.iret dX9_turned_21 rfl (by first | rfl | exact bI_nar _) ?_ ?_
        · rfl
        · rfl
      · refine Tr.iload_n (i := 2) dX9_turned_12 rfl rfl (Eq.refl 13) ?_
        refine Tr.sipush (v := nI 999) dX9_turned_13 (by decide +kernel) (Eq.refl 16) ?_
        refine Tr.icmp_leL (tgt := 22) dX9_turned_16 (by decide) (Eq.refl 19) (fun h16 => ?_) (fun h16 => ?_)
        · exact absurd (by rw [h5, rgB_t (a := nI 0) (b := nI 999) h9 h16]; rfl) hc
        · refine Tr.bipush (v := (-2)) dX9_turned_19 (by decide +kernel) (Eq.refl 21) ?_
          refine Tr.iret dX9_turned_21 rfl (by first | rfl | exact bI_nar _) ?_ ?_
          · rfl
          · rfl
/-- a person's sign on the tape -/
def sgI (T : Nat → Nat) (k : Nat) : Int32 := nI (T k) - nI 48
def bxI (s x : Int32) : Bool := decide ((s >>> (x &&& 31)) &&& nI 1 = nI 1)
def ftS (np : Nat) (T : Nat → Nat) (k : Nat) (s : Int32) : Bool × Int32 := if ixB (sgI T k) np && !bxI s (sgI T k) then (true, s ||| (nI 1 <<< (sgI T k &&& 31))) else (false, s)
def ftB (np len : Nat) (T : Nat → Nat) : Bool := decide (len = np) && (itB (ftS np T) (nI 0) np).1
set_option maxHeartbeats 4000000 in
set_option maxRecDepth 100000 in
theorem x_isFeastOnTape (E : EnvT) (ad r : Nat → Nat) (hb : Bool) (len : Nat) (q : Int32 × Int32 × Int32 × Int32) (nm : Int64) (T : Nat → Nat) (S : Scn) (P : Nat → Nat) (L : Nat → Int32) (a : Nat) (kp : Bool) (W : Nat → Nat) (V : Vil) (X : Vix) (F : Nat → Nat) (hV : Vok V) (hl : len ≤ 900) : Md E mX9_isFeastOnTape ad [.ref (ad 0)] (xpC E ad r hb len q nm T S P L a kp W V X F) (some (.int (bI (ftB (npV V) len T)))) (xpC E ad r hb len q nm T S P L a kp W V X F) := by
  have v2 := hV.2.1
  unfold ftB
  by_cases he : len = npV V
  · rw [decide_eq_true he, Bool.true_and]
    generalize hR : (itB (ftS (npV V) T) (nI 0) (npV V)) = R
    refine Md.of 3 (by decide) rfl rfl ?_
    refine Tr.aload_n (i := 0) dX9_isFeastOnTape_0 rfl rfl (Eq.refl 1) ?_
    refine Tr.getf dX9_isFeastOnTape_1 fX9_10 rfl rfl (Eq.refl 4) ?_
    refine Tr.getf dX9_isFeastOnTape_4 fX9_68 rfl rfl (Eq.refl 7) ?_
    refine Tr.aload_n (i := 0) dX9_isFeastOnTape_7 rfl rfl (Eq.refl 8) ?_
    refine Tr.getf dX9_isFeastOnTape_8 fX9_28 rfl rfl (Eq.refl 11) ?_
    refine Tr.getf dX9_isFeastOnTape_11 fX9_102 rfl rfl (Eq.refl 14) ?_
    refine Tr.icmp_eqN (tgt := 19) dX9_isFeastOnTape_14 (by decide) (Eq.refl 17) (by omega) (by omega) (fun h14 => ?_) (fun h14 => ?_)
    · skip
      refine Tr.iconst (v := nI 0) dX9_isFeastOnTape_19 (icN 0) (Eq.refl 20) ?_
      refine Tr.istore_n (i := 1) dX9_isFeastOnTape_20 rfl rfl rfl (Eq.refl 21) ?_
      refine Tr.iconst (v := nI 0) dX9_isFeastOnTape_21 (icN 0) (Eq.refl 22) ?_
      refine Tr.istore_n (i := 2) dX9_isFeastOnTape_22 rfl rfl rfl (Eq.refl 23) ?_
      skip
      refine Tr.mask [true, true, true, true] (lv' := [some (.ref (ad 0)), some (.int (itB (ftS (npV V) T) (nI 0) 0).2), some (.int (nI 0)), none]) rfl ?_
      refine loopD (P := fun j => (itB (ftS (npV V) T) (nI 0) j).1 = true → Tr _ 0 0 23 [some (.ref (ad 0)), some (.int (itB (ftS (npV V) T) (nI 0) j).2), some (.int (nI j)), none] [] (xpC E ad r hb len q nm T S P L a kp W V X F)) (npV V) (fun hn => ?_) (fun j hj ih hn => ?_) rfl
      · rw [hR] at hn
        refine Tr.iload_n (i := 2) dX9_isFeastOnTape_23 rfl rfl (Eq.refl 24) ?_
        refine Tr.aload_n (i := 0) dX9_isFeastOnTape_24 rfl rfl (Eq.refl 25) ?_
        refine Tr.getf dX9_isFeastOnTape_25 fX9_28 rfl rfl (Eq.refl 28) ?_
        refine Tr.getf dX9_isFeastOnTape_28 fX9_102 rfl rfl (Eq.refl 31) ?_
        refine Tr.icmp_geN (tgt := 77) dX9_isFeastOnTape_31 (by decide) (Eq.refl 34) (by omega) (by omega) (fun h31 => ?_) (fun h31 => ?_)
        · refine Tr.iconst (v := nI 1) dX9_isFeastOnTape_77 (icN 1) (Eq.refl 78) ?_
          refine Tr.iret dX9_isFeastOnTape_78 rfl (by first | rfl | exact bI_nar _) ?_ ?_
          · rw [hn]; rfl
          · rfl
        · exact absurd h31 (by omega)
      · have hs := itB_s hn
        have hf : (itB (ftS (npV V) T) (nI 0) (j + 1)).1 = false → R = (itB (ftS (npV V) T) (nI 0) (j + 1)) := fun z9 => by rw [← hR]; exact itB_fr (Nat.succ_le_of_lt hj) z9
        rw [hs] at ih hf
        clear hs
        generalize (itB (ftS (npV V) T) (nI 0) j).2 = s at *
        have hu : ftS (npV V) T j s = if ixB (sgI T j) (npV V) && !bxI s (sgI T j) then (true, s ||| (nI 1 <<< (sgI T j &&& 31))) else (false, s) := rfl
        rw [hu] at ih hf
        clear hu
        have hb9 : byA len T j = nI (T j) := if_pos (by omega)
        refine Tr.iload_n (i := 2) dX9_isFeastOnTape_23 rfl rfl (Eq.refl 24) ?_
        refine Tr.aload_n (i := 0) dX9_isFeastOnTape_24 rfl rfl (Eq.refl 25) ?_
        refine Tr.getf dX9_isFeastOnTape_25 fX9_28 rfl rfl (Eq.refl 28) ?_
        refine Tr.getf dX9_isFeastOnTape_28 fX9_102 rfl rfl (Eq.refl 31) ?_
        refine Tr.icmp_geN (tgt := 77) dX9_isFeastOnTape_31 (by decide) (Eq.refl 34) (by omega) (by omega) (fun h31 => ?_) (fun h31 => ?_)
        · exact absurd h31 (by omega)
        · refine Tr.aload_n (i := 0) dX9_isFeastOnTape_34 rfl rfl (Eq.refl 35) ?_
          refine Tr.getf dX9_isFeastOnTape_35 fX9_10 rfl rfl (Eq.refl 38) ?_
          refine Tr.iload_n (i := 2) dX9_isFeastOnTape_38 rfl rfl (Eq.refl 39) ?_
          refine Tr.callVr (L := [1, 2]) (t_byteAt E _ len q nm T j hl (by omega)) dX9_isFeastOnTape_39 (kX9_154 (Nat.le_of_ble_eq_true rfl)) iX4_byteAt rfl rfl rfl rfl rfl rfl rfl rfl rfl (Eq.refl 42) ?_
          rw [hb9]
          refine Tr.bipush (v := nI 48) dX9_isFeastOnTape_42 (by decide +kernel) (Eq.refl 44) ?_
          refine Tr.isub dX9_isFeastOnTape_44 (Eq.refl 45) ?_
          refine Tr.top (y := sgI T j) rfl ?_
          refine Tr.istore_n (i := 3) dX9_isFeastOnTape_45 rfl rfl rfl (Eq.refl 46) ?_
          refine Tr.aload_n (i := 0) dX9_isFeastOnTape_46 rfl rfl (Eq.refl 47) ?_
          refine Tr.iload_n (i := 3) dX9_isFeastOnTape_47 rfl rfl (Eq.refl 48) ?_
          refine Tr.callVr (L := [0, 15, 16, 17, 18, 19, 20, 21, 22, 23, 24, 25]) (x_isPerson E _ (rU ad r) (bI hb) V X (sgI T j)) dX9_isFeastOnTape_48 (kX9_134 (Nat.le_of_ble_eq_true rfl)) iX9_isPerson rfl rfl rfl rfl rfl rfl rfl rfl rfl (Eq.refl 51) ?_
          refine Tr.if_eqB (tgt := 63) dX9_isFeastOnTape_51 (by decide) (Eq.refl 54) (fun h51 => ?_) (fun h51 => ?_)
          · rw [if_neg (by rw [h51]; simp)] at hf
            refine Tr.iconst (v := nI 0) dX9_isFeastOnTape_63 (icN 0) (Eq.refl 64) ?_
            refine Tr.iret dX9_isFeastOnTape_64 rfl (by first | rfl | exact bI_nar _) ?_ ?_
            · rw [hf rfl]; rfl
            · rfl
          · refine Tr.iload_n (i := 1) dX9_isFeastOnTape_54 rfl rfl (Eq.refl 55) ?_
            refine Tr.iload_n (i := 3) dX9_isFeastOnTape_55 rfl rfl (Eq.refl 56) ?_
            refine Tr.ishr dX9_isFeastOnTape_56 (Eq.refl 57) ?_
            refine Tr.iconst (v := nI 1) dX9_isFeastOnTape_57 (icN 1) (Eq.refl 58) ?_
            refine Tr.iand dX9_isFeastOnTape_58 (Eq.refl 59) ?_
            refine Tr.iconst (v := nI 1) dX9_isFeastOnTape_59 (icN 1) (Eq.refl 60) ?_
            refine Tr.icmp_ne (tgt := 65) dX9_isFeastOnTape_60 (by decide) (Eq.refl 63) (fun h60 => ?_) (fun h60 => ?_)
            · have h60b : bxI s (sgI T j) = false := decide_eq_false h60
              rw [if_pos (by rw [h51, h60b]; rfl)] at ih
              refine Tr.iload_n (i := 1) dX9_isFeastOnTape_65 rfl rfl (Eq.refl 66) ?_
              refine Tr.iconst (v := nI 1) dX9_isFeastOnTape_66 (icN 1) (Eq.refl 67) ?_
              refine Tr.iload_n (i := 3) dX9_isFeastOnTape_67 rfl rfl (Eq.refl 68) ?_
              refine Tr.ishl dX9_isFeastOnTape_68 (Eq.refl 69) ?_
              refine Tr.ior dX9_isFeastOnTape_69 (Eq.refl 70) ?_
              refine Tr.istore_n (i := 1) dX9_isFeastOnTape_70 rfl rfl rfl (Eq.refl 71) ?_
              refine Tr.iincN dX9_isFeastOnTape_71 rfl rfl rfl (Eq.refl 74) ?_
              refine Tr.goto (pc' := 23) dX9_isFeastOnTape_74 (by decide) ?_
              exact Tr.mask [true, true, true, false] rfl (ih rfl)
            · have h60b : bxI s (sgI T j) = true := decide_eq_true h60
              rw [if_neg (by rw [h51, h60b]; simp)] at hf
              refine Tr.iconst (v := nI 0) dX9_isFeastOnTape_63 (icN 0) (Eq.refl 64) ?_
              refine Tr.iret dX9_isFeastOnTape_64 rfl (by first | rfl | exact bI_nar _) ?_ ?_
              · rw [hf rfl]; rfl
              · rfl
    · exact absurd he h14
  · rw [decide_eq_false he, Bool.false_and]
    refine Md.of 3 (by decide) rfl rfl ?_
    refine Tr.aload_n (i := 0) dX9_isFeastOnTape_0 rfl rfl (Eq.refl 1) ?_
    refine Tr.getf dX9_isFeastOnTape_1 fX9_10 rfl rfl (Eq.refl 4) ?_
    refine Tr.getf dX9_isFeastOnTape_4 fX9_68 rfl rfl (Eq.refl 7) ?_
    refine Tr.aload_n (i := 0) dX9_isFeastOnTape_7 rfl rfl (Eq.refl 8) ?_
    refine Tr.getf dX9_isFeastOnTape_8 fX9_28 rfl rfl (Eq.refl 11) ?_
    refine Tr.getf dX9_isFeastOnTape_11 fX9_102 rfl rfl (Eq.refl 14) ?_
    refine Tr.icmp_eqN (tgt := 19) dX9_isFeastOnTape_14 (by decide) (Eq.refl 17) (by omega) (by omega) (fun h14 => ?_) (fun h14 => ?_)
    · exact absurd h14 he
    · refine Tr.iconst (v := nI 0) dX9_isFeastOnTape_17 (icN 0) (Eq.refl 18) ?_
      refine Tr.iret dX9_isFeastOnTape_18 rfl (by first | rfl | exact bI_nar _) ?_ ?_
      · rfl
      · rfl
/-- all are home behind so many turns: the first so many -/
def ahS (F : Nat → Nat) (np t : Nat) : Nat → Bool
  | 0 => true
  | p + 1 => ahS F np t p && decide (plB F np p t = p)
def feN (F : Nat → Nat) (np : Nat) : Nat → Nat → Int32
  | 0, _ => -1
  | n + 1, t => if ahS F np t np then nI t else feN F np n (t + 1)
set_option maxHeartbeats 4000000 in
set_option maxRecDepth 100000 in
theorem x_feastEnd_loop (E : EnvT) (ad r : Nat → Nat) (hb : Bool) (len : Nat) (q : Int32 × Int32 × Int32 × Int32) (nm : Int64) (T : Nat → Nat) (S : Scn) (P : Nat → Nat) (L : Nat → Int32) (a : Nat) (kp : Bool) (W : Nat → Nat) (V : Vil) (X : Vix) (F : Nat → Nat) (hV : Vok V) (hF : ∀ k, k < 5 → F k < 5) : ∀ (n t : Nat), t + n = 120 → Tr (E, mX9_feastEnd, ad, some (.int (feN F (npV V) n t)), (xpC E ad r hb len q nm T S P L a kp W V X F)) 0 0 2 [some (.ref (ad 0)), some (.int (nI t)), none, none] [] (xpC E ad r hb len q nm T S P L a kp W V X F) := by
  have v2 := hV.2.1
  intro n
  induction n with
  | zero =>
    intro t htn
    refine Tr.iload_n (i := 1) dX9_feastEnd_2 rfl rfl (Eq.refl 3) ?_
    refine Tr.bipush (v := nI 120) dX9_feastEnd_3 (by decide +kernel) (Eq.refl 5) ?_
    refine Tr.icmp_geN (tgt := 61) dX9_feastEnd_5 (by decide) (Eq.refl 8) (by omega) (by omega) (fun h5 => ?_) (fun h5 => ?_)
    · refine Tr.iconst (v := (-1)) dX9_feastEnd_61 (by decide +kernel) (Eq.refl 62) ?_
      refine Tr.iret dX9_feastEnd_62 rfl (by first | rfl | exact bI_nar _) ?_ ?_
      · rfl
      · rfl
    · exact absurd h5 (by omega)
  | succ n ih =>
    intro t htn
    have hu : feN F (npV V) (n + 1) t = if ahS F (npV V) t (npV V) then nI t else feN F (npV V) n (t + 1) := rfl
    rw [hu]
    clear hu
    refine Tr.iload_n (i := 1) dX9_feastEnd_2 rfl rfl (Eq.refl 3) ?_
    refine Tr.bipush (v := nI 120) dX9_feastEnd_3 (by decide +kernel) (Eq.refl 5) ?_
    refine Tr.icmp_geN (tgt := 61) dX9_feastEnd_5 (by decide) (Eq.refl 8) (by omega) (by omega) (fun h5 => ?_) (fun h5 => ?_)
    · exact absurd h5 (by omega)
    · refine Tr.iconst (v := nI 1) dX9_feastEnd_8 (icN 1) (Eq.refl 9) ?_
      refine Tr.istore_n (i := 2) dX9_feastEnd_9 rfl rfl rfl (Eq.refl 10) ?_
      refine Tr.iconst (v := nI 0) dX9_feastEnd_10 (icN 0) (Eq.refl 11) ?_
      refine Tr.istore_n (i := 3) dX9_feastEnd_11 rfl rfl rfl (Eq.refl 12) ?_
      skip
      refine Tr.mask [true, true, true, true] (lv' := [some (.ref (ad 0)), some (.int (nI t)), some (.int (bI (ahS F (npV V) t 0))), some (.int (nI 0))]) rfl ?_
      refine loopD (P := fun p => Tr _ 0 0 12 [some (.ref (ad 0)), some (.int (nI t)), some (.int (bI (ahS F (npV V) t p))), some (.int (nI p))] [] (xpC E ad r hb len q nm T S P L a kp W V X F)) (npV V) ?_ (fun p hp ih2 => ?_)
      · refine Tr.iload_n (i := 3) dX9_feastEnd_12 rfl rfl (Eq.refl 13) ?_
        refine Tr.aload_n (i := 0) dX9_feastEnd_13 rfl rfl (Eq.refl 14) ?_
        refine Tr.getf dX9_feastEnd_14 fX9_28 rfl rfl (Eq.refl 17) ?_
        refine Tr.getf dX9_feastEnd_17 fX9_102 rfl rfl (Eq.refl 20) ?_
        refine Tr.icmp_geN (tgt := 49) dX9_feastEnd_20 (by decide) (Eq.refl 23) (by omega) (by omega) (fun h20 => ?_) (fun h20 => ?_)
        · refine Tr.iload_n (i := 2) dX9_feastEnd_49 rfl rfl (Eq.refl 50) ?_
          refine Tr.if_eqB (tgt := 55) dX9_feastEnd_50 (by decide) (Eq.refl 53) (fun h50 => ?_) (fun h50 => ?_)
          · rw [if_neg (by rw [h50]; decide)]
            refine Tr.iincN dX9_feastEnd_55 rfl rfl rfl (Eq.refl 58) ?_
            refine Tr.goto (pc' := 2) dX9_feastEnd_58 (by decide) ?_
            exact Tr.mask [true, true, false, false] rfl (ih (t + 1) (by omega))
          · rw [if_pos h50]
            refine Tr.iload_n (i := 1) dX9_feastEnd_53 rfl rfl (Eq.refl 54) ?_
            refine Tr.iret dX9_feastEnd_54 rfl (by first | rfl | exact bI_nar _) ?_ ?_
            · rfl
            · rfl
        · exact absurd h20 (by omega)
      · have hl := plB_lt (F := F) (np := npV V) hF v2 (show p < 5 by omega) t
        have hu : ahS F (npV V) t (p + 1) = (ahS F (npV V) t p && decide (plB F (npV V) p t = p)) := rfl
        rw [hu] at ih2
        clear hu
        refine Tr.iload_n (i := 3) dX9_feastEnd_12 rfl rfl (Eq.refl 13) ?_
        refine Tr.aload_n (i := 0) dX9_feastEnd_13 rfl rfl (Eq.refl 14) ?_
        refine Tr.getf dX9_feastEnd_14 fX9_28 rfl rfl (Eq.refl 17) ?_
        refine Tr.getf dX9_feastEnd_17 fX9_102 rfl rfl (Eq.refl 20) ?_
        refine Tr.icmp_geN (tgt := 49) dX9_feastEnd_20 (by decide) (Eq.refl 23) (by omega) (by omega) (fun h20 => ?_) (fun h20 => ?_)
        · exact absurd h20 (by omega)
        · refine Tr.iload_n (i := 2) dX9_feastEnd_23 rfl rfl (Eq.refl 24) ?_
          refine Tr.if_eqB (tgt := 41) dX9_feastEnd_24 (by decide) (Eq.refl 27) (fun h24 => ?_) (fun h24 => ?_)
          · rw [h24, Bool.false_and] at ih2
            refine Tr.iconst (v := nI 0) dX9_feastEnd_41 (icN 0) (Eq.refl 42) ?_
            refine Tr.istore_n (i := 2) dX9_feastEnd_42 rfl rfl rfl (Eq.refl 43) ?_
            refine Tr.iincN dX9_feastEnd_43 rfl rfl rfl (Eq.refl 46) ?_
            refine Tr.goto (pc' := 12) dX9_feastEnd_46 (by decide) ?_
            exact Tr.eqs rfl rfl rfl ih2
          · refine Tr.aload_n (i := 0) dX9_feastEnd_27 rfl rfl (Eq.refl 28) ?_
            refine Tr.iload_n (i := 3) dX9_feastEnd_28 rfl rfl (Eq.refl 29) ?_
            refine Tr.iload_n (i := 1) dX9_feastEnd_29 rfl rfl (Eq.refl 30) ?_
            refine Tr.callVs (x_placeBehind E ad r hb len q nm T S P L a kp W V X F p t hV hF (by omega) (by omega)) dX9_feastEnd_30 (kX9_284 (Nat.le_of_ble_eq_true rfl)) iX9_placeBehind rfl rfl rfl rfl rfl (xp_le) rfl rfl (Eq.refl 33) ?_
            refine Tr.iload_n (i := 3) dX9_feastEnd_33 rfl rfl (Eq.refl 34) ?_
            refine Tr.icmp_neN (tgt := 41) dX9_feastEnd_34 (by decide) (Eq.refl 37) (by omega) (by omega) (fun h34 => ?_) (fun h34 => ?_)
            · rw [decide_eq_false h34, Bool.and_false] at ih2
              refine Tr.iconst (v := nI 0) dX9_feastEnd_41 (icN 0) (Eq.refl 42) ?_
              refine Tr.istore_n (i := 2) dX9_feastEnd_42 rfl rfl rfl (Eq.refl 43) ?_
              refine Tr.iincN dX9_feastEnd_43 rfl rfl rfl (Eq.refl 46) ?_
              refine Tr.goto (pc' := 12) dX9_feastEnd_46 (by decide) ?_
              exact Tr.eqs rfl rfl rfl ih2
            · rw [h24, decide_eq_true h34] at ih2
              refine Tr.iconst (v := nI 1) dX9_feastEnd_37 (icN 1) (Eq.refl 38) ?_
              refine Tr.goto (pc' := 42) dX9_feastEnd_38 (by decide) ?_
              refine Tr.istore_n (i := 2) dX9_feastEnd_42 rfl rfl rfl (Eq.refl 43) ?_
              refine Tr.iincN dX9_feastEnd_43 rfl rfl rfl (Eq.refl 46) ?_
              refine Tr.goto (pc' := 12) dX9_feastEnd_46 (by decide) ?_
              exact Tr.eqs rfl rfl rfl ih2
set_option maxHeartbeats 4000000 in
set_option maxRecDepth 100000 in
theorem x_feastEnd (E : EnvT) (ad r : Nat → Nat) (hb : Bool) (len : Nat) (q : Int32 × Int32 × Int32 × Int32) (nm : Int64) (T : Nat → Nat) (S : Scn) (P : Nat → Nat) (L : Nat → Int32) (a : Nat) (kp : Bool) (W : Nat → Nat) (V : Vil) (X : Vix) (F : Nat → Nat) (hV : Vok V) (hF : ∀ k, k < 5 → F k < 5) : Md E mX9_feastEnd ad [.ref (ad 0)] (xpC E ad r hb len q nm T S P L a kp W V X F) (some (.int (feN F (npV V) 119 1))) (xpC E ad r hb len q nm T S P L a kp W V X F) := by
  have hL := x_feastEnd_loop E ad r hb len q nm T S P L a kp W V X F hV hF 119 1 rfl
  generalize feN F (npV V) 119 1 = A9 at *
  refine Md.of 3 (by decide) rfl rfl ?_
  refine Tr.iconst (v := nI 1) dX9_feastEnd_0 (icN 1) (Eq.refl 1) ?_
  refine Tr.istore_n (i := 1) dX9_feastEnd_1 rfl rfl rfl (Eq.refl 2) ?_
  exact Tr.mask [true, true, true, true] rfl hL
/-- a feast's row out of the tape -/
def frW (T : Nat → Nat) (F : Nat → Nat) : Nat → Nat → Nat
  | 0 => F
  | p + 1 => upN (frW T F p) p (nN (sgI T p))
theorem ft_ix {np : Nat} {T : Nat → Nat} {s0 : Int32} : ∀ n, (itB (ftS np T) s0 n).1 = true → ∀ k, k < n → ixB (sgI T k) np = true := by
  intro n
  induction n with
  | zero => intro _ k hk; omega
  | succ n ih =>
    intro h k hk
    by_cases h2 : (itB (ftS np T) s0 n).1 = true
    · by_cases e : k = n
      · subst e
        rw [itB_s h2] at h
        generalize (itB (ftS np T) s0 k).2 = s at h
        by_cases h3 : (ixB (sgI T k) np && !bxI s (sgI T k)) = true
        · exact (Bool.and_eq_true_iff.mp h3).1
        · have h4 : ftS np T k s = (false, s) := if_neg h3
          rw [h4] at h
          exact absurd h Bool.false_ne_true
      · exact ih h2 k (by omega)
    · exact absurd h (by rw [itB_fr (Nat.le_succ n) (bnt h2)]; exact h2)
theorem frW_lt {T F : Nat → Nat} {np : Nat} (hn : np ≤ 5) (hF : ∀ k, k < 5 → F k < 5) (hx : ∀ k, k < np → ixB (sgI T k) np = true) : ∀ n, n ≤ np → ∀ k, k < 5 → frW T F n k < 5 := by
  intro n
  induction n with
  | zero => intro _; exact hF
  | succ n ih =>
    intro hnn k hk
    show upN (frW T F n) n _ k < 5
    by_cases e : k = n
    · rw [e, upN_self]
      obtain ⟨j, hj, hjx⟩ := ixB_n hn (hx n (by omega))
      rw [hjx, nN_n (by omega)]
      omega
    · rw [upN_ne _ _ e]; exact ih (by omega) k hk
set_option maxHeartbeats 4000000 in
set_option maxRecDepth 100000 in
theorem x_feast (E : EnvT) (ad r : Nat → Nat) (hb : Bool) (len : Nat) (q : Int32 × Int32 × Int32 × Int32) (nm : Int64) (T : Nat → Nat) (S : Scn) (P : Nat → Nat) (L : Nat → Int32) (a : Nat) (kp : Bool) (W : Nat → Nat) (V : Vil) (X : Vix) (F : Nat → Nat) (hV : Vok V) (hl : len ≤ 900) (hF : ∀ k, k < 5 → F k < 5) : Md E mX9_feast ad [.ref (ad 0)] (xpC E ad r hb len q nm T S P L a kp W V X F) (some (.int (if (ftB (npV V) len T) then feN (frW T F (npV V)) (npV V) 119 1 else -1))) (xpC E ad r (if (ftB (npV V) len T) then true else hb) 0 q nm T S P L a kp W V X (if (ftB (npV V) len T) then frW T F (npV V) else F)) := by
  have v2 := hV.2.1
  by_cases hc : (ftB (npV V) len T) = true
  · rw [if_pos hc, if_pos hc, if_pos hc]
    have hc0 := Bool.and_eq_true_iff.mp hc
    have hlen : len = npV V := of_decide_eq_true hc0.1
    have hix := ft_ix (npV V) hc0.2
    have hF2 := frW_lt v2 hF hix (npV V) (Nat.le_refl _)
    have hE := x_feastEnd E ad r true 0 q nm T S P L a kp W V X (frW T F (npV V)) hV hF2
    generalize feN (frW T F (npV V)) (npV V) 119 1 = A9 at *
    refine Md.of 2 (by decide) rfl rfl ?_
    refine Tr.aload_n (i := 0) dX9_feast_0 rfl rfl (Eq.refl 1) ?_
    refine Tr.callVs (x_isFeastOnTape E ad r hb len q nm T S P L a kp W V X F hV hl) dX9_feast_1 (kX9_278 (Nat.le_of_ble_eq_true rfl)) iX9_isFeastOnTape rfl rfl rfl rfl rfl (xp_le) rfl rfl (Eq.refl 4) ?_
    refine Tr.istore_n (i := 1) dX9_feast_4 rfl rfl rfl (Eq.refl 5) ?_
    refine Tr.iload_n (i := 1) dX9_feast_5 rfl rfl (Eq.refl 6) ?_
    refine Tr.if_eqB (tgt := 50) dX9_feast_6 (by decide) (Eq.refl 9) (fun h6 => ?_) (fun h6 => ?_)
    · exact absurd (hc.symm.trans h6) (by decide)
    · refine Tr.aload_n (i := 0) dX9_feast_9 rfl rfl (Eq.refl 10) ?_
      refine Tr.iconst (v := nI 1) dX9_feast_10 (icN 1) (Eq.refl 11) ?_
      refine Tr.putf dX9_feast_11 pX9_87 rfl (rfl) (rfl) rfl (Eq.refl 14) ?_
      refine Tr.iconst (v := nI 0) dX9_feast_14 (icN 0) (Eq.refl 15) ?_
      refine Tr.istore_n (i := 2) dX9_feast_15 rfl rfl rfl (Eq.refl 16) ?_
      skip
      refine Tr.mask [true, true, true] (lv' := [some (.ref (ad 0)), some (.int (bI (ftB (npV V) len T))), some (.int (nI 0))]) rfl ?_
      refine Tr.pic (w' := (xpC E ad r true len q nm T S P L a kp W V X (frW T F 0))) rfl ?_
      refine loopD (P := fun j => Tr _ 0 0 16 [some (.ref (ad 0)), some (.int (bI (ftB (npV V) len T))), some (.int (nI j))] [] (xpC E ad r true len q nm T S P L a kp W V X (frW T F j))) (npV V) ?_ (fun j hj ih => ?_)
      · refine Tr.iload_n (i := 2) dX9_feast_16 rfl rfl (Eq.refl 17) ?_
        refine Tr.aload_n (i := 0) dX9_feast_17 rfl rfl (Eq.refl 18) ?_
        refine Tr.getf dX9_feast_18 fX9_28 rfl rfl (Eq.refl 21) ?_
        refine Tr.getf dX9_feast_21 fX9_102 rfl rfl (Eq.refl 24) ?_
        refine Tr.icmp_geN (tgt := 50) dX9_feast_24 (by decide) (Eq.refl 27) (by omega) (by omega) (fun h24 => ?_) (fun h24 => ?_)
        · refine Tr.aload_n (i := 0) dX9_feast_50 rfl rfl (Eq.refl 51) ?_
          refine Tr.getf dX9_feast_51 fX9_10 rfl rfl (Eq.refl 54) ?_
          refine Tr.iconst (v := nI 0) dX9_feast_54 (icN 0) (Eq.refl 55) ?_
          refine Tr.putf dX9_feast_55 pX9_68 rfl (rfl) (rfl) rfl (Eq.refl 58) ?_
          refine Tr.pic (w' := (xpC E ad r true 0 q nm T S P L a kp W V X (frW T F (npV V)))) rfl ?_
          refine Tr.iload_n (i := 1) dX9_feast_58 rfl rfl (Eq.refl 59) ?_
          refine Tr.if_eqB (tgt := 69) dX9_feast_59 (by decide) (Eq.refl 62) (fun h59 => ?_) (fun h59 => ?_)
          · exact absurd (hc.symm.trans h59) (by decide)
          · refine Tr.aload_n (i := 0) dX9_feast_62 rfl rfl (Eq.refl 63) ?_
            refine Tr.callVs (hE) dX9_feast_63 (kX9_281 (Nat.le_of_ble_eq_true rfl)) iX9_feastEnd rfl rfl rfl rfl rfl (xp_le) rfl rfl (Eq.refl 66) ?_
            refine Tr.goto (pc' := 70) dX9_feast_66 (by decide) ?_
            refine Tr.iret dX9_feast_70 rfl (by first | rfl | exact bI_nar _) ?_ ?_
            · rfl
            · rfl
        · exact absurd h24 (by omega)
      · obtain ⟨k, hk, hkx⟩ := ixB_n v2 (hix j hj)
        have hu : frW T F (j + 1) = upN (frW T F j) j (nN (sgI T j)) := rfl
        rw [hu, hkx, nN_n (by omega)] at ih
        clear hu
        generalize frW T F j = F1 at *
        have hb9 : byA len T j = nI (T j) := if_pos (by omega)
        refine Tr.iload_n (i := 2) dX9_feast_16 rfl rfl (Eq.refl 17) ?_
        refine Tr.aload_n (i := 0) dX9_feast_17 rfl rfl (Eq.refl 18) ?_
        refine Tr.getf dX9_feast_18 fX9_28 rfl rfl (Eq.refl 21) ?_
        refine Tr.getf dX9_feast_21 fX9_102 rfl rfl (Eq.refl 24) ?_
        refine Tr.icmp_geN (tgt := 50) dX9_feast_24 (by decide) (Eq.refl 27) (by omega) (by omega) (fun h24 => ?_) (fun h24 => ?_)
        · exact absurd h24 (by omega)
        · refine Tr.aload_n (i := 0) dX9_feast_27 rfl rfl (Eq.refl 28) ?_
          refine Tr.getf dX9_feast_28 fX9_57 rfl rfl (Eq.refl 31) ?_
          refine Tr.iload_n (i := 2) dX9_feast_31 rfl rfl (Eq.refl 32) ?_
          refine Tr.aload_n (i := 0) dX9_feast_32 rfl rfl (Eq.refl 33) ?_
          refine Tr.getf dX9_feast_33 fX9_10 rfl rfl (Eq.refl 36) ?_
          refine Tr.iload_n (i := 2) dX9_feast_36 rfl rfl (Eq.refl 37) ?_
          refine Tr.callVr (L := [1, 2]) (t_byteAt E _ len q nm T j hl (by omega)) dX9_feast_37 (kX9_154 (Nat.le_of_ble_eq_true rfl)) iX4_byteAt rfl rfl rfl rfl rfl rfl rfl rfl rfl (Eq.refl 40) ?_
          rw [hb9]
          refine Tr.bipush (v := nI 48) dX9_feast_40 (by decide +kernel) (Eq.refl 42) ?_
          refine Tr.isub dX9_feast_42 (Eq.refl 43) ?_
          refine Tr.top (y := nI k) hkx ?_
          refine Tr.iastN dX9_feast_43 rfl (by omega) (by decide) (Eq.refl 44) ?_
          refine Tr.iincN dX9_feast_44 rfl rfl rfl (Eq.refl 47) ?_
          refine Tr.goto (pc' := 16) dX9_feast_47 (by decide) ?_
          exact Tr.eqs rfl rfl (by unfold xpC; rw [nI_upN]; rfl) ih
  · rw [if_neg hc, if_neg hc, if_neg hc]
    refine Md.of 2 (by decide) rfl rfl ?_
    refine Tr.aload_n (i := 0) dX9_feast_0 rfl rfl (Eq.refl 1) ?_
    refine Tr.callVs (x_isFeastOnTape E ad r hb len q nm T S P L a kp W V X F hV hl) dX9_feast_1 (kX9_278 (Nat.le_of_ble_eq_true rfl)) iX9_isFeastOnTape rfl rfl rfl rfl rfl (xp_le) rfl rfl (Eq.refl 4) ?_
    refine Tr.istore_n (i := 1) dX9_feast_4 rfl rfl rfl (Eq.refl 5) ?_
    refine Tr.iload_n (i := 1) dX9_feast_5 rfl rfl (Eq.refl 6) ?_
    refine Tr.if_eqB (tgt := 50) dX9_feast_6 (by decide) (Eq.refl 9) (fun h6 => ?_) (fun h6 => ?_)
    · refine Tr.aload_n (i := 0) dX9_feast_50 rfl rfl (Eq.refl 51) ?_
      refine Tr.getf dX9_feast_51 fX9_10 rfl rfl (Eq.refl 54) ?_
      refine Tr.iconst (v := nI 0) dX9_feast_54 (icN 0) (Eq.refl 55) ?_
      refine Tr.putf dX9_feast_55 pX9_68 rfl (rfl) (rfl) rfl (Eq.refl 58) ?_
      refine Tr.iload_n (i := 1) dX9_feast_58 rfl rfl (Eq.refl 59) ?_
      refine Tr.if_eqB (tgt := 69) dX9_feast_59 (by decide) (Eq.refl 62) (fun h59 => ?_) (fun h59 => ?_)
      · refine Tr.iconst (v := (-1)) dX9_feast_69 (by decide +kernel) (Eq.refl 70) ?_
        refine Tr.iret dX9_feast_70 rfl (by first | rfl | exact bI_nar _) ?_ ?_
        · rfl
        · rfl
      · exact absurd h59 hc
    · exact absurd h6 hc
