/-! THE RELATION OF THE TWO -/
abbrev Xst : Type := (Bool) × (Nat) × (Nat) × (Nat) × (Nat) × (Nat) × (Nat) × (Nat → Nat) × (Int32) × (Int32) × (Vil) × (Vix) × (Vil) × (Vix) × (Crs) × (Tst) × (Bki) × (Scn) × (Nat → Nat) × (Nat → Nat) × (Bool) × (Crs) × (Crs) × (Crs)
abbrev Mst : Type := (Vil) × (Dvi) × (Nat) × (Nat → Nat) × (Tki) × (Nat) × (Int32) × (Vil) × (Vix) × (Nwi) × (Jk) × (Nat → Int32) × (Nat → Bool) × (Nat) × (Bool) × (Nat → Nat) × (Bki)
def XS (E : EnvT) (ad : Nat → Nat) (x : Xst) : List va_E := xA E ad x.1 x.2.1 x.2.2.1 x.2.2.2.1 x.2.2.2.2.1 x.2.2.2.2.2.1 x.2.2.2.2.2.2.1 x.2.2.2.2.2.2.2.1 x.2.2.2.2.2.2.2.2.1 x.2.2.2.2.2.2.2.2.2.1 x.2.2.2.2.2.2.2.2.2.2.1 x.2.2.2.2.2.2.2.2.2.2.2.1 x.2.2.2.2.2.2.2.2.2.2.2.2.1 x.2.2.2.2.2.2.2.2.2.2.2.2.2.1 x.2.2.2.2.2.2.2.2.2.2.2.2.2.2.1 x.2.2.2.2.2.2.2.2.2.2.2.2.2.2.2.1 x.2.2.2.2.2.2.2.2.2.2.2.2.2.2.2.2.1 x.2.2.2.2.2.2.2.2.2.2.2.2.2.2.2.2.2.1 x.2.2.2.2.2.2.2.2.2.2.2.2.2.2.2.2.2.2.1 x.2.2.2.2.2.2.2.2.2.2.2.2.2.2.2.2.2.2.2.1 x.2.2.2.2.2.2.2.2.2.2.2.2.2.2.2.2.2.2.2.2.1 x.2.2.2.2.2.2.2.2.2.2.2.2.2.2.2.2.2.2.2.2.2.1 x.2.2.2.2.2.2.2.2.2.2.2.2.2.2.2.2.2.2.2.2.2.2.1 x.2.2.2.2.2.2.2.2.2.2.2.2.2.2.2.2.2.2.2.2.2.2.2
def MS (E : EnvT) (ad : Nat → Nat) (m : Mst) : List va_E := mA E ad m.1 m.2.1 m.2.2.1 m.2.2.2.1 m.2.2.2.2.1 m.2.2.2.2.2.1 m.2.2.2.2.2.2.1 m.2.2.2.2.2.2.2.1 m.2.2.2.2.2.2.2.2.1 m.2.2.2.2.2.2.2.2.2.1 m.2.2.2.2.2.2.2.2.2.2.1 m.2.2.2.2.2.2.2.2.2.2.2.1 m.2.2.2.2.2.2.2.2.2.2.2.2.1 m.2.2.2.2.2.2.2.2.2.2.2.2.2.1 m.2.2.2.2.2.2.2.2.2.2.2.2.2.2.1 m.2.2.2.2.2.2.2.2.2.2.2.2.2.2.2.1 m.2.2.2.2.2.2.2.2.2.2.2.2.2.2.2.2
/-- a course of the class and a row of the reference -/
def Rn (B : Nat) (V : Vil) (S : Scn) (P : Nat → Nat) (L : Nat → Int32) (a : Nat) (N' : Nwi) : Prop := Seq V S N'.1 ∧ (∀ p q, p < npV V → q < 4 → P (p * 4 + q) = N'.2.1 (p * 4 + q)) ∧ (∀ p, p < npV V → L p = N'.2.2.1 p) ∧ a = N'.2.2.2 ∧ a < 2 ^ 31 ∧ Sok V S ∧ Pok V P ∧ Ple P ∧ psS S ≤ B ∧ Vb V ∧ Sb V S
def Rs (B : Nat) (V : Vil) (Q : Crs) (kb : Bool) (s : Nat) (K : Nat → Int32) : Prop := Q.2.2.2.2.1 = kb ∧ (kb = true → ∃ Nq : Nwi, (∀ j, j < 57 → K (57 * s + j) = rwF Nq.1 Nq.2.1 Nq.2.2.1 Nq.2.2.2 j) ∧ Rn B V Q.1 Q.2.1 Q.2.2.1 Q.2.2.2.1 Nq)
def R0 (B : Nat) (V : Vil) (X : Vix) (len : Nat) (T : Nat → Nat) (fk pl : Int32) (N : Crs) (b : Bki) (W F : Nat → Nat) (hb : Bool) (Q0 Q1 Q2 : Crs) (V' : Vil) (D' : Dvi) (tp' : Nat) (T' : Nat → Nat) (k' : Tki) (f' : Nat) (fa' : Int32) (N' : Nwi) (K' : Nat → Int32) (kb' : Nat → Bool) (hb' : Bool) (F' : Nat → Nat) : Prop :=
  (tp' = len ∧ len ≤ 900 ∧ T' = T ∧ (∀ k, T k < 256) ∧ k'.2.2.2.2.1 < 100000) ∧
  (Vok V ∧ Veq V V' ∧ (∀ h, h < nhV V → X.2.2.2.2.1 h = D'.1 h) ∧ (∀ h, h < nhV V → X.2.2.2.2.2.1 h = D'.2.1 h) ∧ X.1 = D'.2.2) ∧
  Rn B V N.1 N.2.1 N.2.2.1 N.2.2.2.1 N' ∧
  (Rs B V Q0 (kb' 0) 0 K' ∧ Rs B V Q1 (kb' 1) 1 K' ∧ Rs B V Q2 (kb' 2) 2 K') ∧
  (fk = nI f' ∧ pl = fa') ∧
  (hb' = hb ∧ (hb = true → ∀ p, p < npV V → F p = F' p ∧ F p < npV V) ∧ (∀ k, k < 5 → F k < 5) ∧ (∀ k, k < 5 → F' k < 5)) ∧
  ((∀ k, b.2.1 k < 1000 ∧ b.2.2.1 k < 5 ∧ b.2.2.2 k ≤ 5) ∧ (∀ k, W k ≤ 5))
def RR (B : Nat) (x : Xst) (m : Mst) : Prop := R0 B (if x.1 then x.2.2.2.2.2.2.2.2.2.2.1 else x.2.2.2.2.2.2.2.2.2.2.2.2.1) (if x.1 then x.2.2.2.2.2.2.2.2.2.2.2.1 else x.2.2.2.2.2.2.2.2.2.2.2.2.2.1) x.2.1 x.2.2.2.2.2.2.2.1 x.2.2.2.2.2.2.2.2.1 x.2.2.2.2.2.2.2.2.2.1 x.2.2.2.2.2.2.2.2.2.2.2.2.2.2.1 x.2.2.2.2.2.2.2.2.2.2.2.2.2.2.2.2.1 x.2.2.2.2.2.2.2.2.2.2.2.2.2.2.2.2.2.2.1 x.2.2.2.2.2.2.2.2.2.2.2.2.2.2.2.2.2.2.2.1 x.2.2.2.2.2.2.2.2.2.2.2.2.2.2.2.2.2.2.2.2.1 x.2.2.2.2.2.2.2.2.2.2.2.2.2.2.2.2.2.2.2.2.2.1 x.2.2.2.2.2.2.2.2.2.2.2.2.2.2.2.2.2.2.2.2.2.2.1 x.2.2.2.2.2.2.2.2.2.2.2.2.2.2.2.2.2.2.2.2.2.2.2 m.1 m.2.1 m.2.2.1 m.2.2.2.1 m.2.2.2.2.1 m.2.2.2.2.2.1 m.2.2.2.2.2.2.1 m.2.2.2.2.2.2.2.2.2.1 m.2.2.2.2.2.2.2.2.2.2.2.1 m.2.2.2.2.2.2.2.2.2.2.2.2.1 m.2.2.2.2.2.2.2.2.2.2.2.2.2.2.1 m.2.2.2.2.2.2.2.2.2.2.2.2.2.2.2.1
theorem Rn.mono {B B2 : Nat} {V : Vil} {S : Scn} {P : Nat → Nat} {L : Nat → Int32} {a : Nat} {N' : Nwi} (h : Rn B V S P L a N') (hB : B ≤ B2) : Rn B2 V S P L a N' := by
  obtain ⟨h1, h2, h3, h4, h5, h6, h7, h8, h9⟩ := h
  exact ⟨h1, h2, h3, h4, h5, h6, h7, h8, by have := h9.1; omega, h9.2⟩
theorem Rs.mono {B B2 : Nat} {V : Vil} {Q : Crs} {kb : Bool} {s : Nat} {K : Nat → Int32} (h : Rs B V Q kb s K) (hB : B ≤ B2) : Rs B2 V Q kb s K := ⟨h.1, fun z => by obtain ⟨Nq, h1, h2⟩ := h.2 z; exact ⟨Nq, h1, h2.mono hB⟩⟩
theorem Vok.eq' {V V' : Vil} (h : Vok V) (e : Veq V V') : Vok V' := by
  obtain ⟨v1, v2, v3, v4, v5, v6, v7, v8, v9⟩ := e
  obtain ⟨h1, h2, h3, h4, h5⟩ := h
  refine ⟨by rw [← v1]; exact h1, by rw [← v2]; exact h2, fun k hk => ?_, fun p hp => ?_, fun k p hk hp => ?_⟩
  · rw [← v1] at hk; rw [← v2, ← v6 k hk]; exact h3 k hk
  · rw [← v2] at hp; rw [← v1, ← v7 p hp]; exact h4 p hp
  · rw [← v1] at hk; rw [← v2] at hp; rw [← v6 k hk, ← v7 p hp]; exact h5 k p hk hp
theorem Rn.Sok' {B : Nat} {V V' : Vil} {S : Scn} {P : Nat → Nat} {L : Nat → Int32} {a : Nat} {N' : Nwi} (h : Rn B V S P L a N') (e : Veq V V') : Sok V' N'.1 := fun p hp => by
  rw [← e.2.1] at hp
  rw [← h.1.2.1 p hp, ← e.1]
  exact h.2.2.2.2.2.1 p hp
theorem Rn.Pok' {B : Nat} {V V' : Vil} {S : Scn} {P : Nat → Nat} {L : Nat → Int32} {a : Nat} {N' : Nwi} (h : Rn B V S P L a N') (e : Veq V V') : Pok V' N'.2.1 := fun p hp q hq => by
  rw [← e.2.1] at hp
  rw [← h.2.1 p q hp hq, ← e.1]
  exact h.2.2.2.2.2.2.1 p hp q hq
theorem Rn.ps' {B : Nat} {V : Vil} {S : Scn} {P : Nat → Nat} {L : Nat → Int32} {a : Nat} {N' : Nwi} (h : Rn B V S P L a N') : psS N'.1 ≤ B := by rw [← h.1.1]; exact h.2.2.2.2.2.2.2.2.1
/-- both ways of asking a method give one answer, and go on alike -/
def Pr (E : EnvT) (B : Nat) (M1 M2 : MInf) (As : List Value) (x : Xst) (m : Mst) : Prop := ∃ r x' m', RR (B + 400) x' m' ∧ (∀ ad : Nat → Nat, Md E M1 ad (.ref (ad 0) :: As) (XS E ad x) (some (.int r)) (XS E ad x')) ∧ (∀ ad : Nat → Nat, Md E M2 ad (.ref (ad 0) :: As) (MS E ad m) (some (.int r)) (MS E ad m'))
theorem Rn.Rq {B : Nat} {V V' : Vil} {S : Scn} {P : Nat → Nat} {L : Nat → Int32} {a : Nat} {N' : Nwi} (h : Rn B V S P L a N') (hO : Vok V) (e : Veq V V') (w : Int32) (l : Bool) : Rq V (ovr V' (-1, -1, w, -1, false, l)) P N'.2.1 L N'.2.2.1 S N'.1 := ⟨hO, e.tr (ovr_Veq V' w l (by rw [← e.1]; exact hO.1)), h.2.1, h.2.2.1, h.1⟩
theorem R0.mono {B B2 : Nat} {V : Vil} {X : Vix} {len : Nat} {T : Nat → Nat} {fk pl : Int32} {N : Crs} {b : Bki} {W F : Nat → Nat} {hb : Bool} {Q0 Q1 Q2 : Crs} {V' : Vil} {D' : Dvi} {tp' : Nat} {T' : Nat → Nat} {k' : Tki} {f' : Nat} {fa' : Int32} {N' : Nwi} {K' : Nat → Int32} {kb' : Nat → Bool} {hb' : Bool} {F' : Nat → Nat} (h : R0 B V X len T fk pl N b W F hb Q0 Q1 Q2 V' D' tp' T' k' f' fa' N' K' kb' hb' F') (hB : B ≤ B2) : R0 B2 V X len T fk pl N b W F hb Q0 Q1 Q2 V' D' tp' T' k' f' fa' N' K' kb' hb' F' := by
  obtain ⟨h1, h2, h3, ⟨q0, q1, q2⟩, h5⟩ := h
  exact ⟨h1, h2, h3.mono hB, ⟨q0.mono hB, q1.mono hB, q2.mono hB⟩, h5⟩
