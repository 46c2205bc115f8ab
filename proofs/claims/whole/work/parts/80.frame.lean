/-! A CONTRACT OVER SOME CELLS IS A CONTRACT OVER MORE -/
theorem Md.frame {E : EnvT} {M : MInf} {ad : Nat → Nat} {av : List Value} {w wc w1 : List va_E} {r0 : Option Value} {L : List Nat} (h : Md E M (adc ad L w.length) av wc r0 w1) (hcut : L.map (fun i => w[i]?) = wc.map some) (hnd : va_nd L = true) (hlen : Nat.ble wc.length w1.length = true) : Md E M ad av w r0 (putB w L w1) := by
  have hsub : ∀ q, Rng (adc ad L w.length) q → Rng ad q := fun q ⟨i, hi⟩ => ⟨_, hi⟩
  intro l
  refine MetFree.mono (h l) (fun a s hp => ?_) (fun _ _ _ _ _ k => k) (fun a s o t hp hq => ?_)
  · obtain ⟨h1, h2, h3, h4, h5⟩ := hp
    exact ⟨h1, h2.cut hcut, h3, adc_inj h4 hnd hcut, h5.warm (State.WarmedH.refl s) hsub (fun q g1 g2 => rfl)⟩
  · obtain ⟨h1, h2, h3, h4, h5⟩ := hp
    obtain ⟨⟨q1, q2, q3, q4⟩, L', q5, q6⟩ := hq
    exact ⟨⟨q1, h2.back h4 hnd hcut (Nat.le_of_ble_eq_true hlen) q2 q4, q3, fun q g1 g2 => q4 q g1 (fun z => g2 (hsub q z))⟩, L', q5, fun q hq => hsub _ (q6 q hq)⟩
