/-! shifts of longs to the right -/
section TRG
variable {C : CtxT} {kb nb pc pc' : Nat} {lv : List (Option Value)} {st : List Value} {w : List va_E}
theorem Tr.lshr {x v : Int64} {y : Int32} (hd : decode C.2.1.2.1 pc = .ok (.lshr, 1)) (hv : x >>> (y.toInt64 &&& 63) = v) (hp : pc + 1 = pc') (k : Tr C kb nb pc' lv (.long v :: st) w) : Tr C kb nb pc lv (.int y :: .long x :: st) w := by
  subst hp
  exact Tr.pure (fun hx hb k => lv_lshr hx hb hd hv k) k
end TRG
