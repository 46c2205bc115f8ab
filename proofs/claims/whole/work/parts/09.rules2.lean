/-! branches told by < and = alone -/
section TRF
variable {C : CtxT} {kb nb pc pc' : Nat} {lv : List (Option Value)} {st : List Value} {w : List va_E}
theorem Tr.icmp_geL {x y : Int32} {off : Int} {tgt : Nat} (hd : decode C.2.1.2.1 pc = .ok (.if_icmp .ge off, 3)) (ht : (pc : Int) + off = (tgt : Int)) (hp : pc + 3 = pc') (kt : ¬ x < y → Tr C kb nb tgt lv st w) (kf : x < y → Tr C kb nb pc' lv st w) : Tr C kb nb pc lv (.int y :: .int x :: st) w :=
  Tr.icmp_ge hd ht hp (fun q => kt (Int32.not_lt.mpr q)) (fun q => kf (Int32.not_le.mp q))
theorem Tr.icmp_leL {x y : Int32} {off : Int} {tgt : Nat} (hd : decode C.2.1.2.1 pc = .ok (.if_icmp .le off, 3)) (ht : (pc : Int) + off = (tgt : Int)) (hp : pc + 3 = pc') (kt : ¬ y < x → Tr C kb nb tgt lv st w) (kf : y < x → Tr C kb nb pc' lv st w) : Tr C kb nb pc lv (.int y :: .int x :: st) w :=
  Tr.icmp_le hd ht hp (fun q => kt (Int32.not_lt.mpr q)) (fun q => kf (Int32.not_le.mp q))
theorem Tr.if_geL {x : Int32} {off : Int} {tgt : Nat} (hd : decode C.2.1.2.1 pc = .ok (.ifCond .ge off, 3)) (ht : (pc : Int) + off = (tgt : Int)) (hp : pc + 3 = pc') (kt : ¬ x < 0 → Tr C kb nb tgt lv st w) (kf : x < 0 → Tr C kb nb pc' lv st w) : Tr C kb nb pc lv (.int x :: st) w :=
  Tr.if_ge hd ht hp (fun q => kt (Int32.not_lt.mpr q)) (fun q => kf (Int32.not_le.mp q))
theorem Tr.if_leL {x : Int32} {off : Int} {tgt : Nat} (hd : decode C.2.1.2.1 pc = .ok (.ifCond .le off, 3)) (ht : (pc : Int) + off = (tgt : Int)) (hp : pc + 3 = pc') (kt : ¬ 0 < x → Tr C kb nb tgt lv st w) (kf : 0 < x → Tr C kb nb pc' lv st w) : Tr C kb nb pc lv (.int x :: st) w :=
  Tr.if_le hd ht hp (fun q => kt (Int32.not_lt.mpr q)) (fun q => kf (Int32.not_le.mp q))
end TRF
