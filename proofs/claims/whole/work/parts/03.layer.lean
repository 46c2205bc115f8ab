/-! LAYER: a run of a method told over a PICTURE: locals and stack as lists, the heap's cells as a list by places (place k lies at the address ad k; places from the list's end on are the addresses that come next). Tr: from such a state the method ends with r0 and the picture w0. Md: a method's contract of that kind. -/
def tbW : List Cond := lw_tbl.filter goodWord
theorem tbW_mem {w : Cond} (h : w ∈ lw_tbl) (g : goodWord w = true) : w ∈ tbW := List.mem_filter.mpr ⟨h, g⟩
theorem tbW_in {w : Cond} (h : w ∈ tbW) : w ∈ lw_tbl := (List.mem_filter.mp h).1
theorem tbW_gd {w : Cond} (h : w ∈ tbW) : goodWord w = true := (List.mem_filter.mp h).2
abbrev EnvT : Type := va_G × (Nat → ClassId) × (Nat → Nat)
/-- name, code, locals, answer's type, level, cells, slots -/
abbrev MInf : Type := MethodName × ByteArray × Nat × Option FieldType × Nat × Nat × Nat
/-- tables, method, addresses, answer and picture at the end -/
abbrev CtxT : Type := EnvT × MInf × (Nat → Nat) × Option Value × List va_E
def rmD (lev mc ms : Nat) : Room := { frames := lev, cells := mc, slots := ms, locals := 36 * lev }
def tysE (E : EnvT) : List (ClassId × FieldType) := [(E.2.1 0, .int), (E.2.1 1, .long), (E.2.1 2, .byte), (E.2.1 3, .boolean), (E.2.1 4, .object "OwnedByGuests$Course"), (E.2.1 5, .object "OwnedByGuests$Scene")]
def prs (ad : Nat → Nat) : Nat → List va_E → va_W
  | _, [] => []
  | i, e :: r => (ad i, e) :: prs ad (i + 1) r
theorem prs_get (ad : Nat → Nat) : ∀ (w : List va_E) (i k : Nat), (prs ad i w)[k]? = (w[k]?).map (fun e => (ad (i + k), e)) := by
  intro w
  induction w with
  | nil => intro i k; simp [prs]
  | cons e r ih =>
    intro i k
    cases k with
    | zero => simp [prs]
    | succ k =>
      simp only [prs, List.getElem?_cons_succ]
      rw [ih (i + 1) k, show i + 1 + k = i + (k + 1) by omega]
theorem prs_at {ad : Nat → Nat} {w : List va_E} {k : Nat} {e : va_E} (h : w[k]? = some e) : (prs ad 0 w)[k]? = some (ad k, e) := by
  rw [prs_get, h]; simp
theorem prs_inv {ad : Nat → Nat} {w : List va_E} {k : Nat} {q : Nat × va_E} (h : (prs ad 0 w)[k]? = some q) : w[k]? = some q.2 ∧ q.1 = ad k := by
  rw [prs_get] at h
  cases hw : w[k]? with
  | none => rw [hw] at h; cases h
  | some e => rw [hw] at h; simp at h; subst h; exact ⟨rfl, rfl⟩
theorem prs_set (ad : Nat → Nat) : ∀ (w : List va_E) (i k : Nat) (e : va_E), prs ad i (w.set k e) = (prs ad i w).set k (ad (i + k), e) := by
  intro w
  induction w with
  | nil => intro i k e; simp [prs]
  | cons x r ih =>
    intro i k e
    cases k with
    | zero => simp [prs]
    | succ k =>
      simp only [prs, List.set_cons_succ]
      rw [ih (i + 1) k e, show i + 1 + k = i + (k + 1) by omega]
theorem prs_app (ad : Nat → Nat) : ∀ (w v : List va_E) (i : Nat), prs ad i (w ++ v) = prs ad i w ++ prs ad (i + w.length) v := by
  intro w
  induction w with
  | nil => intro v i; simp [prs]
  | cons x r ih =>
    intro v i
    simp only [prs, List.cons_append, List.length_cons]
    rw [ih v (i + 1), show i + 1 + r.length = i + (r.length + 1) by omega]
theorem prs_len (ad : Nat → Nat) : ∀ (w : List va_E) (i : Nat), (prs ad i w).length = w.length := by
  intro w
  induction w with
  | nil => intro i; rfl
  | cons x r ih => intro i; simp [prs, ih]
/-- the addresses that a run may write -/
def Rng (ad : Nat → Nat) : Nat → Prop := fun q => ∃ i, ad i = q
def Inj (ad : Nat → Nat) : Prop := ∀ i j, ad i = ad j → i = j
theorem prs_D {ad : Nat → Nat} {w : List va_E} (h : Inj ad) : va_D (Rng ad) (prs ad 0 w) := by
  refine ⟨fun i j p q hp hq e => ?_, fun k q hq => ?_⟩
  · have h1 := (prs_inv hp).2
    have h2 := (prs_inv hq).2
    exact h i j (by rw [← h1, ← h2]; exact e)
  · exact ⟨k, (prs_inv hq).2.symm⟩
/-- the heap holds the picture; the places behind it are the next addresses -/
def Pic (E : EnvT) (ad : Nat → Nat) (w : List va_E) (H : Heap) : Prop := va_P E.1 vwCl (prs ad 0 w) H ∧ ∀ j : Nat, ad (w.length + j) = H.size + j
def txS (i : Nat) : String := ["house", "person", "of", "tie", "work", "last", "chairs", "after", "wear", "mend", "take", "stroll"].getD i ""
def lenS : List Nat := [5, 6, 2, 3, 4, 4, 6, 5, 4, 4, 4, 6]
def bytS : List (List Int32) := [[104, 111, 117, 115, 101], [112, 101, 114, 115, 111, 110], [111, 102], [116, 105, 101], [119, 111, 114, 107], [108, 97, 115, 116], [99, 104, 97, 105, 114, 115], [97, 102, 116, 101, 114], [119, 101, 97, 114], [109, 101, 110, 100], [116, 97, 107, 101], [115, 116, 114, 111, 108, 108]]
/-- where the texts stand: class, constant, text -/
def strT : List (String × Nat × Nat) := [("OwnedByGuests$Teller", 41, 0), ("OwnedByGuests$Teller", 50, 1), ("OwnedByGuests$Teller", 114, 2), ("OwnedByGuests$Teller", 55, 3), ("OwnedByGuests$Teller", 60, 4), ("OwnedByGuests$Teller", 65, 5), ("OwnedByGuests$Teller", 171, 6), ("OwnedByGuests$Teller", 173, 7), ("OwnedByGuests$Teller", 175, 8), ("OwnedByGuests$Teller", 177, 9), ("OwnedByGuests$Teller", 179, 10), ("OwnedByGuests$Teller", 181, 11), ("OwnedByGuestsModel", 165, 0), ("OwnedByGuestsModel", 171, 1), ("OwnedByGuestsModel", 120, 2), ("OwnedByGuestsModel", 176, 3), ("OwnedByGuestsModel", 181, 4), ("OwnedByGuestsModel", 141, 5), ("OwnedByGuestsModel", 129, 6), ("OwnedByGuestsModel", 131, 7), ("OwnedByGuestsModel", 133, 8), ("OwnedByGuestsModel", 135, 9), ("OwnedByGuestsModel", 137, 10), ("OwnedByGuestsModel", 139, 11)]
def ruL (j : Nat) : Int32 := [1, 0, 0, 0, 0, 0].getD j 0
def ruM (j : Nat) : Int32 := [4, 28, 20, 20, 9, 100].getD j 0
def ruU (j : Nat) : Int32 := [2, 12, 2, 1, 1, 0].getD j 0
def sfV : Nat → Value
  | 0 => .null
  | n + 1 => .ref n
/-- what lies in the heap from the start and stays: texts, statics, links across the nest -/
def Gx (E : EnvT) (A : Nat → Prop) (U : State) (H : Heap) : Prop :=
  vk_S 12 lenS bytS (fun i => E.2.2 i) (fun i => E.2.2 (100 + i)) A U H ∧
  (∀ q ∈ strT, vk_R q.1 q.2.1 (txS q.2.2) (E.2.2 q.2.2) U) ∧
  va_Z "java/lang/String" "COMPACT_STRINGS" "Z" (.int 1) A U H ∧
  va_Z "jdk/internal/util/Preconditions" "SIOOBE_FORMATTER" "Ljava/util/function/BiFunction;" (sfV (E.2.2 203)) A U H ∧
  (va_Z "OwnedByGuests" "RULE_LEAST" "[I" (.ref (E.2.2 200)) A U H ∧ va_T .int (E.2.2 200) 6 (fun j => .int (ruL j)) A U H) ∧
  (va_Z "OwnedByGuests" "RULE_MOST" "[I" (.ref (E.2.2 201)) A U H ∧ va_T .int (E.2.2 201) 6 (fun j => .int (ruM j)) A U H) ∧
  (va_Z "OwnedByGuests" "RULE_UNTOLD" "[I" (.ref (E.2.2 202)) A U H ∧ va_T .int (E.2.2 202) 6 (fun j => .int (ruU j)) A U H) ∧
  (∀ (a : String) (i : Nat) (x : MethodName) (h : String), Cond.methodLinkNest a i x h ∈ lw_tbl → va_Nw (.methodLinkNest a i x h) U) ∧
  (∀ (a : String) (i : Nat) (b n d h : String), Cond.fieldLinkNest a i b n d h ∈ lw_tbl → va_Nw (.fieldLinkNest a i b n d h) U) ∧
  va_AO "OwnedByGuests$Course" U ∧ va_AO "OwnedByGuests$Scene" U ∧
  va_T .int (E.2.2 300) (E.2.2 301) (fun j => .int (nI (E.2.2 (400 + j)))) A U H
theorem Gx.warm {E : EnvT} {A B : Nat → Prop} {s U : State} {H H1 : Heap} (h : Gx E A s H) (hW : s.WarmedH U.vm) (hAB : ∀ q, B q → A q) (hq : ∀ a : Nat, a < H.size → ¬ A a → H1[a]? = H[a]?) : Gx E B U H1 := by
  obtain ⟨h1, h2, h3, h4, ⟨h5, h6⟩, ⟨h7, h8⟩, ⟨h9, h10⟩, h11, h12, h13, h14, h15⟩ := h
  have ha := hW.alike
  exact ⟨((h1.moved ha).kept hq).narrow hAB, fun q hq => (h2 q hq).warm hW, ((h3.moved ha).kept hq).narrow hAB, ((h4.moved ha).kept hq).narrow hAB, ⟨((h5.moved ha).kept hq).narrow hAB, ((h6.moved ha).kept hq).narrow hAB⟩, ⟨((h7.moved ha).kept hq).narrow hAB, ((h8.moved ha).kept hq).narrow hAB⟩, ⟨((h9.moved ha).kept hq).narrow hAB, ((h10.moved ha).kept hq).narrow hAB⟩, fun a i x y z => (h11 a i x y z).warmM hW, fun a i b n d y z => (h12 a i b n d y z).warmF hW, h13.moved ha, h14.moved ha, ((h15.moved ha).kept hq).narrow hAB⟩
theorem Gx.same {E : EnvT} {A : Nat → Prop} {s U : State} {H : Heap} (h : Gx E A s H) (hv : U.vm = s.vm) : Gx E A U H := by
  have ha : s.vm.Alike U.vm := by rw [hv]; exact Vm.Alike.refl s.vm
  obtain ⟨h1, h2, h3, h4, ⟨h5, h6⟩, ⟨h7, h8⟩, ⟨h9, h10⟩, h11, h12, h13, h14, h15⟩ := h
  exact ⟨h1.moved ha, fun q hq => (h2 q hq).same hv, h3.moved ha, h4.moved ha, ⟨h5.moved ha, h6.moved ha⟩, ⟨h7.moved ha, h8.moved ha⟩, ⟨h9.moved ha, h10.moved ha⟩, fun a i x y z => (h11 a i x y z).same rfl hv.symm, fun a i b n d y z => (h12 a i b n d y z).same rfl hv.symm, h13.moved ha, h14.moved ha, h15.moved ha⟩
/-- the locals: a list, none where nothing is known -/
def lvh (ls : Array Slot) (n : Nat) (lv : List (Option Value)) : Prop := ls.size = n ∧ lv_wf ls ∧ ∀ (i : Nat) (v : Value), lv[i]? = some (some v) → ls[i]? = some (.val v)
def retD (M : MInf) (pc : Nat) (st : List Value) (r0 : Option Value) : Prop :=
  (r0 = none ∧ st = [] ∧ decode M.2.1 pc = .ok (.return_, 1) ∧ M.2.2.2.1 = none) ∨
  (∃ (v : Int32) (ty : FieldType), r0 = some (.int v) ∧ st = [.int v] ∧ decode M.2.1 pc = .ok (.ireturn, 1) ∧ M.2.2.2.1 = some ty ∧ narrow ty (.int v) = .int v) ∨
  (∃ v : Int64, r0 = some (.long v) ∧ st = [.long v] ∧ decode M.2.1 pc = .ok (.lreturn, 1) ∧ M.2.2.2.1 = some .long)
/-- the machine around a run of C's method -/
def Cx (C : CtxT) (p : Program) (s : State) (m : MethodId) (args : Array Value) (meth : Method) (c : Code) (R : Room) : Prop :=
  p.tables.exec = Jvm.exec ∧ c.code = C.2.1.2.1 ∧ c.maxLocals = C.2.1.2.2.1 ∧ s.vm.findClass C.2.1.1.cls = some m.cls ∧ (∀ w ∈ tbW, w.before args s = true) ∧ va_K C.1.1 vwCl (tysE C.1) s ∧ meth.name = C.2.1.1.name ∧ R = rmD C.2.1.2.2.2.2.1 C.2.1.2.2.2.2.2.1 C.2.1.2.2.2.2.2.2 ∧ Inj C.2.2.1 ∧ Gx C.1 (Rng C.2.2.1) s s.heap
def Ret (C : CtxT) (p : Program) (l : Launch) (e : Env) (s : State) (m : MethodId) (args : Array Value) (below : List Frame) (meth : Method) (c : Code) (R : Room) (Z : State → Prop) : Prop :=
  ∀ (pc : Nat) (ls : Array Slot) (H : Heap) (locs : List Loc) (cells slots : Nat) (st : List Value), Pic C.1 C.2.2.1 C.2.2.2.2 H → va_S (Rng C.2.2.1) s.heap H locs → cells ≤ C.2.1.2.2.2.2.2.1 → slots ≤ C.2.1.2.2.2.2.2.2 → retD C.2.1 pc st C.2.2.2.1 → W p l e R s m args below meth c H locs cells slots Z (F0 m pc ls st)
/-- from here the method ends with C's answer and C's picture; kb cells of nb slots may still come -/
def Tr (C : CtxT) (kb nb pc : Nat) (lv : List (Option Value)) (st : List Value) (w : List va_E) : Prop :=
  ∀ (p : Program) (l : Launch) (e : Env) (s : State) (m : MethodId) (args : Array Value) (below : List Frame) (meth : Method) (c : Code) (R : Room) (Z : State → Prop), Cx C p s m args meth c R → Ret C p l e s m args below meth c R Z →
    ∀ (H : Heap) (locs : List Loc) (cells slots : Nat) (ls : Array Slot), cells + kb ≤ C.2.1.2.2.2.2.2.1 → slots + nb ≤ C.2.1.2.2.2.2.2.2 → Pic C.1 C.2.2.1 w H → va_S (Rng C.2.2.1) s.heap H locs → lvh ls C.2.1.2.2.1 lv →
      W p l e R s m args below meth c H locs cells slots Z (F0 m pc ls st)
section TRA
variable {C : CtxT} {kb nb pc pc' : Nat} {lv lv' : List (Option Value)} {st st' : List Value} {w : List va_E}
/-- an instruction on the stack alone -/
theorem Tr.pure (h : ∀ {p : Program} {l : Launch} {e : Env} {R : Room} {s : State} {m : MethodId} {args : Array Value} {below : List Frame} {meth : Method} {c : Code} {H : Heap} {locs : List Loc} {cells slots : Nat} {Z : State → Prop} {ls : Array Slot}, p.tables.exec = Jvm.exec → c.code = C.2.1.2.1 → W p l e R s m args below meth c H locs cells slots Z (F0 m pc' ls st') → W p l e R s m args below meth c H locs cells slots Z (F0 m pc ls st))
    (k : Tr C kb nb pc' lv st' w) : Tr C kb nb pc lv st w := by
  intro p l e s m args below meth c R Z hC hR H locs cells slots ls h1 h2 h3 h4 h5
  exact h hC.1 hC.2.1 (k p l e s m args below meth c R Z hC hR H locs cells slots ls h1 h2 h3 h4 h5)
/-- an instruction that reads a local -/
theorem Tr.read {i : Nat} {v : Value} (hv : lv[i]? = some (some v)) (h : ∀ {p : Program} {l : Launch} {e : Env} {R : Room} {s : State} {m : MethodId} {args : Array Value} {below : List Frame} {meth : Method} {c : Code} {H : Heap} {locs : List Loc} {cells slots : Nat} {Z : State → Prop} {ls : Array Slot}, p.tables.exec = Jvm.exec → c.code = C.2.1.2.1 → ls[i]? = some (.val v) → W p l e R s m args below meth c H locs cells slots Z (F0 m pc' ls st') → W p l e R s m args below meth c H locs cells slots Z (F0 m pc ls st))
    (k : Tr C kb nb pc' lv st' w) : Tr C kb nb pc lv st w := by
  intro p l e s m args below meth c R Z hC hR H locs cells slots ls h1 h2 h3 h4 h5
  exact h hC.1 hC.2.1 (h5.2.2 i v hv) (k p l e s m args below meth c R Z hC hR H locs cells slots ls h1 h2 h3 h4 h5)
/-- an instruction over the tables -/
theorem Tr.tabs (h : ∀ {p : Program} {l : Launch} {e : Env} {R : Room} {s : State} {m : MethodId} {args : Array Value} {below : List Frame} {meth : Method} {c : Code} {H : Heap} {locs : List Loc} {cells slots : Nat} {Z : State → Prop} {ls : Array Slot}, p.tables.exec = Jvm.exec → c.code = C.2.1.2.1 → s.vm.findClass C.2.1.1.cls = some m.cls → (∀ w ∈ tbW, w.before args s = true) → W p l e R s m args below meth c H locs cells slots Z (F0 m pc' ls st') → W p l e R s m args below meth c H locs cells slots Z (F0 m pc ls st))
    (k : Tr C kb nb pc' lv st' w) : Tr C kb nb pc lv st w := by
  intro p l e s m args below meth c R Z hC hR H locs cells slots ls h1 h2 h3 h4 h5
  exact h hC.1 hC.2.1 hC.2.2.2.1 hC.2.2.2.2.1 (k p l e s m args below meth c R Z hC hR H locs cells slots ls h1 h2 h3 h4 h5)
/-- fewer locals are told -/
def lvm : List (Option Value) → List Bool → List (Option Value)
  | a :: r, b :: q => (if b then a else none) :: lvm r q
  | _, _ => []
theorem lvm_get : ∀ (lv : List (Option Value)) (bs : List Bool) (i : Nat) (v : Value), (lvm lv bs)[i]? = some (some v) → lv[i]? = some (some v) := by
  intro lv
  induction lv with
  | nil => intro bs i v h; simp [lvm] at h
  | cons a r ih =>
    intro bs i v h
    cases bs with
    | nil => simp [lvm] at h
    | cons b q =>
      cases i with
      | zero => cases b <;> simp_all [lvm]
      | succ i => simp only [lvm, List.getElem?_cons_succ] at h ⊢; exact ih q i v h
theorem Tr.mask (bs : List Bool) (h : lvm lv bs = lv') (k : Tr C kb nb pc lv' st w) : Tr C kb nb pc lv st w := by
  intro p l e s m args below meth c R Z hC hR H locs cells slots ls h1 h2 h3 h4 h5
  refine k p l e s m args below meth c R Z hC hR H locs cells slots ls h1 h2 h3 h4 ⟨h5.1, h5.2.1, fun i v hv => h5.2.2 i v ?_⟩
  rw [← h] at hv
  exact lvm_get lv bs i v hv
theorem Tr.budget {kb' nb' : Nat} (h1 : kb' ≤ kb) (h2 : nb' ≤ nb) (k : Tr C kb' nb' pc lv st w) : Tr C kb nb pc lv st w := by
  intro p l e s m args below meth c R Z hC hR H locs cells slots ls g1 g2
  exact k p l e s m args below meth c R Z hC hR H locs cells slots ls (by omega) (by omega)
/-- the kit's list of locals out of ours -/
def lvp : Nat → List (Option Value) → List (Nat × Value)
  | _, [] => []
  | i, none :: r => lvp (i + 1) r
  | i, some v :: r => (i, v) :: lvp (i + 1) r
theorem lvp_mem : ∀ (lv : List (Option Value)) (i : Nat) (q : Nat × Value), q ∈ lvp i lv → ∃ k, q.1 = i + k ∧ lv[k]? = some (some q.2) := by
  intro lv
  induction lv with
  | nil => intro i q h; simp [lvp] at h
  | cons a r ih =>
    intro i q h
    cases a with
    | none =>
      obtain ⟨k, h1, h2⟩ := ih (i + 1) q h
      exact ⟨k + 1, by omega, by simpa using h2⟩
    | some v =>
      simp only [lvp, List.mem_cons] at h
      rcases h with h | h
      · subst h; exact ⟨0, rfl, rfl⟩
      · obtain ⟨k, h1, h2⟩ := ih (i + 1) q h
        exact ⟨k + 1, by omega, by simpa using h2⟩
theorem lvp_in : ∀ (lv : List (Option Value)) (i k : Nat) (v : Value), lv[k]? = some (some v) → (i + k, v) ∈ lvp i lv := by
  intro lv
  induction lv with
  | nil => intro i k v h; simp at h
  | cons a r ih =>
    intro i k v h
    cases k with
    | zero => simp at h; subst h; simp [lvp]
    | succ k =>
      have h2 := ih (i + 1) k v (by simpa using h)
      rw [show i + 1 + k = i + (k + 1) by omega] at h2
      cases a with
      | none => exact h2
      | some u => exact List.mem_cons_of_mem _ h2
theorem lvh_has {ls : Array Slot} {n : Nat} (h : lvh ls n lv) : lv_has ls n (lvp 0 lv) := by
  refine ⟨h.1, h.2.1, fun q hq => ?_⟩
  obtain ⟨k, h1, h2⟩ := lvp_mem lv 0 q hq
  rw [h1, Nat.zero_add]
  exact h.2.2 k q.2 h2
/-- no value of two slots lies just ahead -/
def okS : List (Option Value) → Nat → Bool
  | _, 0 => true
  | lv, i + 1 => match lv[i]? with
    | some (some (.long _)) => false
    | some (some (.double _)) => false
    | _ => true
theorem okS_cat {i j : Nat} {u : Value} (h : okS lv i = true) (hj : lv[j]? = some (some u)) (e : j + 1 = i) : u.category ≠ 2 := by
  subst e
  simp only [okS, hj] at h
  cases u <;> simp_all [Value.category]
theorem lvh_set1 {ls' : Array Slot} {n i : Nat} {v : Value} (ho : okS lv i = true) (h : lv_has ls' n ((i, v) :: (lvp 0 lv).filter (fun q => !(q.1 == i) && !(q.1 + 1 == i && q.2.category == 2)))) : lvh ls' n (lv.set i (some v)) := by
  refine ⟨h.1, h.2.1, fun j u hj => ?_⟩
  by_cases hji : j = i
  · subst hji
    have hl : j < lv.length := by
      rcases Nat.lt_or_ge j lv.length with q | q
      · exact q
      · rw [List.getElem?_eq_none (by simpa using q)] at hj; cases hj
    rw [List.getElem?_set_self hl] at hj
    cases hj
    exact h.2.2 (j, v) List.mem_cons_self
  · rw [List.getElem?_set_ne (fun q => hji q.symm)] at hj
    have hm := lvp_in lv 0 j u hj
    rw [Nat.zero_add] at hm
    refine h.2.2 (j, u) (List.mem_cons_of_mem _ (List.mem_filter.mpr ⟨hm, ?_⟩))
    have hc : j + 1 = i → u.category ≠ 2 := fun e => okS_cat ho hj e
    by_cases he : j + 1 = i
    · simp [hji, he, hc he]
    · simp [hji, he]
theorem lvh_set2 {ls' : Array Slot} {n i : Nat} {v : Value} (ho : okS lv i = true) (h : lv_has ls' n ((i, v) :: (lvp 0 lv).filter (fun q => !(q.1 == i) && (!(q.1 == i + 1) && !(q.1 + 1 == i && q.2.category == 2))))) : lvh ls' n ((lv.set i (some v)).set (i + 1) none) := by
  refine ⟨h.1, h.2.1, fun j u hj => ?_⟩
  have hj1 : j ≠ i + 1 := by
    intro e
    subst e
    rcases Nat.lt_or_ge (i + 1) (lv.set i (some v)).length with q | q
    · rw [List.getElem?_set_self q] at hj; cases hj
    · rw [List.getElem?_eq_none (by simpa using q)] at hj; cases hj
  rw [List.getElem?_set_ne (fun q => hj1 q.symm)] at hj
  by_cases hji : j = i
  · subst hji
    have hl : j < lv.length := by
      rcases Nat.lt_or_ge j lv.length with q | q
      · exact q
      · rw [List.getElem?_eq_none (by simpa using q)] at hj; cases hj
    rw [List.getElem?_set_self hl] at hj
    cases hj
    exact h.2.2 (j, v) List.mem_cons_self
  · rw [List.getElem?_set_ne (fun q => hji q.symm)] at hj
    have hm := lvp_in lv 0 j u hj
    rw [Nat.zero_add] at hm
    refine h.2.2 (j, u) (List.mem_cons_of_mem _ (List.mem_filter.mpr ⟨hm, ?_⟩))
    have hc : j + 1 = i → u.category ≠ 2 := fun e => okS_cat ho hj e
    by_cases he : j + 1 = i
    · simp [hji, he, hc he, hj1]
    · simp [hji, he, hj1]
end TRA
