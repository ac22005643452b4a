/-! makers: the walk that makes cells -/
abbrev T4 (C : Nat → ClassId) : List (ClassId × FieldType) := [(C 0, .int), (C 1, .long), (C 2, .object "ArmSignals$Station"), (C 3, .object "ArmSignals$Paper")]
def Kx (D : va_G) (C : Nat → ClassId) (U : State) : Prop := va_K D cls10 (T4 C) U ∧ va_AO "ArmSignals$Station" U ∧ va_AO "ArmSignals$Paper" U
theorem Kx.moved {D : va_G} {C : Nat → ClassId} {u U : State} (hvm : u.vm.Alike U.vm) (h : Kx D C u) : Kx D C U := ⟨h.1.moved hvm, h.2.1.moved hvm, h.2.2.moved hvm⟩
def Bx (D : va_G) (C : Nat → ClassId) (μ : MI) (p : Program) (s : State) (m : MethodId) (args : Array Value) (meth : Method) (c : Code) : Prop :=
  p.tables.exec = Jvm.exec ∧ c.code = mb μ ∧ meth.sig.returnType = none ∧ c.maxLocals = mn μ ∧ s.vm.findClass (my μ).cls = some m.cls ∧ (∀ w ∈ tb, w.before args s = true) ∧ meth.locks = false ∧ meth.name = "<init>" ∧ Kx D C s
abbrev Qb (D : va_G) (Q : va_W → Prop) (A : Nat → Prop) : Array Value → State → Outcome → State → Prop := va_Qv Q (fun w t => va_P D cls10 w t.heap ∧ va_D A w) A
def BW (l : Launch) (D : va_G) (C : Nat → ClassId) (μ : MI) (R : Room) (Q : va_W → Prop) (pc : Nat) (L : List (Nat × Value)) (st : List Value) (ws : va_W) (cc ss : Nat) : Prop :=
  ∀ (p : Program) (e : Env) (s : State) (m : MethodId) (args : Array Value) (below : List Frame) (meth : Method) (c : Code) (H : Heap) (locs : List Loc) (ls : Array Slot) (A : Nat → Prop),
    Bx D C μ p s m args meth c → va_P D cls10 ws H → va_D A ws → va_S A s.heap H locs → (∀ q, s.heap.size ≤ q → A q) → lv_has ls (mn μ) L →
    W p l e R s m args below meth c H locs cc ss (MQ below (Qb D Q A) args s R.cells R.slots A) (F0 m pc ls st)
/-- a maker's contract, on a cell that was just made -/
def Cb (l : Launch) (D : va_G) (C : Nat → ClassId) (μ : MI) (R : Room) (h0 : Nat) (e0 : va_E) (Q : va_W → Prop) : Prop :=
  ∀ sz : Nat, Met l (my μ) (mw μ) R (va_Pc [.ref h0] (fun U => U.heap.size = sz ∧ va_P D cls10 [(h0, e0)] U.heap ∧ Kx D C U)) (Qb D Q (va_A [(h0, e0)] sz)) R.cells R.slots (va_A [(h0, e0)] sz)
theorem one_D (A : Nat → Prop) (x : Nat × va_E) (h : A x.1) : va_D A [x] := by
  refine ⟨fun i j p q hi hj _ => ?_, fun k q hk => ?_⟩
  · have h1 := (List.getElem?_eq_some_iff.mp hi).1
    have h2 := (List.getElem?_eq_some_iff.mp hj).1
    simp at h1 h2; omega
  · have h1 := (List.getElem?_eq_some_iff.mp hk).1
    have : k = 0 := by simp at h1; omega
    subst this
    cases hk; exact h
theorem Cb.of {l : Launch} {D : va_G} {C : Nat → ClassId} {μ : MI} {R : Room} {h0 : Nat} {e0 : va_E} {Q : va_W → Prop} (hy : plainName (my μ).cls = true) (hn : (my μ).name = "<init>") (hr : mr μ = none) (hl1 : 1 ≤ mn μ) (k : BW l D C μ R Q 0 [(0, .ref h0)] [] [(h0, e0)] 0 0) : Cb l D C μ R h0 e0 Q := by
  intro sz
  refine Met.ofW (cc := mb μ) (maxL := mn μ) (ret := mr μ) hy rfl ?_
  intro p e s m args below meth c s₁ B hml hv
  obtain ⟨rfl, hsz, hP, hK⟩ := hv
  subst hsz
  have hts := atoms_spec (ws := mw μ) B.pre
  have hin : meth.name = "<init>" := by rw [(name_of_methodNamed B.named B.method).1, hn]
  rw [lg_entry_eq]
  refine k p e s m _ below meth c s.heap [] _ (va_A [(h0, e0)] s.heap.size) ⟨B.exec, B.bytes, by rw [B.returns, hr], hml, findClass_of_methodNamed B.named, fun w hw => hts w (List.mem_cons_of_mem _ hw), B.notSynchronized, hin, hK⟩ hP (one_D _ _ (va_A.in (k := 0) rfl)) va_S.rf (fun q h => Or.inr h) (lv_entry [.ref h0] (by exact hl1))
section BWrows
variable {l : Launch} {D : va_G} {C : Nat → ClassId} {μ : MI} {R : Room} {Q : va_W → Prop} {pc : Nat} {L : List (Nat × Value)} {st : List Value} {ws : va_W} {cc ss : Nat}
theorem BW.eqw {ws' : va_W} (h : ws = ws') (k : BW l D C μ R Q pc L st ws' cc ss) : BW l D C μ R Q pc L st ws cc ss := h ▸ k
theorem BW.aload {n : Fin 4} {i a : Nat} (hd : decode (mb μ) pc = .ok (.aload_n n, 1)) (q : Nat) (hq : L[q]? = some (i, .ref a)) (hi : (n : Nat) = i) (k : BW l D C μ R Q (pc + 1) L (.ref a :: st) ws cc ss) : BW l D C μ R Q pc L st ws cc ss := fun p e s m args below meth c H locs ls A X hP hD hS hA hl => lv_aload_n X.1 X.2.1 hd hi (lv_at hl q hq) (k p e s m args below meth c H locs ls A X hP hD hS hA hl)
theorem BW.iload {n : Fin 4} {i : Nat} {a : Int} (hd : decode (mb μ) pc = .ok (.iload_n n, 1)) (q : Nat) (hq : L[q]? = some (i, vi a)) (hi : (n : Nat) = i) (k : BW l D C μ R Q (pc + 1) L (vi a :: st) ws cc ss) : BW l D C μ R Q pc L st ws cc ss := fun p e s m args below meth c H locs ls A X hP hD hS hA hl => lv_iload_n X.1 X.2.1 hd hi (lv_at hl q hq) (k p e s m args below meth c H locs ls A X hP hD hS hA hl)
theorem BW.istore {n : Fin 4} {i : Nat} {a : Int} (L' : List (Nat × Value)) (hd : decode (mb μ) pc = .ok (.istore_n n, 1)) (hi : (n : Nat) = i) (hn : i < mn μ) (hL : (i, vi a) :: L.filter (fun q => !(q.1 == i) && !(q.1 + 1 == i && q.2.category == 2)) = L') (k : BW l D C μ R Q (pc + 1) L' st ws cc ss) : BW l D C μ R Q pc L (vi a :: st) ws cc ss := fun p e s m args below meth c H locs ls A X hP hD hS hA hl => lv_istore_n X.1 X.2.1 hd hi hl hn hL (fun ls hl => k p e s m args below meth c H locs ls A X hP hD hS hA hl)
theorem BW.iinc {i : Nat} {n a : Int} (L' : List (Nat × Value)) (hd : decode (mb μ) pc = .ok (.iinc i n, 3)) (q : Nat) (hq : L[q]? = some (i, vi a)) (hn : i < mn μ) (z : Int) (hz : a + n = z) (hL : (i, vi z) :: L.filter (fun q => !(q.1 == i) && !(q.1 + 1 == i && q.2.category == 2)) = L') (k : BW l D C μ R Q (pc + 3) L' st ws cc ss) : BW l D C μ R Q pc L st ws cc ss := fun p e s m args below meth c H locs ls A X hP hD hS hA hl => lv_iinc (v := Int32.ofInt z) X.1 X.2.1 hd hl hq (by rw [i32_add, hz]) hn hL (fun ls hl => k p e s m args below meth c H locs ls A X hP hD hS hA hl)
theorem BW.iconst {n : Int} (hd : decode (mb μ) pc = .ok (.iconst n, 1)) (k : BW l D C μ R Q (pc + 1) L (vi n :: st) ws cc ss) : BW l D C μ R Q pc L st ws cc ss := fun p e s m args below meth c H locs ls A X hP hD hS hA hl => lv_iconst X.1 X.2.1 hd rfl (k p e s m args below meth c H locs ls A X hP hD hS hA hl)
theorem BW.bipush {n z : Int} (hd : decode (mb μ) pc = .ok (.bipush n, 2)) (hz : (Int8.ofInt n).toInt32 = Int32.ofInt z) (k : BW l D C μ R Q (pc + 2) L (vi z :: st) ws cc ss) : BW l D C μ R Q pc L st ws cc ss := fun p e s m args below meth c H locs ls A X hP hD hS hA hl => lv_bipush X.1 X.2.1 hd hz (k p e s m args below meth c H locs ls A X hP hD hS hA hl)
theorem BW.sipush {n z : Int} (hd : decode (mb μ) pc = .ok (.sipush n, 3)) (hz : (Int16.ofInt n).toInt32 = Int32.ofInt z) (k : BW l D C μ R Q (pc + 3) L (vi z :: st) ws cc ss) : BW l D C μ R Q pc L st ws cc ss := fun p e s m args below meth c H locs ls A X hP hD hS hA hl => lv_sipush X.1 X.2.1 hd hz (k p e s m args below meth c H locs ls A X hP hD hS hA hl)
theorem BW.dup {v : Value} (hd : decode (mb μ) pc = .ok (.dup, 1)) (hv : v.category = 1) (k : BW l D C μ R Q (pc + 1) L (v :: v :: st) ws cc ss) : BW l D C μ R Q pc L (v :: st) ws cc ss := fun p e s m args below meth c H locs ls A X hP hD hS hA hl => lv_dup X.1 X.2.1 hd hv (k p e s m args below meth c H locs ls A X hP hD hS hA hl)
theorem BW.goto {off : Int} (tgt : Nat) (hd : decode (mb μ) pc = .ok (.goto off, 3)) (ht : (pc : Int) + off = (tgt : Int)) (k : BW l D C μ R Q tgt L st ws cc ss) : BW l D C μ R Q pc L st ws cc ss := fun p e s m args below meth c H locs ls A X hP hD hS hA hl => lv_goto X.1 X.2.1 hd ht (k p e s m args below meth c H locs ls A X hP hD hS hA hl)
theorem BW.ge {a b off : Int} (tgt : Nat) (hd : decode (mb μ) pc = .ok (.if_icmp .ge off, 3)) (ht : (pc : Int) + off = (tgt : Int)) (ha : -2147483648 ≤ a ∧ a < 2147483648) (hb : -2147483648 ≤ b ∧ b < 2147483648) (kt : b ≤ a → BW l D C μ R Q tgt L st ws cc ss) (kf : ¬ b ≤ a → BW l D C μ R Q (pc + 3) L st ws cc ss) : BW l D C μ R Q pc L (vi b :: vi a :: st) ws cc ss := fun p e s m args below meth c H locs ls A X hP hD hS hA hl => lv_icmp_ge X.1 X.2.1 hd ht (fun q => kt ((i32_le hb ha).mp q) p e s m args below meth c H locs ls A X hP hD hS hA hl) (fun q => kf (fun r => q ((i32_le hb ha).mpr r)) p e s m args below meth c H locs ls A X hP hD hS hA hl)
/-- Object's own maker -/
def OI (own : String) (idx : Nat) : Prop := Cond.methodLink own idx objectInit ∈ tb ∧ Cond.instanceMethod objectInit ∈ tb ∧ Cond.code objectInit ⟨#[0xb1]⟩ 1 none ∈ tb
theorem BW.objI {idx a : Nat} (hd : decode (mb μ) pc = .ok (.invokespecial idx, 3)) (hO : OI (my μ).cls idx) (hf : 1 ≤ R.frames) (hlo : (st.map fun v => v.category).sum + 12 ≤ R.locals) (k : BW l D C μ R Q (pc + 3) L st ws cc ss) : BW l D C μ R Q pc L (.ref a :: st) ws cc ss := by
  intro p e s m args below meth c H locs ls A X hP hD hS hA hl
  have h0 : (F0 m pc ls (Value.ref a :: st)).monitorRoom = 0 := rfl
  refine W.objInit X.1 X.2.1 X.2.2.2.2.1 (X.2.2.2.2.2.1 _ hO.1) (X.2.2.2.2.2.1 _ hO.2.1) (X.2.2.2.2.2.1 _ hO.2.2) rfl (by rw [X.2.2.2.1]; exact hl.1) rfl hd hf (by rw [h0]; omega) ?_
  exact W.eq (g2 := F0 m (pc + 3) ls st) rfl (k p e s m args below meth c H locs ls A X hP hD hS hA hl)
theorem BW.newI {n : Int} {N : Nat} (hd : decode (mb μ) pc = .ok (.newarray .int, 2)) (hw : Cond.arrayClass .int ∈ tb) (hn : n = N) (hN : N < 100000) (hc : cc + 1 ≤ R.cells) (hs : ss + N ≤ R.slots) (k : ∀ q : Nat, BW l D C μ R Q (pc + 2) L (.ref q :: st) (ws ++ [(q, .inl (C 0, N, .inl (fun _ => Int32.ofInt 0)))]) (cc + 1) (ss + N)) : BW l D C μ R Q pc L (vi n :: st) ws cc ss := by
  intro p e s m args below meth c H locs ls A X hP hD hS hA hl
  refine va_newa (atype := .int) (ty := .int) (a0 := (N, .inl (fun _ => Int32.ofInt 0))) X.1 X.2.1 (X.2.2.2.2.2.1 _ hw) rfl X.2.2.2.2.2.2.2.2.1 hP hD hS hA (fun cA => rfl) (fun q => by rw [i32_0, i32_lt ⟨by omega, by omega⟩ ⟨by omega, by omega⟩] at q; omega) (by rw [i32_nat ⟨by omega, by omega⟩]; omega) (by show N * 4 ≤ _; omega) hc hs hd (fun q cA H1 hK hP1 hD1 hS1 => ?_)
  have e1 : s.vm.findClass ("[" ++ FieldType.int.toString) = some cA := (hK.2 4 _ rfl).2
  have e2 : s.vm.findClass ("[" ++ FieldType.int.toString) = some (C 0) := (hK.2 0 _ rfl).2
  have e3 : cA = C 0 := Option.some.inj (e1.symm.trans e2)
  subst e3
  exact k q p e s m args below meth c H1 locs ls A X hP1 hD1 hS1 hA hl
theorem BW.newL {n : Int} {N : Nat} (hd : decode (mb μ) pc = .ok (.newarray .long, 2)) (hw : Cond.arrayClass .long ∈ tb) (hn : n = N) (hN : N < 100000) (hc : cc + 1 ≤ R.cells) (hs : ss + N ≤ R.slots) (k : ∀ q : Nat, BW l D C μ R Q (pc + 2) L (.ref q :: st) (ws ++ [(q, .inl (C 1, N, .inr (.inl (fun _ => Int64.ofInt 0))))]) (cc + 1) (ss + N)) : BW l D C μ R Q pc L (vi n :: st) ws cc ss := by
  intro p e s m args below meth c H locs ls A X hP hD hS hA hl
  refine va_newa (atype := .long) (ty := .long) (a0 := (N, .inr (.inl (fun _ => Int64.ofInt 0)))) X.1 X.2.1 (X.2.2.2.2.2.1 _ hw) rfl X.2.2.2.2.2.2.2.2.1 hP hD hS hA (fun cA => rfl) (fun q => by rw [i32_0, i32_lt ⟨by omega, by omega⟩ ⟨by omega, by omega⟩] at q; omega) (by rw [i32_nat ⟨by omega, by omega⟩]; omega) (by show N * 8 ≤ _; omega) hc hs hd (fun q cA H1 hK hP1 hD1 hS1 => ?_)
  have e1 : s.vm.findClass ("[" ++ FieldType.long.toString) = some cA := (hK.2 4 _ rfl).2
  have e2 : s.vm.findClass ("[" ++ FieldType.long.toString) = some (C 1) := (hK.2 1 _ rfl).2
  have e3 : cA = C 1 := Option.some.inj (e1.symm.trans e2)
  subst e3
  exact k q p e s m args below meth c H1 locs ls A X hP1 hD1 hS1 hA hl
theorem BW.newS {n : Int} {N idx : Nat} (hd : decode (mb μ) pc = .ok (.anewarray idx, 3)) (hw : Cond.classLink (my μ).cls idx "ArmSignals$Station" ∈ tb) (hn : n = N) (hN : N < 100000) (hc : cc + 1 ≤ R.cells) (hs : ss + N ≤ R.slots) (k : ∀ q : Nat, BW l D C μ R Q (pc + 3) L (.ref q :: st) (ws ++ [(q, .inl (C 2, N, .inr (.inr (.inr (.inr (fun _ => none))))))]) (cc + 1) (ss + N)) : BW l D C μ R Q pc L (vi n :: st) ws cc ss := by
  intro p e s m args below meth c H locs ls A X hP hD hS hA hl
  refine va_newq (C := "ArmSignals$Station") X.1 X.2.1 X.2.2.2.2.1 (X.2.2.2.2.2.1 _ hw) X.2.2.2.2.2.2.2.2.2.1 X.2.2.2.2.2.2.2.2.1 hP hD hS hA (fun q => by rw [i32_0, i32_lt ⟨by omega, by omega⟩ ⟨by omega, by omega⟩] at q; omega) (N' := N) (by rw [i32_nat ⟨by omega, by omega⟩]; omega) (by omega) hc hs hd (fun q cA H1 hK hP1 hD1 hS1 => ?_)
  obtain ⟨_, _, _, _, _, e1⟩ := (hK.2 4 _ rfl).2
  obtain ⟨_, _, _, _, _, e2⟩ := (hK.2 2 _ rfl).2
  have e3 : cA = C 2 := Option.some.inj (e1.symm.trans e2)
  subst e3
  exact k q p e s m args below meth c H1 locs ls A X hP1 hD1 hS1 hA hl
theorem BW.newP {n : Int} {N idx : Nat} (hd : decode (mb μ) pc = .ok (.anewarray idx, 3)) (hw : Cond.classLink (my μ).cls idx "ArmSignals$Paper" ∈ tb) (hn : n = N) (hN : N < 100000) (hc : cc + 1 ≤ R.cells) (hs : ss + N ≤ R.slots) (k : ∀ q : Nat, BW l D C μ R Q (pc + 3) L (.ref q :: st) (ws ++ [(q, .inl (C 3, N, .inr (.inr (.inr (.inr (fun _ => none))))))]) (cc + 1) (ss + N)) : BW l D C μ R Q pc L (vi n :: st) ws cc ss := by
  intro p e s m args below meth c H locs ls A X hP hD hS hA hl
  refine va_newq (C := "ArmSignals$Paper") X.1 X.2.1 X.2.2.2.2.1 (X.2.2.2.2.2.1 _ hw) X.2.2.2.2.2.2.2.2.2.2 X.2.2.2.2.2.2.2.2.1 hP hD hS hA (fun q => by rw [i32_0, i32_lt ⟨by omega, by omega⟩ ⟨by omega, by omega⟩] at q; omega) (N' := N) (by rw [i32_nat ⟨by omega, by omega⟩]; omega) (by omega) hc hs hd (fun q cA H1 hK hP1 hD1 hS1 => ?_)
  obtain ⟨_, _, _, _, _, e1⟩ := (hK.2 4 _ rfl).2
  obtain ⟨_, _, _, _, _, e2⟩ := (hK.2 3 _ rfl).2
  have e3 : cA = C 3 := Option.some.inj (e1.symm.trans e2)
  subst e3
  exact k q p e s m args below meth c H1 locs ls A X hP1 hD1 hS1 hA hl
/-- a new object -/
def NW (own : String) (idx ci N : Nat) (fs : List Value) : Prop := ∃ (Cn : String) (T : u_T) (ty : Nat → FieldType), cls10[ci]? = some (Cn, T, N) ∧ Cond.classLink own idx Cn ∈ tb ∧ Cond.instantiable Cn N ∈ tb ∧ Cond.initialized Cn ∈ tb ∧ (∀ w ∈ u_ws Cn T N, w ∈ tb) ∧ (∀ k, k < N → parseFieldDescriptor (T k).2.2.1 = some (ty k)) ∧ ∀ j, j < N → defaultValue (ty j) = vp_V fs j
theorem BW.new {idx ci N : Nat} {fs : List Value} (hd : decode (mb μ) pc = .ok (.new idx, 3)) (hN : NW (my μ).cls idx ci N fs) (hc : cc + 1 ≤ R.cells) (hs : ss + N ≤ R.slots) (k : ∀ q : Nat, BW l D C μ R Q (pc + 3) L (.ref q :: st) (ws ++ [(q, .inr (ci, fs))]) (cc + 1) (ss + N)) : BW l D C μ R Q pc L st ws cc ss := by
  intro p e s m args below meth c H locs ls A X hP hD hS hA hl
  obtain ⟨Cn, T, ty, h1, h2, h3, h4, h5, h6, h7⟩ := hN
  exact va_new (ci := ci) (fs := fs) X.1 X.2.1 X.2.2.2.2.2.1 h5 ty h6 X.2.2.2.2.1 (X.2.2.2.2.2.1 _ h2) (X.2.2.2.2.2.1 _ h3) (X.2.2.2.2.2.1 _ h4) X.2.2.2.2.2.2.2.2.1 hP hD hS hA h1 h7 hc hs hd (fun q H1 hP1 hD1 hS1 => k q p e s m args below meth c H1 locs ls A X hP1 hD1 hS1 hA hl)
/-- a final field -/
def FF (own : String) (idx ci j : Nat) (ty : FieldType) : Prop := ∃ (C : String) (T : u_T) (N : Nat), cls10[ci]? = some (C, T, N) ∧ j < N ∧ Cond.fieldLink own idx C (T j).2.1 (T j).2.2.1 ∈ tb ∧ (∀ w ∈ u_ws C T N, w ∈ tb) ∧ (T j).1 = C ∧ (∃ ty0 : Nat → FieldType, ∀ k, k < N → parseFieldDescriptor (T k).2.2.1 = some (ty0 k)) ∧ (∀ a, a < N → ∀ b, b < N → a ≠ b → (T a).2.1 ≠ (T b).2.1) ∧ (T j).2.2.2 = true ∧ parseFieldDescriptor (T j).2.2.1 = some ty ∧ C = own
theorem BW.putF {idx ci j a : Nat} {ty : FieldType} {v : Value} {fs : List Value} (hd : decode (mb μ) pc = .ok (.putfield idx, 3)) (hF : FF (my μ).cls idx ci j ty) (q0 : Nat) (he : ws[q0]? = some (a, .inr (ci, fs))) (hn : narrow ty v = v) (hfit : fits ty v = true) (hl : j < fs.length) (k : BW l D C μ R Q (pc + 3) L st (ws.set q0 (a, .inr (ci, fs.set j v))) cc ss) : BW l D C μ R Q pc L (v :: .ref a :: st) ws cc ss := by
  intro p e s m args below meth c H locs ls A X hP hD hS hA hll
  obtain ⟨C0, T, N, h1, h2, h3, h4, h5, ⟨ty0, h6⟩, h7, h8, h9, h10⟩ := hF
  exact va_putF (D := D) (ci := ci) (v := v) (ty := ty) X.1 X.2.1 X.2.2.2.2.2.1 h4 ty0 h6 h7 X.2.2.2.2.1 X.2.2.2.2.2.2.2.2.1 hP hD hS q0 he h1 j h2 (X.2.2.2.2.2.1 _ h3) (fun x hx => by rw [← h5]; exact hx) h8 X.2.2.2.2.2.2.2.1 (h5.trans h10) h9 hn hfit hl hd (fun H1 locs1 hP1 hD1 hS1 => k p e s m args below meth c H1 locs1 ls A X hP1 hD1 hS1 hA hll)
theorem BW.put {idx ci j a : Nat} {ty : FieldType} {v : Value} {fs : List Value} (hd : decode (mb μ) pc = .ok (.putfield idx, 3)) (hF : FP (my μ).cls idx ci j ty) (q0 : Nat) (he : ws[q0]? = some (a, .inr (ci, fs))) (hn : narrow ty v = v) (hfit : fits ty v = true) (hl : j < fs.length) (k : BW l D C μ R Q (pc + 3) L st (ws.set q0 (a, .inr (ci, fs.set j v))) cc ss) : BW l D C μ R Q pc L (v :: .ref a :: st) ws cc ss := by
  intro p e s m args below meth c H locs ls A X hP hD hS hA hll
  obtain ⟨C0, T, N, h1, h2, h3, h4, h5, ⟨ty0, h6⟩, h7, h8, h9⟩ := hF
  exact va_put (D := D) (ci := ci) (v := v) (ty := ty) X.1 X.2.1 X.2.2.2.2.2.1 h4 ty0 h6 h7 X.2.2.2.2.1 X.2.2.2.2.2.2.2.2.1 hP hD hS q0 he h1 j h2 (X.2.2.2.2.2.1 _ h3) (fun x hx => by rw [← h5]; exact hx) h8 h9 hn hfit hl hd (fun H1 locs1 hP1 hD1 hS1 => k p e s m args below meth c H1 locs1 ls A X hP1 hD1 hS1 hA hll)
theorem BW.getR {idx ci j a : Nat} {v : Value} {fs : List Value} (hd : decode (mb μ) pc = .ok (.getfield idx, 3)) (hF : FL (my μ).cls idx ci j) (q0 : Nat) (he : ws[q0]? = some (a, .inr (ci, fs))) (hv : fs[j]? = some v) (k : BW l D C μ R Q (pc + 3) L (v :: st) ws cc ss) : BW l D C μ R Q pc L (.ref a :: st) ws cc ss := by
  intro p e s m args below meth c H locs ls A X hP hD hS hA hl
  obtain ⟨C0, T, N, h1, h2, h3, h4, h5⟩ := hF
  exact va_get (D := D) (ci := ci) (v := v) X.1 X.2.1 X.2.2.2.2.2.1 h4 X.2.2.2.2.1 X.2.2.2.2.2.2.2.2.1 hP q0 he h1 j h2 (X.2.2.2.2.2.1 _ h3) (fun x hx => by rw [← h5]; exact hx) hv hd (k p e s m args below meth c H locs ls A X hP hD hS hA hl)
theorem BW.iast {a n : Nat} {i z : Int} {f : Nat → Int} (hd : decode (mb μ) pc = .ok (.iastore, 1)) (q0 : Nat) (he : ws[q0]? = some (a, .inl (C 0, n, .inl (fun j => Int32.ofInt (f j))))) (h0 : 0 ≤ i) (h1 : i < n) (hn : n < 2147483648) (k : BW l D C μ R Q (pc + 1) L st (ws.set q0 (a, .inl (C 0, n, .inl (fun j => Int32.ofInt (up1 f i.toNat z j))))) cc ss) : BW l D C μ R Q pc L (vi z :: vi i :: .ref a :: st) ws cc ss := by
  intro p e s m args below meth c H locs ls A X hP hD hS hA hl
  refine va_iast (D := D) X.1 X.2.1 X.2.2.2.2.2.2.2.2.1 hP hD hS q0 0 he rfl (i32_in h0 h1 hn) hd (fun H1 locs1 hP1 hD1 hS1 => ?_)
  rw [i32_nat ⟨h0, by omega⟩, upd_i] at hP1 hD1
  exact k p e s m args below meth c H1 locs1 ls A X hP1 hD1 hS1 hA hl
theorem BW.aastS {a n v : Nat} {i : Int} {vs : List Value} {f : Nat → Option Nat} (hd : decode (mb μ) pc = .ok (.aastore, 1)) (q0 qk : Nat) (he : ws[q0]? = some (a, .inl (C 2, n, .inr (.inr (.inr (.inr f)))))) (hv : ws[qk]? = some (v, .inr (5, vs))) (h0 : 0 ≤ i) (h1 : i < n) (hn : n < 2147483648) (k : BW l D C μ R Q (pc + 1) L st (ws.set q0 (a, .inl (C 2, n, .inr (.inr (.inr (.inr (va_up f i.toNat (some v)))))))) cc ss) : BW l D C μ R Q pc L (.ref v :: vi i :: .ref a :: st) ws cc ss := by
  intro p e s m args below meth c H locs ls A X hP hD hS hA hl
  refine va_astq (D := D) X.1 X.2.1 X.2.2.2.2.2.2.2.2.1 hP hD hS q0 2 qk 5 he rfl hv (r := (RX5, TX5, 8)) rfl (i32_in h0 h1 hn) hd (fun H1 locs1 hP1 hD1 hS1 => ?_)
  rw [i32_nat ⟨h0, by omega⟩] at hP1 hD1
  exact k p e s m args below meth c H1 locs1 ls A X hP1 hD1 hS1 hA hl
theorem BW.aastP {a n v : Nat} {i : Int} {vs : List Value} {f : Nat → Option Nat} (hd : decode (mb μ) pc = .ok (.aastore, 1)) (q0 qk : Nat) (he : ws[q0]? = some (a, .inl (C 3, n, .inr (.inr (.inr (.inr f)))))) (hv : ws[qk]? = some (v, .inr (1, vs))) (h0 : 0 ≤ i) (h1 : i < n) (hn : n < 2147483648) (k : BW l D C μ R Q (pc + 1) L st (ws.set q0 (a, .inl (C 3, n, .inr (.inr (.inr (.inr (va_up f i.toNat (some v)))))))) cc ss) : BW l D C μ R Q pc L (.ref v :: vi i :: .ref a :: st) ws cc ss := by
  intro p e s m args below meth c H locs ls A X hP hD hS hA hl
  refine va_astq (D := D) X.1 X.2.1 X.2.2.2.2.2.2.2.2.1 hP hD hS q0 3 qk 1 he rfl hv (r := (RX1, TX1, 4)) rfl (i32_in h0 h1 hn) hd (fun H1 locs1 hP1 hD1 hS1 => ?_)
  rw [i32_nat ⟨h0, by omega⟩] at hP1 hD1
  exact k p e s m args below meth c H1 locs1 ls A X hP1 hD1 hS1 hA hl
theorem BW.vret (hd : decode (mb μ) pc = .ok (.return_, 1)) (hc : cc ≤ R.cells) (hs : ss ≤ R.slots) (hq : Q ws) : BW l D C μ R Q pc L [] ws cc ss := by
  intro p e s m args below meth c H locs ls A X hP hD hS hA hl
  refine W.widen (k := R.cells) (n := R.slots) hc hs ?_
  exact W.vret X.1 X.2.1 X.2.2.1 (fun t ht hW => ⟨⟨ws, rfl, hq, by rw [ht]; exact hP, hD⟩, hS.F ht⟩) hS.2.2 hd X.2.2.2.2.2.2.1
/-- behind a maker's call: the other cells, and what it made -/
theorem join1 {A : Nat → Prop} {ws w1 : va_W} {q : Nat} {e0 : va_E} {H H1 : Heap} (hP : va_P D cls10 (ws ++ [(q, e0)]) H) (hD : va_D A (ws ++ [(q, e0)])) (hk : ∀ a : Nat, a < H.size → ¬ va_A [(q, e0)] H.size a → H1[a]? = H[a]?) (hF : ∀ a, va_A [(q, e0)] H.size a → A a) (hP1 : va_P D cls10 w1 H1) (hD1 : va_D (va_A [(q, e0)] H.size) w1) : va_P D cls10 (ws ++ w1) H1 ∧ va_D A (ws ++ w1) := by
  have lft : ∀ (k : Nat) (x : Nat × va_E), ws[k]? = some x → (ws ++ [(q, e0)])[k]? = some x := fun k x hx => by
    rw [List.getElem?_append_left (List.getElem?_eq_some_iff.mp hx).1]; exact hx
  have apart : ∀ (k : Nat) (x : Nat × va_E), ws[k]? = some x → x.1 < H.size ∧ ¬ va_A [(q, e0)] H.size x.1 := fun k x hx => by
    have hl := (hP k x (lft k x hx)).lt
    refine ⟨hl, fun h => ?_⟩
    rcases h with ⟨k2, e, h⟩ | h
    · have hk0 : k2 = 0 := by
        have := (List.getElem?_eq_some_iff.mp h).1
        simp at this; omega
      subst hk0
      have hxq : q = x.1 := by
        have := Option.some.inj h
        exact (Prod.mk.inj this).1
      have hij := hD.1 k ws.length x (q, e0) (lft k x hx) (by simp) hxq.symm
      have := (List.getElem?_eq_some_iff.mp hx).1
      omega
    · omega
  refine ⟨va_P.app (fun k x hx => ?_) hP1, va_D.app ⟨fun i j a b hi hj h => hD.1 i j a b (lft i a hi) (lft j b hj) h, fun k x hx => hD.2 k x (lft k x hx)⟩ (hD1.weaken (fun k x _ h => hF x.1 h)) (fun i j x y hx hy hxy => ?_)⟩
  · obtain ⟨g1, g2⟩ := apart k x hx
    exact (hP k x (lft k x hx)).kept (hk x.1 g1 g2)
  · exact (apart i x hx).2 (by rw [hxy]; exact hD1.2 j y hy)
def IC (own : String) (idx : Nat) (μ' : MI) : Prop := Cond.methodLink own idx (my μ') ∈ tb ∧ Cond.instanceMethod (my μ') ∈ tb ∧ Cond.initialized (my μ').cls ∈ tb ∧ Cond.code (my μ') (mb μ') (mn μ') (mr μ') ∈ tb ∧ (my μ').name = "<init>" ∧ mr μ' = none ∧ ((my μ').cls ≠ "java/lang/invoke/MethodHandle" ∧ (my μ').cls ≠ "java/lang/invoke/VarHandle" ∧ (parseMethodDescriptor (my μ').desc).map (fun d => d.parameters.length) = some 0)
theorem BW.make {μ' : MI} {R' : Room} {Q' : va_W → Prop} {idx q : Nat} {e0 : va_E} (hC : Cb l D C μ' R' q e0 Q') (hd : decode (mb μ) pc = .ok (.invokespecial idx, 3)) (hM : IC (my μ).cls idx μ') (hR : R'.frames + 1 ≤ R.frames ∧ 8 + (mn μ' + 11) + R'.locals ≤ R.locals) (hcap : cc + R'.cells ≤ R.cells ∧ ss + R'.slots ≤ R.slots) (hw : (st.map fun v => v.category).sum ≤ 8) (k : ∀ w1 : va_W, Q' w1 → BW l D C μ R Q (pc + 3) L st (ws ++ w1) (cc + R'.cells) (ss + R'.slots)) : BW l D C μ R Q pc L (.ref q :: st) (ws ++ [(q, e0)]) cc ss := by
  intro p e s m args below meth c H locs ls A X hP hD hS hA hl
  obtain ⟨h1, h2, h3, h4, h5, h6, h7⟩ := hM
  have hts := X.2.2.2.2.2.1
  have hPc : va_P D cls10 [(q, e0)] H := fun k x hx => by
    have hk0 : k = 0 := by
      have := (List.getElem?_eq_some_iff.mp hx).1
      simp at this; omega
    subst hk0
    exact hP ws.length x (by simpa using hx)
  have hFc : ∀ a, va_A [(q, e0)] H.size a → A a := va_free (wc := [(q, e0)]) hD hS hA [ws.length] (by simp)
  have hg := tb_good h4
  have cw := cwI (R := R) (s := s) (args := args) (own := (my μ).cls) (index := idx) (y := my μ') (bytes := mb μ') (maxL := mn μ') (ws := mw μ') (ws' := tb) (rm := R') (mc := R'.cells) (ms := R'.slots) 0 hts hg (by show Cond.code (my μ') (mb μ') (mn μ') (mr μ') :: tb = _; rw [h6]) rfl rfl (hts _ h3) (hts _ h1) (hts _ h2) h5 h7 hR
  refine va_callv (va_runI (As := []) (rest := st) ⟨X.1, X.2.1, X.2.2.2.1, X.2.2.2.2.1, hts⟩ (hC H.size) cw ⟨fun a U g mk qq => ?_, fun U hU hW => ⟨rfl, by rw [hU], by rw [hU]; exact hPc, Kx.moved hW.alike X.2.2.2.2.2.2.2.2⟩⟩ rfl rfl hl.1 rfl (lv_room hw) hd hcap) hS (fun a _ h => hFc a h) hFc (fun w1 t H1 locs1 ht hvm hq hB hz1 hk1 hS1 => ?_)
  · obtain ⟨q0, q1, qP, qK⟩ := qq
    exact ⟨q0, q1, qP, Kx.moved (u := U) (U := U.calling g mk a) (Vm.Alike.refl U.vm) qK⟩
  · obtain ⟨hP1, hD1⟩ := hB
    rw [ht] at hP1
    obtain ⟨hP2, hD2⟩ := join1 hP hD hk1 hFc hP1 hD1
    exact k w1 hq p e s m args below meth c H1 locs1 ls A X hP2 hD2 hS1 hA hl
end BWrows
