/-! rows that read and write cells; calls -/
/-- a link to a field: its class's place, the field's place -/
def FL (own : String) (idx ci j : Nat) : Prop := ∃ (C : String) (T : u_T) (N : Nat), cls10[ci]? = some (C, T, N) ∧ j < N ∧ Cond.fieldLink own idx C (T j).2.1 (T j).2.2.1 ∈ tb ∧ (∀ w ∈ u_ws C T N, w ∈ tb) ∧ (T j).1 = C
/-- and it may be written -/
def FP (own : String) (idx ci j : Nat) (ty : FieldType) : Prop := ∃ (C : String) (T : u_T) (N : Nat), cls10[ci]? = some (C, T, N) ∧ j < N ∧ Cond.fieldLink own idx C (T j).2.1 (T j).2.2.1 ∈ tb ∧ (∀ w ∈ u_ws C T N, w ∈ tb) ∧ (T j).1 = C ∧ (∃ ty0 : Nat → FieldType, ∀ k, k < N → parseFieldDescriptor (T k).2.2.1 = some (ty0 k)) ∧ (∀ a, a < N → ∀ b, b < N → a ≠ b → (T a).2.1 ≠ (T b).2.1) ∧ (T j).2.2.2 = false ∧ parseFieldDescriptor (T j).2.2.1 = some ty
def MS (own : String) (idx : Nat) (μ' : MI) (n : Nat) : Prop := Cond.methodLink own idx (my μ') ∈ tb ∧ Cond.static (my μ') ∈ tb ∧ Cond.initialized (my μ').cls ∈ tb ∧ Cond.code (my μ') (mb μ') (mn μ') (mr μ') ∈ tb ∧ ((my μ').cls ≠ "java/lang/invoke/MethodHandle" ∧ (my μ').cls ≠ "java/lang/invoke/VarHandle" ∧ (parseMethodDescriptor (my μ').desc).map (fun d => d.parameters.length) = some n)
def MV (own : String) (idx : Nat) (μ' : MI) (ci n : Nat) : Prop := Cond.methodLink own idx (my μ') ∈ tb ∧ Cond.instanceMethod (my μ') ∈ tb ∧ Cond.selects (my μ').cls (my μ') (my μ') ∈ tb ∧ Cond.initialized (my μ').cls ∈ tb ∧ Cond.code (my μ') (mb μ') (mn μ') (mr μ') ∈ tb ∧ ((my μ').cls ≠ "java/lang/invoke/MethodHandle" ∧ (my μ').cls ≠ "java/lang/invoke/VarHandle" ∧ (parseMethodDescriptor (my μ').desc).map (fun d => d.parameters.length) = some n) ∧ ∃ (T : u_T) (N : Nat), cls10[ci]? = some ((my μ').cls, T, N)
def MN (own : String) (idx : Nat) (μ' : MI) (n : Nat) : Prop := Cond.methodLinkNest own idx (my μ') "ArmSignals" ∈ nestW ∧ Cond.static (my μ') ∈ tb ∧ Cond.initialized (my μ').cls ∈ tb ∧ Cond.code (my μ') (mb μ') (mn μ') (mr μ') ∈ tb ∧ ((my μ').cls ≠ "java/lang/invoke/MethodHandle" ∧ (my μ').cls ≠ "java/lang/invoke/VarHandle" ∧ (parseMethodDescriptor (my μ').desc).map (fun d => d.parameters.length) = some n)
theorem cells_obj (Γ : GC) (M : Mm) {k ci : Nat} {fs : List (Option Nat)} (hs : sh k = (0, ci, fs)) : (cells Γ M)[k]? = some (gad Γ k, .inr (ci, mkF (gad Γ) (M k) 0 fs)) := by
  rw [cells_at Γ M (sh_lt hs (by simp)), hs]; rfl
theorem cells_int (Γ : GC) (M : Mm) {k n : Nat} {fs : List (Option Nat)} (hs : sh k = (1, n, fs)) : (cells Γ M)[k]? = some (gad Γ k, .inl (gC Γ 0, n, .inl (fun j => Int32.ofInt (M k j)))) := by
  rw [cells_at Γ M (sh_lt hs (by simp)), hs]; rfl
theorem cells_long (Γ : GC) (M : Mm) {k n : Nat} {fs : List (Option Nat)} (hs : sh k = (2, n, fs)) : (cells Γ M)[k]? = some (gad Γ k, .inl (gC Γ 1, n, .inr (.inl (fun j => Int64.ofInt (M k j))))) := by
  rw [cells_at Γ M (sh_lt hs (by simp)), hs]; rfl
theorem cells_rfs (Γ : GC) (M : Mm) {k t : Nat} {fs : List (Option Nat)} (hs : sh k = (3, t, fs)) : (cells Γ M)[k]? = some (gad Γ k, .inl (gC Γ t, fs.length, .inr (.inr (.inr (.inr (fun j => (fs.getD j none).map (gad Γ))))))) := by
  rw [cells_at Γ M (sh_lt hs (by simp)), hs]; rfl
theorem cells_sobj (Γ : GC) (M : Mm) {k ci j : Nat} {fs : List (Option Nat)} (z : Int) (hs : sh k = (0, ci, fs)) (hj : fs[j]? = some none) : (cells Γ M).set k (gad Γ k, .inr (ci, (mkF (gad Γ) (M k) 0 fs).set j (vi z))) = cells Γ (up2 M k j z) := by
  refine cells_set Γ M (sh_lt hs (by simp)) (up1 (M k) j z) ?_
  rw [hs, mkF_set _ _ _ _ _ _ hj, Nat.zero_add]; rfl
theorem cells_sint (Γ : GC) (M : Mm) {k n : Nat} {fs : List (Option Nat)} (hs : sh k = (1, n, fs)) (f : Nat → Int) : (cells Γ M).set k (gad Γ k, .inl (gC Γ 0, n, .inl (fun j => Int32.ofInt (f j)))) = cells Γ (upM M k f) := by
  refine cells_set Γ M (sh_lt hs (by simp)) f ?_
  rw [hs]; rfl
theorem cells_slong (Γ : GC) (M : Mm) {k n : Nat} {fs : List (Option Nat)} (hs : sh k = (2, n, fs)) (f : Nat → Int) : (cells Γ M).set k (gad Γ k, .inl (gC Γ 1, n, .inr (.inl (fun j => Int64.ofInt (f j))))) = cells Γ (upM M k f) := by
  refine cells_set Γ M (sh_lt hs (by simp)) f ?_
  rw [hs]; rfl
theorem upd_i (f : Nat → Int) (i : Nat) (z : Int) : upd (fun j => Int32.ofInt (f j)) i (Int32.ofInt z) = fun j => Int32.ofInt (up1 f i z j) := by
  funext j; simp only [upd, up1]; split <;> rfl
theorem upd_l (f : Nat → Int) (i : Nat) (z : Int) : vp_updL (fun j => Int64.ofInt (f j)) i (Int64.ofInt z) = fun j => Int64.ofInt (up1 f i z j) := by
  funext j; simp only [vp_updL, up1]; split <;> rfl
theorem cpy_i (f g : Nat → Int) (a b n : Nat) : va_cpy (fun j => Int32.ofInt (f j)) (fun j => Int32.ofInt (g j)) a b n = fun j => Int32.ofInt (va_cpy f g a b n j) := by
  funext j; simp only [va_cpy]; split <;> rfl
theorem cpy_l (f g : Nat → Int) (a b n : Nat) : va_cpy (fun j => Int64.ofInt (f j)) (fun j => Int64.ofInt (g j)) a b n = fun j => Int64.ofInt (va_cpy f g a b n j) := by
  funext j; simp only [va_cpy]; split <;> rfl
section AWheap
variable {Γ : GC} {μ : MI} {pc : Nat} {L : List (Nat × Value)} {st : List Value} {M : Mm} {Q : Int → Mm → Prop}
theorem Cx.own {p : Program} {s : State} {m : MethodId} {args : Array Value} {meth : Method} {c : Code} (C : Cx Γ μ p s m args meth c) : s.vm.findClass (my μ).cls = some m.cls := C.2.2.2.2.1
theorem Cx.ts {p : Program} {s : State} {m : MethodId} {args : Array Value} {meth : Method} {c : Code} (C : Cx Γ μ p s m args meth c) : ∀ w ∈ tb, w.before args s = true := C.2.2.2.2.2.1
theorem Cx.wd {p : Program} {s : State} {m : MethodId} {args : Array Value} {meth : Method} {c : Code} (C : Cx Γ μ p s m args meth c) : Wd Γ s := C.2.2.2.2.2.2.2
theorem AW.getI {idx ci j k : Nat} {fs : List (Option Nat)} (hd : decode (mb μ) pc = .ok (.getfield idx, 3)) (hF : FL (my μ).cls idx ci j) (hs : sh k = (0, ci, fs)) (hj : fs[j]? = some none) (kk : AW Γ μ (pc + 3) L (vi (M k j) :: st) M Q) : AW Γ μ pc L (rf Γ k :: st) M Q := by
  intro p e s m args below meth c H locs ls C hP hS hl
  obtain ⟨C0, T, N, h1, h2, h3, h4, h5⟩ := hF
  refine va_get (D := gD Γ) (ci := ci) (v := vi (M k j)) C.1 C.2.1 C.ts h4 C.own C.wd.2.1 hP k (cells_obj Γ M hs) h1 j h2 (C.ts _ h3) (fun x hx => by rw [← h5]; exact hx) (by rw [mkF_int _ _ _ _ _ hj, Nat.zero_add]) hd (kk p e s m args below meth c H locs ls C hP hS hl)
theorem AW.getR {idx ci j k r : Nat} {fs : List (Option Nat)} (hd : decode (mb μ) pc = .ok (.getfield idx, 3)) (hF : FL (my μ).cls idx ci j) (hs : sh k = (0, ci, fs)) (hj : fs[j]? = some (some r)) (kk : AW Γ μ (pc + 3) L (rf Γ r :: st) M Q) : AW Γ μ pc L (rf Γ k :: st) M Q := by
  intro p e s m args below meth c H locs ls C hP hS hl
  obtain ⟨C0, T, N, h1, h2, h3, h4, h5⟩ := hF
  refine va_get (D := gD Γ) (ci := ci) (v := rf Γ r) C.1 C.2.1 C.ts h4 C.own C.wd.2.1 hP k (cells_obj Γ M hs) h1 j h2 (C.ts _ h3) (fun x hx => by rw [← h5]; exact hx) (by rw [mkF_ref _ _ _ _ _ hj]; rfl) hd (kk p e s m args below meth c H locs ls C hP hS hl)
theorem AW.put {idx ci j k : Nat} {ty : FieldType} {fs : List (Option Nat)} {z : Int} (hd : decode (mb μ) pc = .ok (.putfield idx, 3)) (hF : FP (my μ).cls idx ci j ty) (hs : sh k = (0, ci, fs)) (hj : fs[j]? = some none) (hn : narrow ty (vi z) = vi z) (hfit : fits ty (vi z) = true) (kk : AW Γ μ (pc + 3) L st (up2 M k j z) Q) : AW Γ μ pc L (vi z :: rf Γ k :: st) M Q := by
  intro p e s m args below meth c H locs ls C hP hS hl
  obtain ⟨C0, T, N, h1, h2, h3, h4, h5, ⟨ty0, h6⟩, h7, h8, h9⟩ := hF
  refine va_put (D := gD Γ) (ci := ci) (v := vi z) (ty := ty) C.1 C.2.1 C.ts h4 ty0 h6 h7 C.own C.wd.2.1 hP (cells_D C.wd.1 M) hS k (cells_obj Γ M hs) h1 j h2 (C.ts _ h3) (fun x hx => by rw [← h5]; exact hx) h8 h9 hn hfit (by rw [mkF_len]; exact (List.getElem?_eq_some_iff.mp hj).1) hd (fun H1 locs1 hP1 hD1 hS1 => ?_)
  rw [cells_sobj Γ M z hs hj] at hP1
  exact kk p e s m args below meth c H1 locs1 ls C hP1 hS1 hl
theorem AW.putI {idx ci j k : Nat} {fs : List (Option Nat)} {z : Int} (hd : decode (mb μ) pc = .ok (.putfield idx, 3)) (hF : FP (my μ).cls idx ci j .int) (hs : sh k = (0, ci, fs)) (hj : fs[j]? = some none) (kk : AW Γ μ (pc + 3) L st (up2 M k j z) Q) : AW Γ μ pc L (vi z :: rf Γ k :: st) M Q := AW.put hd hF hs hj rfl rfl kk
theorem AW.putZ {idx ci j k : Nat} {fs : List (Option Nat)} {z : Int} (hd : decode (mb μ) pc = .ok (.putfield idx, 3)) (hF : FP (my μ).cls idx ci j .boolean) (hs : sh k = (0, ci, fs)) (hj : fs[j]? = some none) (hz : z = 0 ∨ z = 1) (kk : AW Γ μ (pc + 3) L st (up2 M k j z) Q) : AW Γ μ pc L (vi z :: rf Γ k :: st) M Q := AW.put hd hF hs hj (by rcases hz with rfl | rfl <;> rfl) (by rcases hz with rfl | rfl <;> rfl) kk
theorem AW.iald {n k : Nat} {i : Int} {fs : List (Option Nat)} (hd : decode (mb μ) pc = .ok (.iaload, 1)) (hs : sh k = (1, n, fs)) (h0 : 0 ≤ i) (h1 : i < n) (hn : n < 2147483648) (kk : AW Γ μ (pc + 1) L (vi (M k i.toNat) :: st) M Q) : AW Γ μ pc L (vi i :: rf Γ k :: st) M Q := by
  intro p e s m args below meth c H locs ls C hP hS hl
  refine va_iald (D := gD Γ) C.1 C.2.1 C.wd.2.1 hP k 0 (cells_int Γ M hs) rfl (i32_in h0 h1 hn) hd ?_
  rw [i32_nat ⟨h0, by omega⟩]
  exact kk p e s m args below meth c H locs ls C hP hS hl
theorem AW.iast {n k : Nat} {i z : Int} {fs : List (Option Nat)} (hd : decode (mb μ) pc = .ok (.iastore, 1)) (hs : sh k = (1, n, fs)) (h0 : 0 ≤ i) (h1 : i < n) (hn : n < 2147483648) (kk : AW Γ μ (pc + 1) L st (up2 M k i.toNat z) Q) : AW Γ μ pc L (vi z :: vi i :: rf Γ k :: st) M Q := by
  intro p e s m args below meth c H locs ls C hP hS hl
  refine va_iast (D := gD Γ) C.1 C.2.1 C.wd.2.1 hP (cells_D C.wd.1 M) hS k 0 (cells_int Γ M hs) rfl (i32_in h0 h1 hn) hd (fun H1 locs1 hP1 hD1 hS1 => ?_)
  rw [i32_nat ⟨h0, by omega⟩, upd_i, cells_sint Γ M hs] at hP1
  exact kk p e s m args below meth c H1 locs1 ls C hP1 hS1 hl
theorem AW.lald {n k : Nat} {i : Int} {fs : List (Option Nat)} (hd : decode (mb μ) pc = .ok (.laload, 1)) (hs : sh k = (2, n, fs)) (h0 : 0 ≤ i) (h1 : i < n) (hn : n < 2147483648) (kk : AW Γ μ (pc + 1) L (vl (M k i.toNat) :: st) M Q) : AW Γ μ pc L (vi i :: rf Γ k :: st) M Q := by
  intro p e s m args below meth c H locs ls C hP hS hl
  refine va_lald (D := gD Γ) C.1 C.2.1 C.wd.2.1 hP k 1 (cells_long Γ M hs) rfl (i32_in h0 h1 hn) hd ?_
  rw [i32_nat ⟨h0, by omega⟩]
  exact kk p e s m args below meth c H locs ls C hP hS hl
theorem AW.last {n k : Nat} {i z : Int} {fs : List (Option Nat)} (hd : decode (mb μ) pc = .ok (.lastore, 1)) (hs : sh k = (2, n, fs)) (h0 : 0 ≤ i) (h1 : i < n) (hn : n < 2147483648) (kk : AW Γ μ (pc + 1) L st (up2 M k i.toNat z) Q) : AW Γ μ pc L (vl z :: vi i :: rf Γ k :: st) M Q := by
  intro p e s m args below meth c H locs ls C hP hS hl
  refine va_last (D := gD Γ) C.1 C.2.1 C.wd.2.1 hP (cells_D C.wd.1 M) hS k 1 (cells_long Γ M hs) rfl (i32_in h0 h1 hn) hd (fun H1 locs1 hP1 hD1 hS1 => ?_)
  rw [i32_nat ⟨h0, by omega⟩, upd_l, cells_slong Γ M hs] at hP1
  exact kk p e s m args below meth c H1 locs1 ls C hP1 hS1 hl
theorem AW.aald2 {k r : Nat} {i : Int} {fs : List (Option Nat)} (hd : decode (mb μ) pc = .ok (.aaload, 1)) (hs : sh k = (3, 2, fs)) (h0 : 0 ≤ i) (h1 : i < fs.length) (hn : fs.length < 2147483648) (hr : fs[i.toNat]? = some (some r)) (kk : AW Γ μ (pc + 1) L (rf Γ r :: st) M Q) : AW Γ μ pc L (vi i :: rf Γ k :: st) M Q := by
  intro p e s m args below meth c H locs ls C hP hS hl
  refine va_aldq (D := gD Γ) C.1 C.2.1 C.wd.2.1 hP k 2 (cells_rfs Γ M hs) rfl (i32_in h0 h1 hn) hd ?_
  rw [i32_nat ⟨h0, by omega⟩, List.getD_eq_getElem?_getD, hr]
  exact kk p e s m args below meth c H locs ls C hP hS hl
theorem AW.aald3 {k r : Nat} {i : Int} {fs : List (Option Nat)} (hd : decode (mb μ) pc = .ok (.aaload, 1)) (hs : sh k = (3, 3, fs)) (h0 : 0 ≤ i) (h1 : i < fs.length) (hn : fs.length < 2147483648) (hr : fs[i.toNat]? = some (some r)) (kk : AW Γ μ (pc + 1) L (rf Γ r :: st) M Q) : AW Γ μ pc L (vi i :: rf Γ k :: st) M Q := by
  intro p e s m args below meth c H locs ls C hP hS hl
  refine va_aldq (D := gD Γ) C.1 C.2.1 C.wd.2.1 hP k 3 (cells_rfs Γ M hs) rfl (i32_in h0 h1 hn) hd ?_
  rw [i32_nat ⟨h0, by omega⟩, List.getD_eq_getElem?_getD, hr]
  exact kk p e s m args below meth c H locs ls C hP hS hl
theorem AW.ilen {n k : Nat} {fs : List (Option Nat)} (hd : decode (mb μ) pc = .ok (.arraylength, 1)) (hs : sh k = (1, n, fs)) (kk : AW Γ μ (pc + 1) L (vi n :: st) M Q) : AW Γ μ pc L (rf Γ k :: st) M Q := by
  intro p e s m args below meth c H locs ls C hP hS hl
  exact va_alen (D := gD Γ) (v := Int32.ofInt n) C.1 C.2.1 C.wd.2.1 hP k 0 (cells_int Γ M hs) (ty := .int) rfl rfl hd (kk p e s m args below meth c H locs ls C hP hS hl)
theorem AW.llen {n k : Nat} {fs : List (Option Nat)} (hd : decode (mb μ) pc = .ok (.arraylength, 1)) (hs : sh k = (2, n, fs)) (kk : AW Γ μ (pc + 1) L (vi n :: st) M Q) : AW Γ μ pc L (rf Γ k :: st) M Q := by
  intro p e s m args below meth c H locs ls C hP hS hl
  exact va_alen (D := gD Γ) (v := Int32.ofInt n) C.1 C.2.1 C.wd.2.1 hP k 1 (cells_long Γ M hs) (ty := .long) rfl rfl hd (kk p e s m args below meth c H locs ls C hP hS hl)
/-- the two static arrays -/
theorem AW.getsL {idx : Nat} (hd : decode (mb μ) pc = .ok (.getstatic idx, 3)) (hw : Cond.fieldLink (my μ).cls idx "ArmSignals" "LESSER" "[I" ∈ tb) (kk : AW Γ μ (pc + 3) L (.ref (gtL Γ) :: st) M Q) : AW Γ μ pc L st M Q := by
  intro p e s m args below meth c H locs ls C hP hS hl
  exact va_gets C.1 C.2.1 C.wd.2.2.1.1 hS C.own (C.ts _ hw) (fun _ h => h) hd (kk p e s m args below meth c H locs ls C hP hS hl)
theorem AW.getsG {idx : Nat} (hd : decode (mb μ) pc = .ok (.getstatic idx, 3)) (hw : Cond.fieldLink (my μ).cls idx "ArmSignals" "GREATER" "[I" ∈ tb) (kk : AW Γ μ (pc + 3) L (.ref (gtG Γ) :: st) M Q) : AW Γ μ pc L st M Q := by
  intro p e s m args below meth c H locs ls C hP hS hl
  exact va_gets C.1 C.2.1 C.wd.2.2.2.1.1 hS C.own (C.ts _ hw) (fun _ h => h) hd (kk p e s m args below meth c H locs ls C hP hS hl)
theorem AW.getsLN {idx : Nat} (hd : decode (mb μ) pc = .ok (.getstatic idx, 3)) (hw : Cond.fieldLinkNest (my μ).cls idx "ArmSignals" "LESSER" "[I" "ArmSignals" ∈ nestW) (kk : AW Γ μ (pc + 3) L (.ref (gtL Γ) :: st) M Q) : AW Γ μ pc L st M Q := by
  intro p e s m args below meth c H locs ls C hP hS hl
  exact va_getsN C.1 C.2.1 C.wd.2.2.1.1 hS C.own (va_Nw.use rfl (C.wd.2.2.2.2.1 _ hw)) (fun _ h => h) hd (kk p e s m args below meth c H locs ls C hP hS hl)
theorem AW.getsGN {idx : Nat} (hd : decode (mb μ) pc = .ok (.getstatic idx, 3)) (hw : Cond.fieldLinkNest (my μ).cls idx "ArmSignals" "GREATER" "[I" "ArmSignals" ∈ nestW) (kk : AW Γ μ (pc + 3) L (.ref (gtG Γ) :: st) M Q) : AW Γ μ pc L st M Q := by
  intro p e s m args below meth c H locs ls C hP hS hl
  exact va_getsN C.1 C.2.1 C.wd.2.2.2.1.1 hS C.own (va_Nw.use rfl (C.wd.2.2.2.2.1 _ hw)) (fun _ h => h) hd (kk p e s m args below meth c H locs ls C hP hS hl)
theorem AW.taldL {i : Int} (hd : decode (mb μ) pc = .ok (.iaload, 1)) (h0 : 0 ≤ i) (h1 : i < 27) (kk : AW Γ μ (pc + 1) L (vi (tl i.toNat) :: st) M Q) : AW Γ μ pc L (vi i :: .ref (gtL Γ) :: st) M Q := by
  intro p e s m args below meth c H locs ls C hP hS hl
  exact va_ti (v := vi (tl i.toNat)) C.1 C.2.1 C.wd.2.2.1.2 hS (i32_in h0 h1 (by decide)) (by rw [i32_nat ⟨h0, by omega⟩]) hd (kk p e s m args below meth c H locs ls C hP hS hl)
theorem AW.taldG {i : Int} (hd : decode (mb μ) pc = .ok (.iaload, 1)) (h0 : 0 ≤ i) (h1 : i < 27) (kk : AW Γ μ (pc + 1) L (vi (tg i.toNat) :: st) M Q) : AW Γ μ pc L (vi i :: .ref (gtG Γ) :: st) M Q := by
  intro p e s m args below meth c H locs ls C hP hS hl
  exact va_ti (v := vi (tg i.toNat)) C.1 C.2.1 C.wd.2.2.2.1.2 hS (i32_in h0 h1 (by decide)) (by rw [i32_nat ⟨h0, by omega⟩]) hd (kk p e s m args below meth c H locs ls C hP hS hl)
/-- System.arraycopy, of ints, of longs -/
def AC (own : String) (idx : Nat) : Prop := Cond.methodLink own idx arraycopyName ∈ tb ∧ Cond.native arraycopyName ∈ tb ∧ Cond.static arraycopyName ∈ tb ∧ Cond.initialized "java/lang/System" ∈ tb
theorem AW.copyI {idx a b n0 n1 : Nat} {sp dp n : Int} {fa fb : List (Option Nat)} (hd : decode (mb μ) pc = .ok (.invokestatic idx, 3)) (hA : AC (my μ).cls idx) (ha : sh a = (1, n0, fa)) (hb : sh b = (1, n1, fb)) (h1 : 0 ≤ sp) (h2 : 0 ≤ dp) (h3 : 0 ≤ n) (h4 : sp + n ≤ n0) (h5 : dp + n ≤ n1) (hn0 : n0 < 2147483648) (hn1 : n1 < 2147483648) (hf : 1 ≤ mf μ) (hw : (st.map fun v => v.category).sum + (nativeFrameWords "java/lang/System" "arraycopy" 5 + 11) ≤ mo μ) (kk : AW Γ μ (pc + 3) L st (upM M b (va_cpy (M a) (M b) sp.toNat dp.toNat n.toNat)) Q) : AW Γ μ pc L (vi n :: vi dp :: rf Γ b :: vi sp :: rf Γ a :: st) M Q := by
  intro p e s m args below meth c H locs ls C hP hS hl
  have neg : ∀ z : Int, 0 ≤ z → z < 2147483648 → ¬ Int32.ofInt z < 0 := fun z g1 g2 q => by
    rw [i32_0, i32_lt ⟨by omega, g2⟩ ⟨by omega, by omega⟩] at q
    omega
  refine va_copyi (D := gD Γ) C.1 C.2.1 (C.2.2.2.1.trans hl.1.symm) C.own (C.ts _ hA.1) (C.ts _ hA.2.1) (C.ts _ hA.2.2.1) (C.ts _ hA.2.2.2) C.wd.2.1 hP (cells_D C.wd.1 M) hS a b 0 0 (cells_int Γ M ha) (cells_int Γ M hb) rfl rfl rfl (neg _ h1 (by omega)) (neg _ h2 (by omega)) (neg _ h3 (by omega)) ?_ ?_ (fun i hi => rfl) hf hw hd (fun H1 locs1 hP1 hD1 hS1 => ?_)
  · rw [i32_nat ⟨h1, by omega⟩, i32_nat ⟨h3, by omega⟩]; omega
  · rw [i32_nat ⟨h2, by omega⟩, i32_nat ⟨h3, by omega⟩]; omega
  · rw [i32_nat ⟨h1, by omega⟩, i32_nat ⟨h2, by omega⟩, i32_nat ⟨h3, by omega⟩, cpy_i, cells_sint Γ M hb] at hP1
    exact kk p e s m args below meth c H1 locs1 ls C hP1 hS1 hl
theorem AW.copyL {idx a b n0 n1 : Nat} {sp dp n : Int} {fa fb : List (Option Nat)} (hd : decode (mb μ) pc = .ok (.invokestatic idx, 3)) (hA : AC (my μ).cls idx) (ha : sh a = (2, n0, fa)) (hb : sh b = (2, n1, fb)) (h1 : 0 ≤ sp) (h2 : 0 ≤ dp) (h3 : 0 ≤ n) (h4 : sp + n ≤ n0) (h5 : dp + n ≤ n1) (hn0 : n0 < 2147483648) (hn1 : n1 < 2147483648) (hf : 1 ≤ mf μ) (hw : (st.map fun v => v.category).sum + (nativeFrameWords "java/lang/System" "arraycopy" 5 + 11) ≤ mo μ) (kk : AW Γ μ (pc + 3) L st (upM M b (va_cpy (M a) (M b) sp.toNat dp.toNat n.toNat)) Q) : AW Γ μ pc L (vi n :: vi dp :: rf Γ b :: vi sp :: rf Γ a :: st) M Q := by
  intro p e s m args below meth c H locs ls C hP hS hl
  have neg : ∀ z : Int, 0 ≤ z → z < 2147483648 → ¬ Int32.ofInt z < 0 := fun z g1 g2 q => by
    rw [i32_0, i32_lt ⟨by omega, g2⟩ ⟨by omega, by omega⟩] at q
    omega
  refine va_copyl (D := gD Γ) C.1 C.2.1 (C.2.2.2.1.trans hl.1.symm) C.own (C.ts _ hA.1) (C.ts _ hA.2.1) (C.ts _ hA.2.2.1) (C.ts _ hA.2.2.2) C.wd.2.1 hP (cells_D C.wd.1 M) hS a b 1 1 (cells_long Γ M ha) (cells_long Γ M hb) rfl rfl rfl (neg _ h1 (by omega)) (neg _ h2 (by omega)) (neg _ h3 (by omega)) ?_ ?_ (fun i hi => rfl) hf hw hd (fun H1 locs1 hP1 hD1 hS1 => ?_)
  · rw [i32_nat ⟨h1, by omega⟩, i32_nat ⟨h3, by omega⟩]; omega
  · rw [i32_nat ⟨h2, by omega⟩, i32_nat ⟨h3, by omega⟩]; omega
  · rw [i32_nat ⟨h1, by omega⟩, i32_nat ⟨h2, by omega⟩, i32_nat ⟨h3, by omega⟩, cpy_l, cells_slong Γ M hb] at hP1
    exact kk p e s m args below meth c H1 locs1 ls C hP1 hS1 hl
/-- calls -/
theorem ct_go {p : Program} {e : Env} {R : Room} {s : State} {m : MethodId} {args : Array Value} {below : List Frame} {meth : Method} {c : Code} {H : Heap} {locs : List Loc} {nc ns : Nat} {Qw : State → Prop} {ls : Array Slot} {st0 rest : List Value} {a : Array Value} {r : Option FieldType} {Qc : Int → Mm → Prop}
    (hr : va_Run p (gl Γ) e R s m args below meth c H locs nc ns 0 0 (F0 m pc ls st0) rest (Qx Γ r Qc a) (gA Γ)) (hS : va_S (gA Γ) s.heap H locs)
    (kk : ∀ (z : Int) (M' : Mm) (H1 : Heap) (locs1 : List Loc), Qc z M' → va_P (gD Γ) cls10 (cells Γ M') H1 → va_S (gA Γ) s.heap H1 locs1 → W p (gl Γ) e R s m args below meth c H1 locs1 nc ns Qw (F0 m (pc + 3) ls ((rv r z).toList ++ rest))) : W p (gl Γ) e R s m args below meth c H locs nc ns Qw (F0 m pc ls st0) := by
  intro T hT X
  obtain ⟨v, st₀, t, T', L', h0, X', hL, e1, e2, ⟨⟨z, M', hv, hq, hp⟩, hz, hk⟩, st⟩ := hr T hT X
  cases hv
  rw [h0] at hz hk
  obtain ⟨t2, a1, b1⟩ := kk z M' T'.heap (locs ++ L') hq (by rw [e1]; exact hp)
    ⟨Nat.le_trans hS.1 (by rw [e1]; exact hz), fun q h1 h2 => by rw [e1, hk q (Nat.lt_of_lt_of_le h1 hS.1) h2]; exact hS.2.1 q h1 h2, fun q hq => by
      rcases List.mem_append.mp hq with h | h
      · exact hS.2.2 q h
      · exact hL q h⟩ T' rfl X'
  exact ⟨t2, st t2 a1, b1⟩
theorem ct_pre {s : State} {H : Heap} {locs : List Loc} {as : List Value} (hP : va_P (gD Γ) cls10 (cells Γ M) H) (hW : Wd Γ s) (hS : va_S (gA Γ) s.heap H locs) : PreS s H (va_Pc as (fun U => va_P (gD Γ) cls10 (cells Γ M) U.heap ∧ Wd Γ U)) as :=
  ⟨fun a U g mk q => ⟨q.1, q.2.1, q.2.2.calling g mk a⟩, fun U hU hWm => ⟨rfl, by rw [hU]; exact hP, hW.later hWm (by rw [hU]; exact hS)⟩⟩
theorem AW.callS {μ' : MI} {as st0 : List Value} {idx : Nat} {Qc : Int → Mm → Prop} (hC : Ct Γ μ' as M Qc) (hd : decode (mb μ) pc = .ok (.invokestatic idx, 3)) (hM : MS (my μ).cls idx μ' as.length) (hst : st0 = as.reverse ++ st) (hR : mf μ' + 1 ≤ mf μ ∧ 8 + (mn μ' + 11) + mo μ' ≤ mo μ) (hw : (st.map fun v => v.category).sum ≤ 8) (kk : ∀ (z : Int) (M' : Mm), Qc z M' → AW Γ μ (pc + 3) L ((rv (mr μ') z).toList ++ st) M' Q) : AW Γ μ pc L st0 M Q := by
  intro p e s m args below meth c H locs ls C hP hS hl
  obtain ⟨h1, h2, h3, h4, h5⟩ := hM
  refine ct_go (va_runS (As := as) (rest := st) ⟨C.1, C.2.1, C.2.2.2.1, C.own, C.ts⟩ hC ⟨callB_of (ws' := tb) as.length C.ts (tb_good h4) rfl rfl rfl (C.ts _ h3) (C.ts _ h1) h5 hR, C.ts _ h2⟩ (ct_pre hP C.wd hS) rfl rfl hl.1 hst (lv_room hw) hd ⟨Nat.le_refl 0, Nat.le_refl 0⟩) hS (fun z M' H1 locs1 hq hP1 hS1 => kk z M' hq p e s m args below meth c H1 locs1 ls C hP1 hS1 hl)
theorem AW.callN {μ' : MI} {as st0 : List Value} {idx : Nat} {Qc : Int → Mm → Prop} (hC : Ct Γ μ' as M Qc) (hd : decode (mb μ) pc = .ok (.invokestatic idx, 3)) (hM : MN (my μ).cls idx μ' as.length) (hst : st0 = as.reverse ++ st) (hR : mf μ' + 1 ≤ mf μ ∧ 8 + (mn μ' + 11) + mo μ' ≤ mo μ) (hw : (st.map fun v => v.category).sum ≤ 8) (kk : ∀ (z : Int) (M' : Mm), Qc z M' → AW Γ μ (pc + 3) L ((rv (mr μ') z).toList ++ st) M' Q) : AW Γ μ pc L st0 M Q := by
  intro p e s m args below meth c H locs ls C hP hS hl
  obtain ⟨h1, h2, h3, h4, h5⟩ := hM
  refine ct_go (va_runSN (As := as) (rest := st) ⟨C.1, C.2.1, C.2.2.2.1, C.own, C.ts⟩ hC ⟨va_cnB (ws' := tb) as.length C.ts (tb_good h4) rfl rfl rfl (C.wd.2.2.2.2.1 _ h1) (C.ts _ h3) h5 hR, C.ts _ h2, trivial⟩ (ct_pre hP C.wd hS) rfl rfl hl.1 hst (lv_room hw) hd ⟨Nat.le_refl 0, Nat.le_refl 0⟩) hS (fun z M' H1 locs1 hq hP1 hS1 => kk z M' hq p e s m args below meth c H1 locs1 ls C hP1 hS1 hl)
theorem AW.callV {μ' : MI} {as st0 : List Value} {idx ci k : Nat} {fs : List (Option Nat)} {Qc : Int → Mm → Prop} (hC : Ct Γ μ' (rf Γ k :: as) M Qc) (hd : decode (mb μ) pc = .ok (.invokevirtual idx, 3)) (hM : MV (my μ).cls idx μ' ci as.length) (hs : sh k = (0, ci, fs)) (hst : st0 = as.reverse ++ rf Γ k :: st) (hR : mf μ' + 1 ≤ mf μ ∧ 8 + (mn μ' + 11) + mo μ' ≤ mo μ) (hw : (st.map fun v => v.category).sum ≤ 8) (kk : ∀ (z : Int) (M' : Mm), Qc z M' → AW Γ μ (pc + 3) L ((rv (mr μ') z).toList ++ st) M' Q) : AW Γ μ pc L st0 M Q := by
  intro p e s m args below meth c H locs ls C hP hS hl
  obtain ⟨h1, h2, h3, h4, h5, h6, T, N, h7⟩ := hM
  have hpre := ct_pre (as := rf Γ k :: as) hP C.wd hS
  refine ct_go (va_runV (As := as) (b := gad Γ k) (rest := st) (C := (my μ').cls) ⟨C.1, C.2.1, C.2.2.2.1, C.own, C.ts⟩ hC ⟨callB_of (ws' := tb) as.length C.ts (tb_good h5) rfl rfl rfl (C.ts _ h4) (C.ts _ h1) h6 hR, C.ts _ h2, C.ts _ h3⟩ ⟨hpre.1, va_recv C.wd.2.1 hP h7 (cells_obj Γ M hs), hpre.2⟩ rfl rfl hl.1 hst (lv_room hw) hd ⟨Nat.le_refl 0, Nat.le_refl 0⟩) hS (fun z M' H1 locs1 hq hP1 hS1 => kk z M' hq p e s m args below meth c H1 locs1 ls C hP1 hS1 hl)
end AWheap
