/-! THE LIGHT WALK: the machine's walk (W) with all that is the same for every method put aside; memory is numbers by cell and slot. -/
/-- the words of the tables that stay good in every later state -/
def tb : List Cond := lw_tbl.filter goodWord
theorem tb_of {w : Cond} (i : Nat) (h : lw_tbl[i]? = some w) (g : goodWord w = true) : w ∈ tb := List.mem_filter.mpr ⟨List.mem_of_getElem? h, g⟩
theorem tb_good {y : MethodName} {cc : ByteArray} {n : Nat} {r : Option FieldType} (h : Cond.code y cc n r ∈ tb) : GoodIn tb (Cond.code y cc n r :: tb) := fun w hw => by
  rcases List.mem_cons.mp hw with rfl | h1
  · exact ⟨h, good_of_word (List.mem_filter.mp h).2⟩
  · exact ⟨h1, good_of_word (List.mem_filter.mp h1).2⟩
/-- words on private members of a nest mate -/
def isNest : Cond → Bool
  | .fieldLinkNest _ _ _ _ _ _ => true
  | .methodLinkNest _ _ _ _ => true
  | _ => false
def nestW : List Cond := lw_tbl.filter isNest
theorem nest_of {w : Cond} (i : Nat) (h : lw_tbl[i]? = some w) (g : isNest w = true) : w ∈ nestW := List.mem_filter.mpr ⟨List.mem_of_getElem? h, g⟩
theorem nest_tab {w : Cond} (h : w ∈ nestW) : w.onTables = true := by
  have h2 := (List.mem_filter.mp h).2
  cases w <;> first | rfl | (simp [isNest] at h2)
theorem nest_warm {w : Cond} (h : w ∈ nestW) {s U : State} (hW : s.WarmedH U.vm) (hZ : va_Nw w s) : va_Nw w U := by
  have h2 := (List.mem_filter.mp h).2
  cases w <;> first | exact va_Nw.warmF hW hZ | exact va_Nw.warmM hW hZ | (simp [isNest] at h2)
abbrev cls10 : List vw_C := [(RX0, TX0, 5), (RX1, TX1, 4), (RX2, TX2, 3), (RX3, TX3, 5), (RX4, TX4, 6), (RX5, TX5, 8), (RX6, TX6, 2), (RX7, TX7, 6), (RX8, TX8, 12), (RX9, TX9, 26)]
/-- launch; first new address; class ids and slots; ids of the four kinds of arrays; addresses of the two static arrays; addresses of the cells -/
abbrev GC : Type := Launch × Nat × va_G × (Nat → ClassId) × Nat × Nat × (Nat → Nat)
abbrev gl (Γ : GC) : Launch := Γ.1
abbrev gB (Γ : GC) : Nat := Γ.2.1
abbrev gD (Γ : GC) : va_G := Γ.2.2.1
abbrev gC (Γ : GC) : Nat → ClassId := Γ.2.2.2.1
abbrev gtL (Γ : GC) : Nat := Γ.2.2.2.2.1
abbrev gtG (Γ : GC) : Nat := Γ.2.2.2.2.2.1
abbrev gad (Γ : GC) : Nat → Nat := Γ.2.2.2.2.2.2
abbrev gA (Γ : GC) : Nat → Prop := fun q => gB Γ ≤ q
abbrev gT (Γ : GC) : List (ClassId × FieldType) := [(gC Γ 0, .int), (gC Γ 1, .long), (gC Γ 2, .object "ArmSignals$Station"), (gC Γ 3, .object "ArmSignals$Paper")]
def tabL : List Int := [0, 0, 0, 0, 0, 0, 0, 1, 1, 4, 1, 1, 1, 1, 2, 2, 2, 2, 2, 3, 3, 4, 5, 5, 3, 6, 4]
def tabG : List Int := [1, 2, 3, 4, 5, 6, 7, 2, 3, 6, 4, 5, 6, 7, 3, 4, 5, 6, 7, 4, 5, 7, 6, 7, 6, 7, 5]
def tl (j : Nat) : Int := tabL.getD j 0
def tg (j : Nat) : Int := tabG.getD j 0
/-- numbers as the machine has them -/
def vi (z : Int) : Value := .int (Int32.ofInt z)
def vl (z : Int) : Value := .long (Int64.ofInt z)
def rf (Γ : GC) (k : Nat) : Value := .ref (gad Γ k)
abbrev Mm : Type := Nat → Nat → Int
def upM (M : Mm) (k : Nat) (f : Nat → Int) : Mm := fun a => if a = k then f else M a
def up1 (f : Nat → Int) (i : Nat) (z : Int) : Nat → Int := fun j => if j = i then z else f j
def up2 (M : Mm) (k i : Nat) (z : Int) : Mm := upM M k (up1 (M k) i z)
theorem upM_s {M : Mm} {k : Nat} {f : Nat → Int} : upM M k f k = f := if_pos rfl
theorem upM_n {M : Mm} {k a : Nat} {f : Nat → Int} (h : a ≠ k) : upM M k f a = M a := if_neg h
theorem up2_s {M : Mm} {k i : Nat} {z : Int} : up2 M k i z k i = z := by simp [up2, upM, up1]
theorem up2_i {M : Mm} {k i j : Nat} {z : Int} (h : j ≠ i) : up2 M k i z k j = M k j := by simp [up2, upM, up1, h]
theorem up2_n {M : Mm} {k i a j : Nat} {z : Int} (h : a ≠ k) : up2 M k i z a j = M a j := by simp [up2, upM, h]
theorem up2_c {M : Mm} {k i a : Nat} {z : Int} (h : a ≠ k) : up2 M k i z a = M a := by simp [up2, upM, h]
theorem up2_e (M : Mm) (k i a j : Nat) (z : Int) : up2 M k i z a j = if a = k ∧ j = i then z else M a j := by
  by_cases h : a = k
  · subst h
    by_cases h2 : j = i
    · subst h2; simp [up2, upM, up1]
    · simp [up2, upM, up1, h2]
  · simp [up2, upM, h]
/-- a cell's kind: (0, class, fields: none a number, some the cell that it refers to), (1, n, _) ints, (2, n, _) longs, (3, kind, cells) references -/
abbrev Sh : Type := Nat × Nat × List (Option Nat)
def mkF (ad : Nat → Nat) (f : Nat → Int) : Nat → List (Option Nat) → List Value
  | _, [] => []
  | j, none :: t => vi (f j) :: mkF ad f (j + 1) t
  | j, some r :: t => .ref (ad r) :: mkF ad f (j + 1) t
def mkE (Γ : GC) (q : Sh) (f : Nat → Int) : va_E := match q with
  | (0, ci, fs) => .inr (ci, mkF (gad Γ) f 0 fs)
  | (1, n, _) => .inl (gC Γ 0, n, .inl (fun j => Int32.ofInt (f j)))
  | (2, n, _) => .inl (gC Γ 1, n, .inr (.inl (fun j => Int64.ofInt (f j))))
  | (_, t, fs) => .inl (gC Γ t, fs.length, .inr (.inr (.inr (.inr (fun j => (fs.getD j none).map (gad Γ))))))
theorem mkF_len (ad : Nat → Nat) (f : Nat → Int) : ∀ (fs : List (Option Nat)) (j : Nat), (mkF ad f j fs).length = fs.length
  | [], _ => rfl
  | none :: t, j => by simp [mkF, mkF_len ad f t (j + 1)]
  | some r :: t, j => by simp [mkF, mkF_len ad f t (j + 1)]
theorem mkF_int (ad : Nat → Nat) (f : Nat → Int) : ∀ (fs : List (Option Nat)) (j k : Nat), fs[k]? = some none → (mkF ad f j fs)[k]? = some (vi (f (j + k)))
  | [], _, _, h => by simp at h
  | none :: t, j, 0, h => by simp [mkF]
  | some r :: t, j, 0, h => by simp at h
  | none :: t, j, k + 1, h => by
    have := mkF_int ad f t (j + 1) k (by simpa using h)
    simp only [mkF, List.getElem?_cons_succ, this]
    congr 3; omega
  | some r :: t, j, k + 1, h => by
    have := mkF_int ad f t (j + 1) k (by simpa using h)
    simp only [mkF, List.getElem?_cons_succ, this]
    congr 3; omega
theorem mkF_ref (ad : Nat → Nat) (f : Nat → Int) {r : Nat} : ∀ (fs : List (Option Nat)) (j k : Nat), fs[k]? = some (some r) → (mkF ad f j fs)[k]? = some (.ref (ad r))
  | [], _, _, h => by simp at h
  | none :: t, j, 0, h => by simp at h
  | some r' :: t, j, 0, h => by simp at h; subst h; simp [mkF]
  | none :: t, j, k + 1, h => by
    have := mkF_ref ad f t (j + 1) k (by simpa using h)
    simp only [mkF, List.getElem?_cons_succ, this]
  | some r' :: t, j, k + 1, h => by
    have := mkF_ref ad f t (j + 1) k (by simpa using h)
    simp only [mkF, List.getElem?_cons_succ, this]
theorem mkF_ext (ad : Nat → Nat) {f g : Nat → Int} : ∀ (fs : List (Option Nat)) (j : Nat), (∀ q, j ≤ q → f q = g q) → mkF ad f j fs = mkF ad g j fs
  | [], _, _ => rfl
  | none :: t, j, h => by simp only [mkF]; rw [h j (Nat.le_refl j), mkF_ext ad t (j + 1) (fun q hq => h q (by omega))]
  | some r :: t, j, h => by simp only [mkF]; rw [mkF_ext ad t (j + 1) (fun q hq => h q (by omega))]
theorem mkF_set (ad : Nat → Nat) (f : Nat → Int) (z : Int) : ∀ (fs : List (Option Nat)) (j k : Nat), fs[k]? = some none → (mkF ad f j fs).set k (vi z) = mkF ad (up1 f (j + k) z) j fs
  | [], _, _, h => by simp at h
  | none :: t, j, 0, h => by
    simp only [mkF, List.set_cons_zero]
    congr 1
    · simp [up1]
    · exact mkF_ext ad t (j + 1) (fun q hq => by simp only [up1]; rw [if_neg (by omega)])
  | some r :: t, j, 0, h => by simp at h
  | none :: t, j, k + 1, h => by
    have := mkF_set ad f z t (j + 1) k (by simpa using h)
    simp only [mkF, List.set_cons_succ, this]
    congr 1
    · simp only [up1]; rw [if_neg (by omega)]
    · rw [show j + 1 + k = j + (k + 1) by omega]
  | some r :: t, j, k + 1, h => by
    have := mkF_set ad f z t (j + 1) k (by simpa using h)
    simp only [mkF, List.set_cons_succ, this]
    rw [show j + 1 + k = j + (k + 1) by omega]
/-- the cells, as the two makers leave them: 0 the object, 1 now, 5 past, 31 and 35 the image, 61 spare, 65 way, 71 shortening, 76 sight, 79 odds, 83 tape, 85 papers; 94 the reference -/
def shT : List Sh := [(0, 8, [some 1, some 5, some 31, some 35, none, some 61, some 65, some 71, some 76, some 79, some 83, some 85]), (0, 5, [some 2, none, some 3, some 4, none, none, none, none]), (1, 12, []), (1, 36, []), (1, 6, []), (0, 2, [some 6, none, none]), (3, 2, [some 7, some 11, some 15, some 19, some 23, some 27]), (0, 5, [some 8, none, some 9, some 10, none, none, none, none]), (1, 12, []), (1, 36, []), (1, 6, []), (0, 5, [some 12, none, some 13, some 14, none, none, none, none]), (1, 12, []), (1, 36, []), (1, 6, []), (0, 5, [some 16, none, some 17, some 18, none, none, none, none]), (1, 12, []), (1, 36, []), (1, 6, []), (0, 5, [some 20, none, some 21, some 22, none, none, none, none]), (1, 12, []), (1, 36, []), (1, 6, []), (0, 5, [some 24, none, some 25, some 26, none, none, none, none]), (1, 12, []), (1, 36, []), (1, 6, []), (0, 5, [some 28, none, some 29, some 30, none, none, none, none]), (1, 12, []), (1, 36, []), (1, 6, []), (0, 5, [some 32, none, some 33, some 34, none, none, none, none]), (1, 12, []), (1, 36, []), (1, 6, []), (0, 2, [some 36, none, none]), (3, 2, [some 37, some 41, some 45, some 49, some 53, some 57]), (0, 5, [some 38, none, some 39, some 40, none, none, none, none]), (1, 12, []), (1, 36, []), (1, 6, []), (0, 5, [some 42, none, some 43, some 44, none, none, none, none]), (1, 12, []), (1, 36, []), (1, 6, []), (0, 5, [some 46, none, some 47, some 48, none, none, none, none]), (1, 12, []), (1, 36, []), (1, 6, []), (0, 5, [some 50, none, some 51, some 52, none, none, none, none]), (1, 12, []), (1, 36, []), (1, 6, []), (0, 5, [some 54, none, some 55, some 56, none, none, none, none]), (1, 12, []), (1, 36, []), (1, 6, []), (0, 5, [some 58, none, some 59, some 60, none, none, none, none]), (1, 12, []), (1, 36, []), (1, 6, []), (0, 5, [some 62, none, some 63, some 64, none, none, none, none]), (1, 12, []), (1, 36, []), (1, 6, []), (0, 7, [some 66, some 67, some 68, some 69, some 70, none]), (1, 13, []), (1, 13, []), (1, 26, []), (1, 26, []), (1, 13, []), (0, 3, [some 72, some 73, some 74, some 75, none]), (1, 182, []), (1, 182, []), (1, 182, []), (1, 2, []), (0, 4, [some 77, some 78, none, none, none, none]), (1, 12, []), (1, 12, []), (0, 0, [some 80, some 81, some 82, none, none]), (1, 36, []), (1, 36, []), (1, 7, []), (0, 6, [some 84, none]), (1, 90, []), (3, 3, [some 86, some 88, some 90, some 92]), (0, 1, [none, none, none, some 87]), (2, 24, []), (0, 1, [none, none, none, some 89]), (2, 24, []), (0, 1, [none, none, none, some 91]), (2, 24, []), (0, 1, [none, none, none, some 93]), (2, 24, []), (0, 9, [some 95, some 96, some 97, none, none, none, some 98, some 99, some 100, none, none, none, none, some 101, none, none, none, some 102, none, some 103, some 104, none, some 105, some 106, some 107, some 108]), (1, 27, []), (1, 59, []), (1, 59, []), (1, 702, []), (1, 12, []), (1, 12, []), (1, 90, []), (1, 354, []), (1, 59, []), (1, 354, []), (1, 4, []), (1, 4, []), (2, 96, []), (2, 24, [])]
abbrev NC : Nat := 109
def sh (k : Nat) : Sh := shT.getD k (9, 0, [])
theorem shT_len : shT.length = 109 := rfl
theorem sh_lt {k : Nat} {q : Sh} (h : sh k = q) (hq : q.1 ≠ 9) : k < NC := by
  rcases Nat.lt_or_ge k NC with h1 | h1
  · exact h1
  · exfalso
    apply hq
    rw [← h, sh, List.getD_eq_getElem?_getD, List.getElem?_eq_none (by rw [shT_len]; exact h1)]
    rfl
def cells (Γ : GC) (M : Mm) : va_W := (List.range NC).map (fun k => (gad Γ k, mkE Γ (sh k) (M k)))
theorem cells_at (Γ : GC) (M : Mm) {k : Nat} (h : k < NC) : (cells Γ M)[k]? = some (gad Γ k, mkE Γ (sh k) (M k)) := by
  simp [cells, List.getElem?_range, h]
theorem cells_set (Γ : GC) (M : Mm) {k : Nat} (h : k < NC) (f : Nat → Int) {e : va_E} (he : mkE Γ (sh k) f = e) : (cells Γ M).set k (gad Γ k, e) = cells Γ (upM M k f) := by
  subst he
  apply List.ext_getElem?
  intro i
  by_cases hi : i < NC
  · by_cases hk : k = i
    · subst hk
      rw [cells_at Γ _ hi, List.getElem?_set_self (by simp [cells, hi]), upM_s]
    · rw [List.getElem?_set_ne hk, cells_at Γ _ hi, cells_at Γ _ hi, upM_n (fun q => hk q.symm)]
  · rw [List.getElem?_eq_none (by simp [cells]; omega), List.getElem?_eq_none (by simp [cells]; omega)]
/-- the cells are apart, and new -/
def gok (Γ : GC) : Prop := (∀ i j : Nat, i < NC → j < NC → gad Γ i = gad Γ j → i = j) ∧ ∀ i : Nat, i < NC → gB Γ ≤ gad Γ i
theorem cells_D {Γ : GC} (h : gok Γ) (M : Mm) : va_D (gA Γ) (cells Γ M) := by
  have key : ∀ (i : Nat) (q : Nat × va_E), (cells Γ M)[i]? = some q → i < NC ∧ q.1 = gad Γ i := by
    intro i q hq
    have hi : i < NC := by
      have := (List.getElem?_eq_some_iff.mp hq).1
      simpa [cells] using this
    rw [cells_at Γ M hi] at hq
    cases hq
    exact ⟨hi, rfl⟩
  refine ⟨fun i j a b ha hb hab => ?_, fun k q hq => ?_⟩
  · obtain ⟨h1, h2⟩ := key i a ha
    obtain ⟨h3, h4⟩ := key j b hb
    exact h.1 i j h1 h3 (by rw [← h2, ← h4, hab])
  · obtain ⟨h1, h2⟩ := key k q hq
    show gB Γ ≤ q.1
    rw [h2]
    exact h.2 k h1
/-- what holds in every state: classes, the two static arrays, words on nest mates -/
def Wd (Γ : GC) (U : State) : Prop :=
  gok Γ ∧ va_K (gD Γ) cls10 (gT Γ) U ∧
  (va_Z "ArmSignals" "LESSER" "[I" (.ref (gtL Γ)) (gA Γ) U U.heap ∧ va_T .int (gtL Γ) 27 (fun j => vi (tl j)) (gA Γ) U U.heap) ∧
  (va_Z "ArmSignals" "GREATER" "[I" (.ref (gtG Γ)) (gA Γ) U U.heap ∧ va_T .int (gtG Γ) 27 (fun j => vi (tg j)) (gA Γ) U U.heap) ∧
  (∀ w ∈ nestW, va_Nw w U) ∧ gB Γ ≤ U.heap.size
theorem Wd.calling {Γ : GC} {U : State} (h : Wd Γ U) (g : JFrame) (mk : MethodId) (a : Array Value) : Wd Γ (U.calling g mk a) := by
  obtain ⟨h0, h1, ⟨h2, h3⟩, ⟨h4, h5⟩, h6, h7⟩ := h
  have hv : U.vm.Alike (U.calling g mk a).vm := Vm.Alike.refl U.vm
  exact ⟨h0, h1.moved hv, ⟨h2.moved (U := U.calling g mk a) hv, h3.moved (U := U.calling g mk a) hv⟩, ⟨h4.moved (U := U.calling g mk a) hv, h5.moved (U := U.calling g mk a) hv⟩, fun w hw => va_Nw.same (u := U) (U := U.calling g mk a) (nest_tab hw) rfl (h6 w hw), h7⟩
theorem Wd.later {Γ : GC} {s U : State} {locs : List Loc} (h : Wd Γ s) (hW : s.WarmedH U.vm) (hS : va_S (gA Γ) s.heap U.heap locs) : Wd Γ U := by
  obtain ⟨h0, h1, ⟨h2, h3⟩, ⟨h4, h5⟩, h6, h7⟩ := h
  have hv : s.vm.Alike U.vm := hW.alike
  exact ⟨h0, h1.moved hv, ⟨(h2.moved (U := U) hv).kept hS.2.1, (h3.moved (U := U) hv).kept hS.2.1⟩, ⟨(h4.moved (U := U) hv).kept hS.2.1, (h5.moved (U := U) hv).kept hS.2.1⟩, fun w hw => nest_warm hw hW (h6 w hw), Nat.le_trans h7 hS.1⟩
/-- a method: name, bytes, number of its own places, kind of answer, frames and words that its calls need -/
abbrev MI : Type := MethodName × ByteArray × Nat × Option FieldType × Nat × Nat
abbrev my (μ : MI) : MethodName := μ.1
abbrev mb (μ : MI) : ByteArray := μ.2.1
abbrev mn (μ : MI) : Nat := μ.2.2.1
abbrev mr (μ : MI) : Option FieldType := μ.2.2.2.1
abbrev mf (μ : MI) : Nat := μ.2.2.2.2.1
abbrev mo (μ : MI) : Nat := μ.2.2.2.2.2
abbrev room (μ : MI) : Room := { frames := mf μ, cells := 0, slots := 0, locals := mo μ }
abbrev mw (μ : MI) : List Cond := Cond.code (my μ) (mb μ) (mn μ) (mr μ) :: tb
def rv (r : Option FieldType) (z : Int) : Option Value := match r with
  | none => none
  | some .long => some (vl z)
  | some _ => some (vi z)
def Cx (Γ : GC) (μ : MI) (p : Program) (s : State) (m : MethodId) (args : Array Value) (meth : Method) (c : Code) : Prop :=
  p.tables.exec = Jvm.exec ∧ c.code = mb μ ∧ meth.sig.returnType = mr μ ∧ c.maxLocals = mn μ ∧ s.vm.findClass (my μ).cls = some m.cls ∧ (∀ w ∈ tb, w.before args s = true) ∧ meth.locks = false ∧ Wd Γ s
/-- the end of a method: an answer and a memory with Q, no older cell changed -/
def Qx (Γ : GC) (r : Option FieldType) (Q : Int → Mm → Prop) : Array Value → State → Outcome → State → Prop := fun _ st oc t =>
  (∃ (z : Int) (M : Mm), oc = .returned (rv r z) ∧ Q z M ∧ va_P (gD Γ) cls10 (cells Γ M) t.heap) ∧ va_F (gA Γ) st t
/-- from here on the method comes to its end with Q -/
def AW (Γ : GC) (μ : MI) (pc : Nat) (L : List (Nat × Value)) (st : List Value) (M : Mm) (Q : Int → Mm → Prop) : Prop :=
  ∀ (p : Program) (e : Env) (s : State) (m : MethodId) (args : Array Value) (below : List Frame) (meth : Method) (c : Code) (H : Heap) (locs : List Loc) (ls : Array Slot),
    Cx Γ μ p s m args meth c → va_P (gD Γ) cls10 (cells Γ M) H → va_S (gA Γ) s.heap H locs → lv_has ls (mn μ) L →
    W p (gl Γ) e (room μ) s m args below meth c H locs 0 0 (MQ below (Qx Γ (mr μ) Q) args s 0 0 (gA Γ)) (F0 m pc ls st)
/-- a method's contract -/
def Ct (Γ : GC) (μ : MI) (as : List Value) (M : Mm) (Q : Int → Mm → Prop) : Prop :=
  Met (gl Γ) (my μ) (mw μ) (room μ) (va_Pc as (fun U => va_P (gD Γ) cls10 (cells Γ M) U.heap ∧ Wd Γ U)) (Qx Γ (mr μ) Q) 0 0 (gA Γ)
theorem Ct.of {Γ : GC} {μ : MI} {as : List Value} {M : Mm} {Q : Int → Mm → Prop} (hy : plainName (my μ).cls = true) (hn : (lg_sl as).length ≤ mn μ) (k : AW Γ μ 0 (lv_args 0 as) [] M Q) : Ct Γ μ as M Q := by
  refine Met.ofW (cc := mb μ) (maxL := mn μ) (ret := mr μ) hy rfl ?_
  intro p e s m args below meth c s₁ B hml hv
  obtain ⟨rfl, hP, hWd⟩ := hv
  have hts := atoms_spec (ws := mw μ) B.pre
  rw [lg_entry_eq]
  exact k p e s m _ below meth c s.heap [] _ ⟨B.exec, B.bytes, B.returns, hml, findClass_of_methodNamed B.named, fun w hw => hts w (List.mem_cons_of_mem _ hw), B.notSynchronized, hWd⟩ hP va_S.rf (lv_entry as hn)
theorem Ct.mono {Γ : GC} {μ : MI} {as : List Value} {M : Mm} {Q Q' : Int → Mm → Prop} (h : Ct Γ μ as M Q) (hq : ∀ z M', Q z M' → Q' z M') : Ct Γ μ as M Q' := by
  intro p e ha hc hk s m args below hf hfit hP _
  obtain ⟨k, o, h1, h2, h3, ⟨⟨z, M', e1, e2, e3⟩, e4⟩, e5⟩ := h p e ha hc hk s m args below hf hfit hP trivial
  exact ⟨k, o, h1, h2, h3, ⟨⟨z, M', e1, hq z M' e2, e3⟩, e4⟩, e5⟩
