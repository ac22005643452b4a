/-! the law -/
def R_law : String := "ArmSignalsLaw"
def lw_P (b : Addr) (xs : List Int32) (args : Array Value) (s : State) : Prop := args = #[.ref b] ∧ s.IntsAt b xs ∧ xs.length ≤ 3072 ∧ (Jvm.Cond.and given_1 narrow_1).before args s = true
def lw_Q (_ : Array Value) (s : State) (o : Outcome) (t : State) : Prop := o = .returned (some (.int 1)) ∧ Framed s o t [] 600000 7302250
def lw_Z (below : List Frame) (a : Array Value) (s : State) : State → Prop := fun t => ∃ o, t.status = .running ∧ Ended t below o ∧ lw_Q a s o t
/-- the law's own end, with 1 on the stack, nothing written that was there before, its room as the claim has it -/
theorem lw_ret {p : Program} {l : Launch} {e : Env} {s : State} {m : MethodId} {below : List Frame} {meth : Method} {c : Code} {b : Nat} (hx : p.tables.exec = Jvm.exec) (hb : c.code = code) (hr : meth.sig.returnType = ret) (hlocks : meth.locks = false) {pc : Nat} {H : Heap} {ls : Array Slot} (hdg : decode code pc = .ok (.ireturn, 1)) : W p l e room_1 s m #[Value.ref b] below meth c H [] 600000 7302250 (lw_Z below #[Value.ref b] s) (F0 m pc ls [.int 1]) := by
  intro T hT X
  obtain ⟨fs, hret, hrun, hended, hW, hframe⟩ := X.leave (v := some (.int 1)) (hlocks := hlocks) (fun h => by rw [hr] at h; cases h)
  have hmeth' : T.vm.method? m = some meth := X.method'
  refine ⟨T.setFrames fs, ?_, .returned (some (.int 1)), hrun, hended, rfl, ⟨_, rfl⟩, hW, hframe⟩
  jvm_step X.here [X.here.top, hx, hb, hdg, hmeth', hr, ret, narrow_b1]
  (try refine ⟨rfl, ?_⟩); (try refine ⟨rfl, ?_⟩)
  first | (intro acts; rw [hret _ acts rfl rfl rfl]) | rw [hret _ _ rfl rfl rfl]
  exact Steps.refl _
/-- what holds at the law's entry: the machine, the code, the tables' words (any of lw_tbl by 'hts w (by decide +kernel)'), the script of L ints xs at the cell b, what the Statement gives of the start (any of its parts by flat_of_before) -/
def lw_At (p : Program) (s : State) (m : MethodId) (meth : Method) (c : Code) (b L : Nat) (xs : Nat → Int32) : Prop :=
  p.tables.exec = Jvm.exec ∧ c.code = code ∧ meth.sig.returnType = ret ∧ c.maxLocals = 4 ∧ s.vm.findClass R_law = some m.cls ∧ (∀ w ∈ lw_tbl, w.before #[Value.ref b] s = true) ∧ va_X b L xs s s.heap ∧ b < s.heap.size ∧ meth.locks = false ∧ (Jvm.Cond.and given_1 narrow_1).before #[Value.ref b] s = true
def uL : MI := (x, code, 4, ret, 0, 0)
/-- from here on the law comes to its end with true -/
def LW (Γ : GC) (b L : Nat) (xs : Nat → Int32) (pc : Nat) (Lc : List (Nat × Value)) (st : List Value) (M : Mm) : Prop :=
  ∀ (p : Program) (e : Env) (s : State) (m : MethodId) (below : List Frame) (meth : Method) (c : Code) (H : Heap) (locs : List Loc) (ls : Array Slot),
    Cx Γ uL p s m #[Value.ref b] meth c → va_X b L xs s s.heap → b < s.heap.size → gB Γ = s.heap.size → va_P (gD Γ) cls10 (cells Γ M) H → va_S (gA Γ) s.heap H locs → lv_has ls 4 Lc →
    W p (gl Γ) e room_1 s m #[Value.ref b] below meth c H locs 200 5000 (lw_Z below #[Value.ref b] s) (F0 m pc ls st)
section LWrows
variable {Γ : GC} {b L : Nat} {xs : Nat → Int32} {pc : Nat} {Lc : List (Nat × Value)} {st : List Value} {M : Mm}
theorem LW.aload {n : Fin 4} {i a : Nat} (hd : decode code pc = .ok (.aload_n n, 1)) (q : Nat) (hq : Lc[q]? = some (i, .ref a)) (hi : (n : Nat) = i) (k : LW Γ b L xs (pc + 1) Lc (.ref a :: st) M) : LW Γ b L xs pc Lc st M := fun p e s m below meth c H locs ls C hX hbl hg hP hS hl => lv_aload_n C.1 C.2.1 hd hi (lv_at hl q hq) (k p e s m below meth c H locs ls C hX hbl hg hP hS hl)
theorem LW.iload {n : Fin 4} {i : Nat} {a : Int} (hd : decode code pc = .ok (.iload_n n, 1)) (q : Nat) (hq : Lc[q]? = some (i, vi a)) (hi : (n : Nat) = i) (k : LW Γ b L xs (pc + 1) Lc (vi a :: st) M) : LW Γ b L xs pc Lc st M := fun p e s m below meth c H locs ls C hX hbl hg hP hS hl => lv_iload_n C.1 C.2.1 hd hi (lv_at hl q hq) (k p e s m below meth c H locs ls C hX hbl hg hP hS hl)
theorem LW.iconst {n : Int} (hd : decode code pc = .ok (.iconst n, 1)) (k : LW Γ b L xs (pc + 1) Lc (vi n :: st) M) : LW Γ b L xs pc Lc st M := fun p e s m below meth c H locs ls C hX hbl hg hP hS hl => lv_iconst C.1 C.2.1 hd rfl (k p e s m below meth c H locs ls C hX hbl hg hP hS hl)
theorem LW.bipush {n z : Int} (hd : decode code pc = .ok (.bipush n, 2)) (hz : (Int8.ofInt n).toInt32 = Int32.ofInt z) (k : LW Γ b L xs (pc + 2) Lc (vi z :: st) M) : LW Γ b L xs pc Lc st M := fun p e s m below meth c H locs ls C hX hbl hg hP hS hl => lv_bipush C.1 C.2.1 hd hz (k p e s m below meth c H locs ls C hX hbl hg hP hS hl)
theorem LW.iadd {a c0 : Int} (hd : decode code pc = .ok (.iadd, 1)) (k : LW Γ b L xs (pc + 1) Lc (vi (a + c0) :: st) M) : LW Γ b L xs pc Lc (vi c0 :: vi a :: st) M := fun p e s m below meth c H locs ls C hX hbl hg hP hS hl => lv_iadd C.1 C.2.1 hd (by rw [i32_add]; exact k p e s m below meth c H locs ls C hX hbl hg hP hS hl)
theorem LW.isub {a c0 : Int} (hd : decode code pc = .ok (.isub, 1)) (k : LW Γ b L xs (pc + 1) Lc (vi (a - c0) :: st) M) : LW Γ b L xs pc Lc (vi c0 :: vi a :: st) M := fun p e s m below meth c H locs ls C hX hbl hg hP hS hl => lv_isub C.1 C.2.1 hd (by rw [i32_sub]; exact k p e s m below meth c H locs ls C hX hbl hg hP hS hl)
theorem LW.and31 {a : Int} (hd : decode code pc = .ok (.iand, 1)) (k : LW Γ b L xs (pc + 1) Lc (vi (a % 32) :: st) M) : LW Γ b L xs pc Lc (vi 31 :: vi a :: st) M := fun p e s m below meth c H locs ls C hX hbl hg hP hS hl => lv_iand C.1 C.2.1 hd (by rw [show (31 : Int) = 2 ^ 5 - 1 from rfl, i32_and a 5 (by decide)]; exact k p e s m below meth c H locs ls C hX hbl hg hP hS hl)
theorem LW.alen (hd : decode code pc = .ok (.arraylength, 1)) (k : LW Γ b L xs (pc + 1) Lc (vi (L : Int) :: st) M) : LW Γ b L xs pc Lc (.ref b :: st) M := fun p e s m below meth c H locs ls C hX hbl hg hP hS hl => va_slen C.1 C.2.1 hX hbl (by rw [show (¬ gA Γ b) = ¬ (gB Γ ≤ b) from rfl, hg]; omega) hS hd (k p e s m below meth c H locs ls C hX hbl hg hP hS hl)
theorem LW.iald (i : Int) (h0 : 0 ≤ i) (h1 : i < L) (hn : L < 2147483648) (hd : decode code pc = .ok (.iaload, 1)) (k : LW Γ b L xs (pc + 1) Lc (vi (xs i.toNat).toInt :: st) M) : LW Γ b L xs pc Lc (vi i :: .ref b :: st) M := fun p e s m below meth c H locs ls C hX hbl hg hP hS hl => va_sld C.1 C.2.1 hX hbl (by rw [show (¬ gA Γ b) = ¬ (gB Γ ≤ b) from rfl, hg]; omega) hS (i32_in h0 h1 hn) hd (by rw [i32_nat ⟨h0, by omega⟩, show Value.int (xs i.toNat) = vi (xs i.toNat).toInt from by unfold vi; rw [Int32.ofInt_toInt]]; exact k p e s m below meth c H locs ls C hX hbl hg hP hS hl)
theorem LW.iinc {i : Nat} {n a : Int} (L2 : List (Nat × Value)) (hd : decode code pc = .ok (.iinc i n, 3)) (q : Nat) (hq : Lc[q]? = some (i, vi a)) (hn : i < 4) (hL : (i, vi (a + n)) :: Lc.filter (fun q => !(q.1 == i) && !(q.1 + 1 == i && q.2.category == 2)) = L2) (k : LW Γ b L xs (pc + 3) L2 st M) : LW Γ b L xs pc Lc st M := fun p e s m below meth c H locs ls C hX hbl hg hP hS hl => lv_iinc (v := Int32.ofInt (a + n)) C.1 C.2.1 hd hl hq (by rw [i32_add]) hn hL (fun ls hl => k p e s m below meth c H locs ls C hX hbl hg hP hS hl)
theorem LW.goto {off : Int} (tgt : Nat) (hd : decode code pc = .ok (.goto off, 3)) (ht : (pc : Int) + off = (tgt : Int)) (k : LW Γ b L xs tgt Lc st M) : LW Γ b L xs pc Lc st M := fun p e s m below meth c H locs ls C hX hbl hg hP hS hl => lv_goto C.1 C.2.1 hd ht (k p e s m below meth c H locs ls C hX hbl hg hP hS hl)
theorem LW.eq {a off : Int} (tgt : Nat) (hd : decode code pc = .ok (.if_icmp .eq off, 3)) (ht : (pc : Int) + off = (tgt : Int)) (k : LW Γ b L xs tgt Lc st M) : LW Γ b L xs pc Lc (vi a :: vi a :: st) M := fun p e s m below meth c H locs ls C hX hbl hg hP hS hl => lv_icmp_eq C.1 C.2.1 hd ht (fun _ => k p e s m below meth c H locs ls C hX hbl hg hP hS hl) (fun q => absurd rfl q)
theorem LW.gt {a c0 off : Int} (tgt : Nat) (hd : decode code pc = .ok (.if_icmp .gt off, 3)) (ht : (pc : Int) + off = (tgt : Int)) (ha : R32 a) (hc : R32 c0) (kt : c0 < a → LW Γ b L xs tgt Lc st M) (kf : ¬ c0 < a → LW Γ b L xs (pc + 3) Lc st M) : LW Γ b L xs pc Lc (vi c0 :: vi a :: st) M := fun p e s m below meth c H locs ls C hX hbl hg hP hS hl => lv_icmp_gt C.1 C.2.1 hd ht (fun q => kt ((i32_lt hc ha).mp q) p e s m below meth c H locs ls C hX hbl hg hP hS hl) (fun q => kf (fun r => q ((i32_lt hc ha).mpr r)) p e s m below meth c H locs ls C hX hbl hg hP hS hl)
theorem LW.tsIn {dflt lo hi : Int} {offs : Array Int} {len : Nat} {a off : Int} (tgt : Nat) (hd : decode code pc = .ok (.tableswitch dflt lo hi offs, len)) (ha : R32 a) (h1 : ¬ a < lo) (h2 : ¬ hi < a) (ho : offs[(a - lo).toNat]? = some off) (ht : (pc : Int) + off = (tgt : Int)) (k : LW Γ b L xs tgt Lc st M) : LW Γ b L xs pc Lc (vi a :: st) M := fun p e s m below meth c H locs ls C hX hbl hg hP hS hl => lv_tableIn (x := Int32.ofInt a) C.1 C.2.1 hd (by rw [i32_toInt ha]; exact h1) (by rw [i32_toInt ha]; exact h2) (by rw [i32_toInt ha]; exact ho) ht (k p e s m below meth c H locs ls C hX hbl hg hP hS hl)
theorem LW.tsOut {dflt lo hi : Int} {offs : Array Int} {len : Nat} {a : Int} (tgt : Nat) (hd : decode code pc = .ok (.tableswitch dflt lo hi offs, len)) (ha : R32 a) (h : a < lo ∨ hi < a) (ht : (pc : Int) + dflt = (tgt : Int)) (k : LW Γ b L xs tgt Lc st M) : LW Γ b L xs pc Lc (vi a :: st) M := fun p e s m below meth c H locs ls C hX hbl hg hP hS hl => lv_tableOut (x := Int32.ofInt a) C.1 C.2.1 hd (by rw [i32_toInt ha]; exact h) ht (k p e s m below meth c H locs ls C hX hbl hg hP hS hl)
theorem LW.i2l {a : Int} (hd : decode code pc = .ok (.i2l, 1)) (k : LW Γ b L xs (pc + 1) Lc (.long (Int32.ofInt a).toInt64 :: st) M) : LW Γ b L xs pc Lc (vi a :: st) M := fun p e s m below meth c H locs ls C hX hbl hg hP hS hl => lv_i2l (v := (Int32.ofInt a).toInt64) C.1 C.2.1 hd rfl (k p e s m below meth c H locs ls C hX hbl hg hP hS hl)
theorem LW.lshl {y : Int64} {a : Int} (hd : decode code pc = .ok (.lshl, 1)) (k : LW Γ b L xs (pc + 1) Lc (.long (y <<< ((Int32.ofInt a).toInt64 &&& 63)) :: st) M) : LW Γ b L xs pc Lc (vi a :: .long y :: st) M := fun p e s m below meth c H locs ls C hX hbl hg hP hS hl => lv_lshl (v := y <<< ((Int32.ofInt a).toInt64 &&& 63)) C.1 C.2.1 hd rfl (k p e s m below meth c H locs ls C hX hbl hg hP hS hl)
theorem LW.land {y w : Int64} (hd : decode code pc = .ok (.land, 1)) (k : LW Γ b L xs (pc + 1) Lc (.long (y &&& w) :: st) M) : LW Γ b L xs pc Lc (.long w :: .long y :: st) M := fun p e s m below meth c H locs ls C hX hbl hg hP hS hl => lv_land C.1 C.2.1 hd (k p e s m below meth c H locs ls C hX hbl hg hP hS hl)
theorem LW.lor {y w : Int64} (hd : decode code pc = .ok (.lor, 1)) (k : LW Γ b L xs (pc + 1) Lc (vl (y ||| w).toInt :: st) M) : LW Γ b L xs pc Lc (.long w :: .long y :: st) M := fun p e s m below meth c H locs ls C hX hbl hg hP hS hl => lv_lor C.1 C.2.1 hd (by rw [show Value.long (y ||| w) = vl (y ||| w).toInt from by unfold vl; rw [Int64.ofInt_toInt]]; exact k p e s m below meth c H locs ls C hX hbl hg hP hS hl)
theorem LW.ldc2 {idx : Nat} {v : Int64} (hd : decode code pc = .ok (.ldc2_w idx, 3)) (hw : Cond.constantLong "ArmSignalsLaw" idx v ∈ tb) (k : LW Γ b L xs (pc + 3) Lc (.long v :: st) M) : LW Γ b L xs pc Lc st M := fun p e s m below meth c H locs ls C hX hbl hg hP hS hl => lv_ldc2 (v := v) C.1 C.2.1 C.own (C.ts _ hw) hd (k p e s m below meth c H locs ls C hX hbl hg hP hS hl)
theorem LW.callV {μ' : MI} {as st0 : List Value} {idx ci k0 : Nat} {fs : List (Option Nat)} {Qc : Int → Mm → Prop} (hC : Ct Γ μ' (rf Γ k0 :: as) M Qc) (hd : decode code pc = .ok (.invokevirtual idx, 3)) (hM : MV "ArmSignalsLaw" idx μ' ci as.length) (hs : sh k0 = (0, ci, fs)) (hst : st0 = as.reverse ++ rf Γ k0 :: st) (hv : ∀ z, rv (mr μ') z = some (vi z)) (hR : mf μ' + 1 ≤ 9 ∧ 8 + (mn μ' + 11) + mo μ' ≤ 332) (hw : (st.map fun v => v.category).sum ≤ 8) (kk : ∀ (z : Int) (M' : Mm), Qc z M' → LW Γ b L xs (pc + 3) Lc (vi z :: st) M') : LW Γ b L xs pc Lc st0 M := by
  intro p e s m below meth c H locs ls C hX hbl hg hP hS hl
  obtain ⟨h1, h2, h3, h4, h5, h6, T, N, h7⟩ := hM
  have hpre := ct_pre (as := rf Γ k0 :: as) hP C.wd hS
  refine ct_go (va_runV (As := as) (b := gad Γ k0) (rest := st) (C := (my μ').cls) ⟨C.1, C.2.1, C.2.2.2.1, C.own, C.ts⟩ hC ⟨callB_of (ws' := tb) as.length C.ts (tb_good h5) rfl rfl rfl (C.ts _ h4) (C.ts _ h1) h6 hR, C.ts _ h2, C.ts _ h3⟩ ⟨hpre.1, va_recv C.wd.2.1 hP h7 (cells_obj Γ M hs), hpre.2⟩ rfl rfl hl.1 hst (lv_room hw) hd ⟨Nat.le_of_ble_eq_true rfl, Nat.le_of_ble_eq_true rfl⟩) hS (fun z M' H1 locs1 hq hP1 hS1 => ?_)
  rw [hv z]
  exact kk z M' hq p e s m below meth c H1 locs1 ls C hX hbl hg hP1 hS1 hl
theorem LW.end1 (hd : decode code pc = .ok (.ireturn, 1)) : LW Γ b L xs pc Lc [vi 1] M := by
  intro p e s m below meth c H locs ls C hX hbl hg hP hS hl
  refine va_forget (fun q hq => by rw [← hg]; exact hS.2.2 q hq) ?_
  refine W.widen (k := 600000) (n := 7302250) (Nat.le_of_ble_eq_true rfl) (Nat.le_of_ble_eq_true rfl) ?_
  exact lw_ret C.1 C.2.1 C.2.2.1 C.2.2.2.2.2.2.1 hd
abbrev LL (Γ : GC) (b : Nat) (i : Int) : List (Nat × Value) := [(3, vi i), (2, rf Γ 94), (1, rf Γ 0), (0, .ref b)]
abbrev xz (xs : Nat → Int32) (i : Int) : Int := (xs i.toNat).toInt
theorem xz_r (xs : Nat → Int32) (i : Int) : R32 (xz xs i) := ⟨Int32.le_toInt _, Int32.toInt_lt _⟩
/-- script[i + n] -/
theorem LW.arg {n i : Int} (h : 0 ≤ i + n ∧ i + n < L) (hn : L ≤ 3072) (d0 : decode code pc = .ok (.aload_n 0, 1)) (d1 : decode code (pc + 1) = .ok (.iload_n 3, 1)) (d2 : decode code (pc + 2) = .ok (.iconst n, 1)) (d3 : decode code (pc + 3) = .ok (.iadd, 1)) (d4 : decode code (pc + 4) = .ok (.iaload, 1)) (k : LW Γ b L xs (pc + 5) (LL Γ b i) (vi (xz xs (i + n)) :: st) M) : LW Γ b L xs pc (LL Γ b i) st M := by
  refine LW.aload d0 3 rfl rfl ?_
  refine LW.iload d1 0 rfl rfl ?_
  refine LW.iconst d2 ?_
  refine LW.iadd d3 ?_
  exact LW.iald _ h.1 h.2 (by omega) d4 k
end LWrows
