/-! STILL, of the class -/
def andF (a b : Int) : Int := (Int32.ofInt a &&& Int32.ofInt b).toInt
def ushF (a b : Int) : Int := (((Int32.ofInt a).toUInt32 >>> ((Int32.ofInt b).toUInt32 &&& Int32.toUInt32 31)).toInt32).toInt
section AWg
variable {Γ : GC} {μ : MI} {pc : Nat} {L : List (Nat × Value)} {st : List Value} {M : Mm} {Q : Int → Mm → Prop}
theorem AW.iandG {a b : Int} (hd : decode (mb μ) pc = .ok (.iand, 1)) (k : AW Γ μ (pc + 1) L (vi (andF a b) :: st) M Q) : AW Γ μ pc L (vi b :: vi a :: st) M Q :=
  AW.iandw hd (by unfold andF; rw [Int32.ofInt_toInt]) k
theorem AW.iushrG {a b : Int} (hd : decode (mb μ) pc = .ok (.iushr, 1)) (k : AW Γ μ (pc + 1) L (vi (ushF a b) :: st) M Q) : AW Γ μ pc L (vi b :: vi a :: st) M Q :=
  AW.iushrw hd (by unfold ushF; rw [Int32.ofInt_toInt]) k
end AWg
def bcE (x : Int) : Int :=
  let a := x - andF (ushF x 1) 1431655765
  let b := andF a 858993459 + andF (ushF a 2) 858993459
  let c := andF (b + ushF b 4) 252645135
  let d := c + ushF c 8
  let e := d + ushF d 16
  andF e 63
theorem bc_all : ∀ S : Fin 64, bcE (S.val : Int) = (popF S.val 6 : Nat) := by decide +kernel

set_option maxRecDepth 20000 in
theorem C_bitCount (Γ : GC) (M : Mm) (x : Int) (S : Nat) (hx : x = S) (hS : S < 64) : Ct Γ uJ6_bitCount_0f7a4 [vi x] M (Pu ((popF S 6 : Nat) : Int) M) := by
  refine Ct.of (by decide) (Nat.le_of_ble_eq_true rfl) ?_
  show AW Γ uJ6_bitCount_0f7a4 0 [(0, vi x)] [] M _
  refine AW.iload_n dJ6_bitCount_0f7a4_0 0 rfl rfl ?_
  refine AW.iload_n dJ6_bitCount_0f7a4_1 0 rfl rfl ?_
  refine AW.iconst dJ6_bitCount_0f7a4_2 ?_
  refine AW.iushrG dJ6_bitCount_0f7a4_3 ?_
  refine AW.ldcw (z := 1431655765) dJ6_bitCount_0f7a4_4 kc_J6_265 (by decide +kernel) ?_
  refine AW.iandG dJ6_bitCount_0f7a4_7 ?_
  refine AW.isub dJ6_bitCount_0f7a4_8 ?_
  refine AW.top (fun x9 ex9 => ?_)
  refine AW.istore_n [(0, vi x9)] dJ6_bitCount_0f7a4_9 rfl (by decide) rfl ?_
  refine AW.iload_n dJ6_bitCount_0f7a4_10 0 rfl rfl ?_
  refine AW.ldcw (z := 858993459) dJ6_bitCount_0f7a4_11 kc_J6_266 (by decide +kernel) ?_
  refine AW.iandG dJ6_bitCount_0f7a4_14 ?_
  refine AW.iload_n dJ6_bitCount_0f7a4_15 0 rfl rfl ?_
  refine AW.iconst dJ6_bitCount_0f7a4_16 ?_
  refine AW.iushrG dJ6_bitCount_0f7a4_17 ?_
  refine AW.ldcw (z := 858993459) dJ6_bitCount_0f7a4_18 kc_J6_266 (by decide +kernel) ?_
  refine AW.iandG dJ6_bitCount_0f7a4_21 ?_
  refine AW.iadd dJ6_bitCount_0f7a4_22 ?_
  refine AW.top (fun x23 ex23 => ?_)
  refine AW.istore_n [(0, vi x23)] dJ6_bitCount_0f7a4_23 rfl (by decide) rfl ?_
  refine AW.iload_n dJ6_bitCount_0f7a4_24 0 rfl rfl ?_
  refine AW.iload_n dJ6_bitCount_0f7a4_25 0 rfl rfl ?_
  refine AW.iconst dJ6_bitCount_0f7a4_26 ?_
  refine AW.iushrG dJ6_bitCount_0f7a4_27 ?_
  refine AW.iadd dJ6_bitCount_0f7a4_28 ?_
  refine AW.ldcw (z := 252645135) dJ6_bitCount_0f7a4_29 kc_J6_267 (by decide +kernel) ?_
  refine AW.iandG dJ6_bitCount_0f7a4_32 ?_
  refine AW.top (fun x33 ex33 => ?_)
  refine AW.istore_n [(0, vi x33)] dJ6_bitCount_0f7a4_33 rfl (by decide) rfl ?_
  refine AW.iload_n dJ6_bitCount_0f7a4_34 0 rfl rfl ?_
  refine AW.iload_n dJ6_bitCount_0f7a4_35 0 rfl rfl ?_
  refine AW.bipush (z := (8)) dJ6_bitCount_0f7a4_36 (by decide) ?_
  refine AW.iushrG dJ6_bitCount_0f7a4_38 ?_
  refine AW.iadd dJ6_bitCount_0f7a4_39 ?_
  refine AW.top (fun x40 ex40 => ?_)
  refine AW.istore_n [(0, vi x40)] dJ6_bitCount_0f7a4_40 rfl (by decide) rfl ?_
  refine AW.iload_n dJ6_bitCount_0f7a4_41 0 rfl rfl ?_
  refine AW.iload_n dJ6_bitCount_0f7a4_42 0 rfl rfl ?_
  refine AW.bipush (z := (16)) dJ6_bitCount_0f7a4_43 (by decide) ?_
  refine AW.iushrG dJ6_bitCount_0f7a4_45 ?_
  refine AW.iadd dJ6_bitCount_0f7a4_46 ?_
  refine AW.top (fun x47 ex47 => ?_)
  refine AW.istore_n [(0, vi x47)] dJ6_bitCount_0f7a4_47 rfl (by decide) rfl ?_
  refine AW.iload_n dJ6_bitCount_0f7a4_48 0 rfl rfl ?_
  refine AW.bipush (z := (63)) dJ6_bitCount_0f7a4_49 (by decide) ?_
  refine AW.iandG dJ6_bitCount_0f7a4_51 ?_
  exact AW.iret rfl dJ6_bitCount_0f7a4_52 ⟨by
  have hb := bc_all ⟨S, hS⟩
  subst ex9 ex23 ex33 ex40 ex47 hx
  exact hb, rfl⟩

set_option maxRecDepth 20000 in
theorem power_loop (Γ : GC) (M : Mm) (b tx : Int) (t : Nat) (htx : tx = t) (ht : t ≤ 6) : ∀ (n i : Nat) (x pr : Int), x = i → i ≤ t → pr = b ^ i → t - i < n → AW Γ uX0_power 4 [(3, vi x), (2, vi pr), (0, vi b), (1, vi tx)] [] M (Pu (b ^ t) M) := by
  intro n
  induction n with
  | zero => intro i x pr g0 g1 g2 gm; omega
  | succ n ih =>
    intro i x pr g0 g1 g2 gm
    refine AW.iload_n dX0_power_4 0 rfl rfl ?_
    refine AW.iload_n dX0_power_5 3 rfl rfl ?_
    refine AW.icmp_ge 19 dX0_power_6 (by decide) (by omega) (by omega) (fun c6 => ?_) (fun c6 => ?_)
    · refine AW.iload_n dX0_power_19 1 rfl rfl ?_
      exact AW.iret rfl dX0_power_20 ⟨by rw [g2, show i = t by omega], rfl⟩
    · refine AW.iload_n dX0_power_9 1 rfl rfl ?_
      refine AW.iload_n dX0_power_10 2 rfl rfl ?_
      refine AW.imul dX0_power_11 ?_
      refine AW.top (fun pr2 epr2 => ?_)
      refine AW.istore_n [(2, vi pr2), (3, vi x), (0, vi b), (1, vi tx)] dX0_power_12 rfl (by decide) rfl ?_
      obtain ⟨x13, ex13⟩ : ∃ z : Int, x + 1 = z := ⟨_, rfl⟩
      refine AW.iinc [(3, vi x13), (2, vi pr2), (0, vi b), (1, vi tx)] dX0_power_13 1 rfl (by decide) x13 ex13 rfl ?_
      refine AW.goto 4 dX0_power_16 (by decide) ?_
      refine AW.sub [0, 1, 2, 3] rfl ?_
      exact ih (i + 1) x13 pr2 (by omega) (by omega) (by rw [epr2, g2, Int.pow_succ]) (by omega)

set_option maxRecDepth 20000 in
theorem C_power (Γ : GC) (M : Mm) (b tx : Int) (t : Nat) (htx : tx = t) (ht : t ≤ 6) : Ct Γ uX0_power [vi b, vi tx] M (Pu (b ^ t) M) := by
  refine Ct.of (by decide) (Nat.le_of_ble_eq_true rfl) ?_
  show AW Γ uX0_power 0 [(0, vi b), (1, vi tx)] [] M _
  refine AW.iconst dX0_power_0 ?_
  refine AW.top (fun x1 ex1 => ?_)
  refine AW.istore_n [(2, vi x1), (0, vi b), (1, vi tx)] dX0_power_1 rfl (by decide) rfl ?_
  refine AW.iconst dX0_power_2 ?_
  refine AW.top (fun x3 ex3 => ?_)
  refine AW.istore_n [(3, vi x3), (2, vi x1), (0, vi b), (1, vi tx)] dX0_power_3 rfl (by decide) rfl ?_
  refine AW.sub [0, 1, 2, 3] rfl ?_
  exact power_loop Γ M b tx t htx ht (t + 1) 0 x3 x1 (by omega) (by omega) (by rw [ex1, Int.pow_zero]) (by omega)

def msW (N : Mm) (r : Nat → Int) (k w i0 : Nat) : Prop := ∀ i : Nat, i < i0 → N 80 (6 * w + i) = betw (tl (r (18 + 7 * k + i)).toNat) (tg (r (18 + 7 * k + i)).toNat) (tl (r (18 + 7 * w + i)).toNat) (tg (r (18 + 7 * w + i)).toNat) ∧ N 81 (6 * w + i) = betw (tl (r (18 + 7 * k + i)).toNat) ((tg (r (18 + 7 * k + i)).toNat + 1) % 8) (tl (r (18 + 7 * w + i)).toNat) (tg (r (18 + 7 * w + i)).toNat)
theorem dsW_b (r : Nat → Int) (k S w i : Nat) : 0 ≤ dsF (loW r k) (hiW r k S) r w i ∧ dsF (loW r k) (hiW r k S) r w i ≤ 8 * i := dsF_b (loW_d r k i) (hiW_d r k S i) w i (Int.le_refl _)
theorem bitI2 (k e : Nat) : ((k : Int) / 2 ^ e) % 2 ^ 1 = ((k / 2 ^ e % 2 : Nat) : Int) := by
  rw [show ((2 : Int) ^ 1) = ((2 : Nat) : Int) from rfl, show ((2 : Int) ^ e) = ((2 ^ e : Nat) : Int) by simp]
  rw [← Int.natCast_ediv, ← Int.natCast_emod]

set_option maxRecDepth 20000 in
theorem sdist_loop (Γ : GC) (M : Mm) (r : Nat → Int) (k w S n0 : Nat) (wx nx sx : Int) (hwx : wx = w) (hnx : nx = n0) (hsx : sx = S) (hw : w < 6) (hn : n0 ≤ 6) (hS : S < 64) (hms : msW M r k w n0) : ∀ (n i : Nat) (x f : Int), x = i → i ≤ n0 → f = dsF (loW r k) (hiW r k S) r w i → n0 - i < n → AW Γ uX0_distanceOf 6 [(5, vi x), (4, vi f), (0, rf Γ 79), (1, vi wx), (2, vi nx), (3, vi sx)] [] M (Pu (dsF (loW r k) (hiW r k S) r w n0) M) := by
  intro n
  induction n with
  | zero => intro i x f g0 g1 g2 gm; omega
  | succ n ih =>
    intro i x f g0 g1 g2 gm
    refine AW.iload dX0_distanceOf_6 0 rfl ?_
    refine AW.iload_n dX0_distanceOf_8 4 rfl rfl ?_
    refine AW.icmp_ge 58 dX0_distanceOf_9 (by decide) (by omega) (by omega) (fun c9 => ?_) (fun c9 => ?_)
    · refine AW.iload dX0_distanceOf_58 1 rfl ?_
      exact AW.iret rfl dX0_distanceOf_60 ⟨by rw [g2, show i = n0 by omega], rfl⟩
    · refine AW.iload_n dX0_distanceOf_12 3 rfl rfl ?_
      refine AW.bipush (z := (6)) dX0_distanceOf_13 (by decide) ?_
      refine AW.imul dX0_distanceOf_15 ?_
      refine AW.iload dX0_distanceOf_16 0 rfl ?_
      refine AW.iadd dX0_distanceOf_18 ?_
      refine AW.top (fun at6 eat6 => ?_)
      refine AW.istore [(6, vi at6), (5, vi x), (4, vi f), (0, rf Γ 79), (1, vi wx), (2, vi nx), (3, vi sx)] dX0_distanceOf_19 (by decide) rfl ?_
      refine AW.iload dX0_distanceOf_21 2 rfl ?_
      refine AW.iload_n dX0_distanceOf_23 6 rfl rfl ?_
      refine AW.iload dX0_distanceOf_24 1 rfl ?_
      refine AW.ishr dX0_distanceOf_26 (by omega) (by omega) ?_
      refine AW.iconst dX0_distanceOf_27 ?_
      refine AW.iandk 1 (by decide) (by decide) dX0_distanceOf_28 ?_
      refine AW.eqt (show sx / 2 ^ x.toNat % 2 ^ 1 = ((bitS S i : Nat) : Int) by rw [hsx, show x.toNat = i by omega]; exact bitI2 S i) ?_
      refine AW.if_ne 42 dX0_distanceOf_29 (by decide) (by have := bitS_2 S i; omega) (fun c29 => ?_) (fun c29 => ?_)
      · refine AW.aload_n dX0_distanceOf_42 3 rfl rfl ?_
        refine AW.getR dX0_distanceOf_43 fl_X0_15 (show sh 79 = (0, 0, [some 80, some 81, some 82, none, none]) from rfl) rfl ?_
        refine AW.iload dX0_distanceOf_46 0 rfl ?_
        refine AW.ialdN (6 * w + i) dX0_distanceOf_48 (show sh 81 = (1, 36, []) from rfl) (by omega) (by omega) (by decide) ?_
        refine AW.iadd dX0_distanceOf_49 ?_
        refine AW.top (fun f2 ef2 => ?_)
        refine AW.istore [(4, vi f2), (6, vi at6), (5, vi x), (0, rf Γ 79), (1, vi wx), (2, vi nx), (3, vi sx)] dX0_distanceOf_50 (by decide) rfl ?_
        obtain ⟨x52, ex52⟩ : ∃ z : Int, x + 1 = z := ⟨_, rfl⟩
        refine AW.iinc [(5, vi x52), (4, vi f2), (6, vi at6), (0, rf Γ 79), (1, vi wx), (2, vi nx), (3, vi sx)] dX0_distanceOf_52 2 rfl (by decide) x52 ex52 rfl ?_
        refine AW.goto 6 dX0_distanceOf_55 (by decide) ?_
        refine AW.sub [0, 1, 3, 4, 5, 6] rfl ?_
        exact ih (i + 1) x52 f2 (by omega) (by omega) (by
          rw [ef2, g2]; simp only [dsF, loW, hiW]
          first
            | (rw [(hms i (by omega)).1, if_neg (by omega)]; done)
            | (rw [(hms i (by omega)).2, if_pos (by have := bitS_2 S i; omega)]; done)) (by omega)
      · refine AW.aload_n dX0_distanceOf_32 3 rfl rfl ?_
        refine AW.getR dX0_distanceOf_33 fl_X0_9 (show sh 79 = (0, 0, [some 80, some 81, some 82, none, none]) from rfl) rfl ?_
        refine AW.iload dX0_distanceOf_36 0 rfl ?_
        refine AW.ialdN (6 * w + i) dX0_distanceOf_38 (show sh 80 = (1, 36, []) from rfl) (by omega) (by omega) (by decide) ?_
        refine AW.goto 49 dX0_distanceOf_39 (by decide) ?_
        refine AW.iadd dX0_distanceOf_49 ?_
        refine AW.top (fun f2 ef2 => ?_)
        refine AW.istore [(4, vi f2), (6, vi at6), (5, vi x), (0, rf Γ 79), (1, vi wx), (2, vi nx), (3, vi sx)] dX0_distanceOf_50 (by decide) rfl ?_
        obtain ⟨x52, ex52⟩ : ∃ z : Int, x + 1 = z := ⟨_, rfl⟩
        refine AW.iinc [(5, vi x52), (4, vi f2), (6, vi at6), (0, rf Γ 79), (1, vi wx), (2, vi nx), (3, vi sx)] dX0_distanceOf_52 2 rfl (by decide) x52 ex52 rfl ?_
        refine AW.goto 6 dX0_distanceOf_55 (by decide) ?_
        refine AW.sub [0, 1, 3, 4, 5, 6] rfl ?_
        exact ih (i + 1) x52 f2 (by omega) (by omega) (by
          rw [ef2, g2]; simp only [dsF, loW, hiW]
          first
            | (rw [(hms i (by omega)).1, if_neg (by omega)]; done)
            | (rw [(hms i (by omega)).2, if_pos (by have := bitS_2 S i; omega)]; done)) (by omega)

set_option maxRecDepth 20000 in
theorem C_distanceOf (Γ : GC) (M : Mm) (r : Nat → Int) (k w S n0 : Nat) (wx nx sx : Int) (hwx : wx = w) (hnx : nx = n0) (hsx : sx = S) (hw : w < 6) (hn : n0 ≤ 6) (hS : S < 64) (hms : msW M r k w n0) : Ct Γ uX0_distanceOf [rf Γ 79, vi wx, vi nx, vi sx] M (Pu (dsF (loW r k) (hiW r k S) r w n0) M) := by
  refine Ct.of (by decide) (Nat.le_of_ble_eq_true rfl) ?_
  show AW Γ uX0_distanceOf 0 [(0, rf Γ 79), (1, vi wx), (2, vi nx), (3, vi sx)] [] M _
  refine AW.iconst dX0_distanceOf_0 ?_
  refine AW.top (fun x1 ex1 => ?_)
  refine AW.istore [(4, vi x1), (0, rf Γ 79), (1, vi wx), (2, vi nx), (3, vi sx)] dX0_distanceOf_1 (by decide) rfl ?_
  refine AW.iconst dX0_distanceOf_3 ?_
  refine AW.top (fun x4 ex4 => ?_)
  refine AW.istore [(5, vi x4), (4, vi x1), (0, rf Γ 79), (1, vi wx), (2, vi nx), (3, vi sx)] dX0_distanceOf_4 (by decide) rfl ?_
  refine AW.sub [0, 1, 2, 3, 4, 5] rfl ?_
  exact sdist_loop Γ M r k w S n0 wx nx sx hwx hnx hsx hw hn hS hms 8 0 x4 x1 (by omega) (by omega) (by rw [ex1]; rfl) (by omega)

def msA (N : Mm) (r : Nat → Int) (k i0 : Nat) : Prop := ∀ w : Nat, (w : Int) < r 1 → r (17 + 7 * w) = r (17 + 7 * k) → msW N r k w i0
theorem msW.mono {N : Mm} {r : Nat → Int} {k w i j : Nat} (h : msW N r k w j) (hij : i ≤ j) : msW N r k w i := fun q hq => h q (by omega)
theorem msW.frame {M N : Mm} {r : Nat → Int} {k w i : Nat} (h : msW M r k w i) (h0 : N 80 = M 80) (h1 : N 81 = M 81) : msW N r k w i := by unfold msW; rw [h0, h1]; exact h
def off8 (M N : Mm) : Prop := ∀ a : Nat, a ≠ 80 → a ≠ 81 → N a = M a

set_option maxRecDepth 20000 in
theorem measure_loop1 (Γ : GC) (M : Mm) (r : Nat → Int) (ho : OkR r) (hr : stRel M 1 r) (k i : Nat) (kx x p q : Int) (hkx : kx = k) (hk : (k : Int) < r 1) (hxi : x = i) (hi : (i : Int) < r (17 + 7 * k)) (hp : p = tl (r (18 + 7 * k + i)).toNat) (hq : q = tg (r (18 + 7 * k + i)).toNat) (Q : Int → Mm → Prop) (hx : ∀ (y : Int) (N : Mm), msA N r k (i + 1) → off8 M N → AW Γ uX0_measure 144 [(6, vi y), (5, vi q), (4, vi p), (3, vi x), (0, rf Γ 79), (1, rf Γ 1), (2, vi kx)] [] N Q) : ∀ (n w : Nat) (y : Int) (N : Mm), y = w → (w : Int) ≤ r 1 → msA N r k i → (∀ u : Nat, u < w → r (17 + 7 * u) = r (17 + 7 * k) → msW N r k u (i + 1)) → off8 M N → 6 - w < n → AW Γ uX0_measure 39 [(6, vi y), (5, vi q), (4, vi p), (3, vi x), (0, rf Γ 79), (1, rf Γ 1), (2, vi kx)] [] N Q := by
  obtain ⟨h1, h2, h3, h4, h5, h6, h7⟩ := st1u hr
  obtain ⟨o0, o1, o2, o3, o4, o5, o6⟩ := id ho
  obtain ⟨k1, k2⟩ := o6 k hk
  have hpd : D8 p := by rw [hp]; exact tl_b _
  have hqd : D8 q := by rw [hq]; exact tg_b _
  intro n
  induction n with
  | zero => intro w y N g0 g1 g3 g4 g5 gm; omega
  | succ n ih =>
    intro w y N g0 g1 g3 g4 g5 gm
    refine AW.iload dX0_measure_39 0 rfl ?_
    refine AW.aload_n dX0_measure_41 5 rfl rfl ?_
    refine AW.getI dX0_measure_42 fl_X0_57 (show sh 1 = (0, 5, [some 2, none, some 3, some 4, none, none, none, none]) from rfl) rfl ?_
    rw [g5 1 (by decide) (by decide), h2]
    refine AW.icmp_ge 144 dX0_measure_45 (by decide) (by omega) (by omega) (fun c45 => ?_) (fun c45 => ?_)
    · refine AW.sub [0, 1, 2, 3, 4, 5, 6] rfl ?_
      exact hx y N (fun u hu hm => g4 u (by omega) hm) g5
    · obtain ⟨w1, w2⟩ := o6 w (by omega)
      refine AW.aload_n dX0_measure_48 5 rfl rfl ?_
      refine AW.getR dX0_measure_49 fl_X0_35 (show sh 1 = (0, 5, [some 2, none, some 3, some 4, none, none, none, none]) from rfl) rfl ?_
      refine AW.iload dX0_measure_52 0 rfl ?_
      refine AW.ialdN w dX0_measure_54 (show sh 4 = (1, 6, []) from rfl) (by omega) (by omega) (by decide) ?_
      rw [g5 4 (by decide) (by decide), (h7 w (by omega)).1]
      refine AW.aload_n dX0_measure_55 5 rfl rfl ?_
      refine AW.getR dX0_measure_56 fl_X0_35 (show sh 1 = (0, 5, [some 2, none, some 3, some 4, none, none, none, none]) from rfl) rfl ?_
      refine AW.iload_n dX0_measure_59 6 rfl rfl ?_
      refine AW.ialdN k dX0_measure_60 (show sh 4 = (1, 6, []) from rfl) (by omega) (by omega) (by decide) ?_
      rw [g5 4 (by decide) (by decide), (h7 k hk).1]
      refine AW.icmp_ne 138 dX0_measure_61 (by decide) (by omega) (by omega) (fun c61 => ?_) (fun c61 => ?_)
      · obtain ⟨x138, ex138⟩ : ∃ z : Int, y + 1 = z := ⟨_, rfl⟩
        refine AW.iinc [(6, vi x138), (5, vi q), (4, vi p), (3, vi x), (0, rf Γ 79), (1, rf Γ 1), (2, vi kx)] dX0_measure_138 0 rfl (by decide) x138 ex138 rfl ?_
        refine AW.goto 39 dX0_measure_141 (by decide) ?_
        refine AW.sub [0, 1, 2, 3, 4, 5, 6] rfl ?_
        exact ih (w + 1) x138 N (by omega) (by omega) g3 (fun u hu hm => by
          by_cases e : u = w
          · rw [e] at hm; exact absurd hm (by omega)
          · exact g4 u (by omega) hm) g5 (by omega)
      · refine AW.aload_n dX0_measure_64 5 rfl rfl ?_
        refine AW.iload dX0_measure_65 0 rfl ?_
        refine AW.iload_n dX0_measure_67 3 rfl rfl ?_
        refine AW.callV2ip (C_letterOf Γ N 1 st1 y x (by omega) (by omega)) dX0_measure_68 mc_X0_51 (show sh 1 = (0, 5, [some 2, none, some 3, some 4, none, none, none, none]) from rfl) (fun _ => rfl) ⟨Nat.le_of_ble_eq_true rfl, Nat.le_of_ble_eq_true rfl⟩ (Nat.le_of_ble_eq_true rfl) ?_
        refine AW.top (fun le ele => ?_)
        refine AW.istore [(7, vi le), (6, vi y), (5, vi q), (4, vi p), (3, vi x), (0, rf Γ 79), (1, rf Γ 1), (2, vi kx)] dX0_measure_71 (by decide) rfl ?_
        have hle : le = r (18 + 7 * w + i) := by
          rw [ele, show (y * 6 + x).toNat = 6 * w + i by omega, g5 3 (by decide) (by decide)]; exact (h7 w (by omega)).2 i (by omega)
        have hleb := w2 i (by omega)
        refine AW.aload_n dX0_measure_73 5 rfl rfl ?_
        refine AW.getR dX0_measure_74 fl_X0_9 (show sh 79 = (0, 0, [some 80, some 81, some 82, none, none]) from rfl) rfl ?_
        refine AW.iload dX0_measure_77 1 rfl ?_
        refine AW.bipush (z := (6)) dX0_measure_79 (by decide) ?_
        refine AW.imul dX0_measure_81 ?_
        refine AW.iload_n dX0_measure_82 4 rfl rfl ?_
        refine AW.iadd dX0_measure_83 ?_
        refine AW.iload dX0_measure_84 3 rfl ?_
        refine AW.iload dX0_measure_86 2 rfl ?_
        refine AW.getsLN dX0_measure_88 gs_X0_48 ?_
        refine AW.iload dX0_measure_91 0 rfl ?_
        refine AW.taldLN (le.toNat) dX0_measure_93 (by omega) (by omega) ?_
        refine AW.getsGN dX0_measure_94 gs_X0_54 ?_
        refine AW.iload dX0_measure_97 0 rfl ?_
        refine AW.taldGN (le.toNat) dX0_measure_99 (by omega) (by omega) ?_
        refine AW.callN4ip (C_betw Γ _ _ _ _ _ (by first | exact hpd | exact hpd) (by first | exact hqd | (constructor <;> omega)) (tl_b _) (tg_b _)) dX0_measure_100 mc_X0_60 (fun _ => rfl) ⟨Nat.le_of_ble_eq_true rfl, Nat.le_of_ble_eq_true rfl⟩ (Nat.le_of_ble_eq_true rfl) ?_
        refine AW.iastN (6 * w + i) dX0_measure_103 (show sh 80 = (1, 36, []) from rfl) (by omega) (by omega) (by decide) ?_
        refine AW.aload_n dX0_measure_104 5 rfl rfl ?_
        refine AW.getR dX0_measure_105 fl_X0_15 (show sh 79 = (0, 0, [some 80, some 81, some 82, none, none]) from rfl) rfl ?_
        refine AW.iload dX0_measure_108 1 rfl ?_
        refine AW.bipush (z := (6)) dX0_measure_110 (by decide) ?_
        refine AW.imul dX0_measure_112 ?_
        refine AW.iload_n dX0_measure_113 4 rfl rfl ?_
        refine AW.iadd dX0_measure_114 ?_
        refine AW.iload dX0_measure_115 3 rfl ?_
        refine AW.iload dX0_measure_117 2 rfl ?_
        refine AW.callN1ip (C_oneOn Γ _ _ hqd) dX0_measure_119 mc_X0_64 (fun _ => rfl) ⟨Nat.le_of_ble_eq_true rfl, Nat.le_of_ble_eq_true rfl⟩ (Nat.le_of_ble_eq_true rfl) ?_
        refine AW.getsLN dX0_measure_122 gs_X0_48 ?_
        refine AW.iload dX0_measure_125 0 rfl ?_
        refine AW.taldLN (le.toNat) dX0_measure_127 (by omega) (by omega) ?_
        refine AW.getsGN dX0_measure_128 gs_X0_54 ?_
        refine AW.iload dX0_measure_131 0 rfl ?_
        refine AW.taldGN (le.toNat) dX0_measure_133 (by omega) (by omega) ?_
        refine AW.callN4ip (C_betw Γ _ _ _ _ _ (by first | exact hpd | exact hpd) (by first | exact hqd | (constructor <;> omega)) (tl_b _) (tg_b _)) dX0_measure_134 mc_X0_60 (fun _ => rfl) ⟨Nat.le_of_ble_eq_true rfl, Nat.le_of_ble_eq_true rfl⟩ (Nat.le_of_ble_eq_true rfl) ?_
        refine AW.iastN (6 * w + i) dX0_measure_137 (show sh 81 = (1, 36, []) from rfl) (by omega) (by omega) (by decide) ?_
        obtain ⟨x138, ex138⟩ : ∃ z : Int, y + 1 = z := ⟨_, rfl⟩
        refine AW.iinc [(6, vi x138), (7, vi le), (5, vi q), (4, vi p), (3, vi x), (0, rf Γ 79), (1, rf Γ 1), (2, vi kx)] dX0_measure_138 1 rfl (by decide) x138 ex138 rfl ?_
        refine AW.goto 39 dX0_measure_141 (by decide) ?_
        refine AW.sub [0, 2, 3, 4, 5, 6, 7] rfl ?_
        refine ih (w + 1) x138 _ (by omega) (by omega) ?_ (fun u hu hm j hj => ?_) (fun a q1 q2 => by rw [up2_c q2, up2_c q1]; exact g5 a q1 q2) (by omega)
        · intro u hu hm j hj
          rw [up2_c (by decide), up2_i (by omega), up2_i (by omega), up2_c (by decide)]
          exact g3 u hu hm j hj
        · by_cases e : u = w ∧ j = i
          · obtain ⟨e1, e2⟩ := e
            subst e1; subst e2
            rw [up2_c (by decide), up2_s, up2_s, hp, hq, hle]; exact ⟨rfl, rfl⟩
          · rw [up2_c (by decide), up2_i (by omega), up2_i (by omega), up2_c (by decide)]
            by_cases e2 : u = w
            · exact g3 u (by omega) hm j (by omega)
            · exact g4 u (by omega) hm j hj

set_option maxRecDepth 20000 in
theorem measure_loop2 (Γ : GC) (M : Mm) (r : Nat → Int) (ho : OkR r) (hr : stRel M 1 r) (k : Nat) (kx : Int) (hkx : kx = k) (hk : (k : Int) < r 1) : ∀ (n i : Nat) (x : Int) (N : Mm), x = i → (i : Int) ≤ r (17 + 7 * k) → msA N r k i → off8 M N → 6 - i < n → AW Γ uX0_measure 2 [(3, vi x), (0, rf Γ 79), (1, rf Γ 1), (2, vi kx)] [] N (fun _ M' => msA M' r k (r (17 + 7 * k)).toNat ∧ off8 M M') := by
  obtain ⟨h1, h2, h3, h4, h5, h6, h7⟩ := st1u hr
  obtain ⟨o0, o1, o2, o3, o4, o5, o6⟩ := id ho
  obtain ⟨k1, k2⟩ := o6 k hk
  intro n
  induction n with
  | zero => intro i x N g0 g1 g3 g5 gm; omega
  | succ n ih =>
    intro i x N g0 g1 g3 g5 gm
    refine AW.iload_n dX0_measure_2 0 rfl rfl ?_
    refine AW.aload_n dX0_measure_3 2 rfl rfl ?_
    refine AW.getR dX0_measure_4 fl_X0_35 (show sh 1 = (0, 5, [some 2, none, some 3, some 4, none, none, none, none]) from rfl) rfl ?_
    refine AW.iload_n dX0_measure_7 3 rfl rfl ?_
    refine AW.ialdN k dX0_measure_8 (show sh 4 = (1, 6, []) from rfl) (by omega) (by omega) (by decide) ?_
    rw [g5 4 (by decide) (by decide), (h7 k hk).1]
    refine AW.icmp_ge 150 dX0_measure_9 (by decide) (by omega) (by omega) (fun c9 => ?_) (fun c9 => ?_)
    · exact AW.vret rfl dX0_measure_150 ⟨by rw [show (r (17 + 7 * k)).toNat = i by omega]; exact g3, g5⟩
    · refine AW.getsLN dX0_measure_12 gs_X0_48 ?_
      refine AW.aload_n dX0_measure_15 2 rfl rfl ?_
      refine AW.iload_n dX0_measure_16 3 rfl rfl ?_
      refine AW.iload_n dX0_measure_17 0 rfl rfl ?_
      refine AW.callV2ip (C_letterOf Γ N 1 st1 kx x (by omega) (by omega)) dX0_measure_18 mc_X0_51 (show sh 1 = (0, 5, [some 2, none, some 3, some 4, none, none, none, none]) from rfl) (fun _ => rfl) ⟨Nat.le_of_ble_eq_true rfl, Nat.le_of_ble_eq_true rfl⟩ (Nat.le_of_ble_eq_true rfl) ?_
      rw [show (kx * 6 + x).toNat = 6 * k + i by omega, g5 3 (by decide) (by decide), (h7 k hk).2 i (by omega)]
      have hlb := k2 i (by omega)
      refine AW.taldLN ((r (18 + 7 * k + i)).toNat) dX0_measure_21 (by omega) (by omega) ?_
      refine AW.top (fun p ep => ?_)
      refine AW.istore [(4, vi p), (3, vi x), (0, rf Γ 79), (1, rf Γ 1), (2, vi kx)] dX0_measure_22 (by decide) rfl ?_
      refine AW.getsGN dX0_measure_24 gs_X0_54 ?_
      refine AW.aload_n dX0_measure_27 3 rfl rfl ?_
      refine AW.iload_n dX0_measure_28 4 rfl rfl ?_
      refine AW.iload_n dX0_measure_29 1 rfl rfl ?_
      refine AW.callV2ip (C_letterOf Γ N 1 st1 kx x (by omega) (by omega)) dX0_measure_30 mc_X0_51 (show sh 1 = (0, 5, [some 2, none, some 3, some 4, none, none, none, none]) from rfl) (fun _ => rfl) ⟨Nat.le_of_ble_eq_true rfl, Nat.le_of_ble_eq_true rfl⟩ (Nat.le_of_ble_eq_true rfl) ?_
      rw [show (kx * 6 + x).toNat = 6 * k + i by omega, g5 3 (by decide) (by decide), (h7 k hk).2 i (by omega)]
      refine AW.taldGN ((r (18 + 7 * k + i)).toNat) dX0_measure_33 (by omega) (by omega) ?_
      refine AW.top (fun q eq => ?_)
      refine AW.istore [(5, vi q), (4, vi p), (3, vi x), (0, rf Γ 79), (1, rf Γ 1), (2, vi kx)] dX0_measure_34 (by decide) rfl ?_
      refine AW.iconst dX0_measure_36 ?_
      refine AW.top (fun y ey => ?_)
      refine AW.istore [(6, vi y), (5, vi q), (4, vi p), (3, vi x), (0, rf Γ 79), (1, rf Γ 1), (2, vi kx)] dX0_measure_37 (by decide) rfl ?_
      refine AW.sub [0, 1, 2, 3, 4, 5, 6] rfl ?_
      refine measure_loop1 Γ M r ho hr k i kx x p q hkx hk g0 (by omega) ep eq _ (fun y2 N2 z1 z2 => ?_) 8 0 y N (by omega) (by omega) g3 (fun u hu => by omega) g5 (by omega)
      obtain ⟨x144, ex144⟩ : ∃ z : Int, x + 1 = z := ⟨_, rfl⟩
      refine AW.iinc [(3, vi x144), (6, vi y2), (5, vi q), (4, vi p), (0, rf Γ 79), (1, rf Γ 1), (2, vi kx)] dX0_measure_144 3 rfl (by decide) x144 ex144 rfl ?_
      refine AW.goto 2 dX0_measure_147 (by decide) ?_
      refine AW.sub [0, 4, 5, 6] rfl ?_
      exact ih (i + 1) x144 N2 (by omega) (by omega) z1 z2 (by omega)

set_option maxRecDepth 20000 in
theorem C_measure (Γ : GC) (M : Mm) (r : Nat → Int) (ho : OkR r) (hr : stRel M 1 r) (k : Nat) (kx : Int) (hkx : kx = k) (hk : (k : Int) < r 1) : Ct Γ uX0_measure [rf Γ 79, rf Γ 1, vi kx] M (fun _ M' => msA M' r k (r (17 + 7 * k)).toNat ∧ off8 M M') := by
  refine Ct.of (by decide) (Nat.le_of_ble_eq_true rfl) ?_
  show AW Γ uX0_measure 0 [(0, rf Γ 79), (1, rf Γ 1), (2, vi kx)] [] M _
  refine AW.iconst dX0_measure_0 ?_
  refine AW.top (fun x1 ex1 => ?_)
  refine AW.istore_n [(3, vi x1), (0, rf Γ 79), (1, rf Γ 1), (2, vi kx)] dX0_measure_1 rfl (by decide) rfl ?_
  refine AW.sub [0, 1, 2, 3] rfl ?_
  exact measure_loop2 Γ M r ho hr k kx hkx hk 8 0 x1 M (by omega) (by have := (ho.2.2.2.2.2.2 k hk).1; omega) (fun w _ _ i hi => by omega) (fun _ _ _ => rfl) (by omega)

set_option maxRecDepth 20000 in
theorem isTold_loop (Γ : GC) (M : Mm) (r : Nat → Int) (ho : OkR r) (hr : stRel M 1 r) (k S : Nat) (kx sx own ln : Int) (hkx : kx = k) (hk : (k : Int) < r 1) (hsx : sx = S) (hS : S < 64) (hms : msA M r k (r (17 + 7 * k)).toNat) (hown : own = dS r k S k) (hln : ln = r (17 + 7 * k)) : ∀ (n w : Nat) (y : Int), y = w → (w : Int) ≤ r 1 → tdF r k S w = 1 → 6 - w < n → AW Γ uX0_isTold 21 [(6, vi y), (5, vi own), (4, vi ln), (0, rf Γ 79), (1, rf Γ 1), (2, vi kx), (3, vi sx)] [] M (Pu (tdF r k S (r 1).toNat) M) := by
  obtain ⟨h1, h2, h3, h4, h5, h6, h7⟩ := st1u hr
  obtain ⟨o0, o1, o2, o3, o4, o5, o6⟩ := id ho
  obtain ⟨k1, k2⟩ := o6 k hk
  intro n
  induction n with
  | zero => intro w y g0 g1 g2 gm; omega
  | succ n ih =>
    intro w y g0 g1 g2 gm
    refine AW.iload dX0_isTold_21 0 rfl ?_
    refine AW.aload_n dX0_isTold_23 4 rfl rfl ?_
    refine AW.getI dX0_isTold_24 fl_X0_57 (show sh 1 = (0, 5, [some 2, none, some 3, some 4, none, none, none, none]) from rfl) rfl ?_
    rw [h2]
    refine AW.icmp_ge 70 dX0_isTold_27 (by decide) (by omega) (by omega) (fun c27 => ?_) (fun c27 => ?_)
    · refine AW.iconst dX0_isTold_70 ?_
      exact AW.zret rfl dX0_isTold_71 (by decide) ⟨by rw [show (r 1).toNat = w by omega]; exact g2.symm, rfl⟩
    · obtain ⟨w1, w2⟩ := o6 w (by omega)
      refine AW.iload dX0_isTold_30 0 rfl ?_
      refine AW.iload_n dX0_isTold_32 5 rfl rfl ?_
      refine AW.icmp_eq 64 dX0_isTold_33 (by decide) (by omega) (by omega) (fun c33 => ?_) (fun c33 => ?_)
      · obtain ⟨x64, ex64⟩ : ∃ z : Int, y + 1 = z := ⟨_, rfl⟩
        refine AW.iinc [(6, vi x64), (5, vi own), (4, vi ln), (0, rf Γ 79), (1, rf Γ 1), (2, vi kx), (3, vi sx)] dX0_isTold_64 0 rfl (by decide) x64 ex64 rfl ?_
        refine AW.goto 21 dX0_isTold_67 (by decide) ?_
        refine AW.sub [0, 1, 2, 3, 4, 5, 6] rfl ?_
        exact ih (w + 1) x64 (by omega) (by omega) (by
          simp only [tdF]
          rw [if_neg (fun q => by unfold dS at q hown; omega)]; exact g2) (by omega)
      · refine AW.aload_n dX0_isTold_36 4 rfl rfl ?_
        refine AW.getR dX0_isTold_37 fl_X0_35 (show sh 1 = (0, 5, [some 2, none, some 3, some 4, none, none, none, none]) from rfl) rfl ?_
        refine AW.iload dX0_isTold_40 0 rfl ?_
        refine AW.ialdN w dX0_isTold_42 (show sh 4 = (1, 6, []) from rfl) (by omega) (by omega) (by decide) ?_
        rw [(h7 w (by omega)).1]
        refine AW.iload dX0_isTold_43 2 rfl ?_
        refine AW.icmp_ne 64 dX0_isTold_45 (by decide) (by omega) (by omega) (fun c45 => ?_) (fun c45 => ?_)
        · obtain ⟨x64, ex64⟩ : ∃ z : Int, y + 1 = z := ⟨_, rfl⟩
          refine AW.iinc [(6, vi x64), (5, vi own), (4, vi ln), (0, rf Γ 79), (1, rf Γ 1), (2, vi kx), (3, vi sx)] dX0_isTold_64 0 rfl (by decide) x64 ex64 rfl ?_
          refine AW.goto 21 dX0_isTold_67 (by decide) ?_
          refine AW.sub [0, 1, 2, 3, 4, 5, 6] rfl ?_
          exact ih (w + 1) x64 (by omega) (by omega) (by
            simp only [tdF]
            rw [if_neg (fun q => by unfold dS at q hown; omega)]; exact g2) (by omega)
        · refine AW.aload_n dX0_isTold_48 3 rfl rfl ?_
          refine AW.iload dX0_isTold_49 0 rfl ?_
          refine AW.iload dX0_isTold_51 2 rfl ?_
          refine AW.iload_n dX0_isTold_53 6 rfl rfl ?_
          refine AW.callV3ip (C_distanceOf Γ M r k w S (r (17 + 7 * k)).toNat y ln sx g0 (by omega) hsx (by omega) (by omega) hS (hms w (by omega) (by omega))) dX0_isTold_54 mc_X0_83 (show sh 79 = (0, 0, [some 80, some 81, some 82, none, none]) from rfl) (fun _ => rfl) ⟨Nat.le_of_ble_eq_true rfl, Nat.le_of_ble_eq_true rfl⟩ (Nat.le_of_ble_eq_true rfl) ?_
          refine AW.iload dX0_isTold_57 1 rfl ?_
          refine AW.icmp_gt 64 dX0_isTold_59 (by decide) (by have := dsW_b r k S w (r (17 + 7 * k)).toNat; omega) (by have := dsW_b r k S k (r (17 + 7 * k)).toNat; unfold dS at hown; omega) (fun c59 => ?_) (fun c59 => ?_)
          · obtain ⟨x64, ex64⟩ : ∃ z : Int, y + 1 = z := ⟨_, rfl⟩
            refine AW.iinc [(6, vi x64), (5, vi own), (4, vi ln), (0, rf Γ 79), (1, rf Γ 1), (2, vi kx), (3, vi sx)] dX0_isTold_64 0 rfl (by decide) x64 ex64 rfl ?_
            refine AW.goto 21 dX0_isTold_67 (by decide) ?_
            refine AW.sub [0, 1, 2, 3, 4, 5, 6] rfl ?_
            exact ih (w + 1) x64 (by omega) (by omega) (by
              simp only [tdF]
              rw [if_neg (fun q => by unfold dS at q hown; omega)]; exact g2) (by omega)
          · refine AW.iconst dX0_isTold_62 ?_
            exact AW.zret rfl dX0_isTold_63 (by decide) ⟨by rw [tdF_0 (w := w) ⟨by omega, by omega, by unfold dS at *; omega⟩ _ (by omega)], rfl⟩

set_option maxRecDepth 20000 in
theorem C_isTold (Γ : GC) (M : Mm) (r : Nat → Int) (ho : OkR r) (hr : stRel M 1 r) (k S : Nat) (kx sx : Int) (hkx : kx = k) (hk : (k : Int) < r 1) (hsx : sx = S) (hS : S < 64) (hms : msA M r k (r (17 + 7 * k)).toNat) : Ct Γ uX0_isTold [rf Γ 79, rf Γ 1, vi kx, vi sx] M (Pu (tdF r k S (r 1).toNat) M) := by
  refine Ct.of (by decide) (Nat.le_of_ble_eq_true rfl) ?_
  show AW Γ uX0_isTold 0 [(0, rf Γ 79), (1, rf Γ 1), (2, vi kx), (3, vi sx)] [] M _
  obtain ⟨h1, h2, h3, h4, h5, h6, h7⟩ := st1u hr
  obtain ⟨o0, o1, o2, o3, o4, o5, o6⟩ := id ho
  obtain ⟨k1, k2⟩ := o6 k hk
  refine AW.aload_n dX0_isTold_0 1 rfl rfl ?_
  refine AW.getR dX0_isTold_1 fl_X0_35 (show sh 1 = (0, 5, [some 2, none, some 3, some 4, none, none, none, none]) from rfl) rfl ?_
  refine AW.iload_n dX0_isTold_4 2 rfl rfl ?_
  refine AW.ialdN k dX0_isTold_5 (show sh 4 = (1, 6, []) from rfl) (by omega) (by omega) (by decide) ?_
  rw [(h7 k hk).1]
  refine AW.top (fun ln eln => ?_)
  refine AW.istore [(4, vi ln), (0, rf Γ 79), (1, rf Γ 1), (2, vi kx), (3, vi sx)] dX0_isTold_6 (by decide) rfl ?_
  refine AW.aload_n dX0_isTold_8 1 rfl rfl ?_
  refine AW.iload_n dX0_isTold_9 3 rfl rfl ?_
  refine AW.iload dX0_isTold_10 0 rfl ?_
  refine AW.iload_n dX0_isTold_12 4 rfl rfl ?_
  refine AW.callV3ip (C_distanceOf Γ M r k k S (r (17 + 7 * k)).toNat kx ln sx hkx (by omega) hsx (by omega) (by omega) hS (hms k hk rfl)) dX0_isTold_13 mc_X0_83 (show sh 79 = (0, 0, [some 80, some 81, some 82, none, none]) from rfl) (fun _ => rfl) ⟨Nat.le_of_ble_eq_true rfl, Nat.le_of_ble_eq_true rfl⟩ (Nat.le_of_ble_eq_true rfl) ?_
  refine AW.top (fun own eown => ?_)
  refine AW.istore [(5, vi own), (4, vi ln), (0, rf Γ 79), (1, rf Γ 1), (2, vi kx), (3, vi sx)] dX0_isTold_16 (by decide) rfl ?_
  refine AW.iconst dX0_isTold_18 ?_
  refine AW.top (fun x19 ex19 => ?_)
  refine AW.istore [(6, vi x19), (5, vi own), (4, vi ln), (0, rf Γ 79), (1, rf Γ 1), (2, vi kx), (3, vi sx)] dX0_isTold_19 (by decide) rfl ?_
  refine AW.sub [0, 1, 2, 3, 4, 5, 6] rfl ?_
  exact isTold_loop Γ M r ho hr k S kx sx own ln hkx hk hsx hS hms eown eln 8 0 x19 (by omega) (by omega) rfl (by omega)

set_option maxRecDepth 20000 in
theorem told_loop (Γ : GC) (M : Mm) (r : Nat → Int) (ho : OkR r) (hr : stRel M 1 r) (k : Nat) (kx : Int) (hkx : kx = k) (hk : (k : Int) < r 1) (hms : msA M r k (r (17 + 7 * k)).toNat) : ∀ (n S : Nat) (x : Int) (N : Mm), x = S → S ≤ 2 ^ (r (17 + 7 * k)).toNat → (∀ j : Nat, j ≤ 6 → N 82 j = tdC r k j S) → (∀ a : Nat, a ≠ 82 → N a = M a) → 64 - S < n → AW Γ uX0_countTold 10 [(3, vi x), (0, rf Γ 79), (1, rf Γ 1), (2, vi kx)] [] N (fun _ M' => (∀ j : Nat, j ≤ 6 → M' 82 j = tdC r k j (2 ^ (r (17 + 7 * k)).toNat)) ∧ ∀ a : Nat, a ≠ 82 → M' a = M a) := by
  obtain ⟨h1, h2, h3, h4, h5, h6, h7⟩ := st1u hr
  obtain ⟨o0, o1, o2, o3, o4, o5, o6⟩ := id ho
  obtain ⟨k1, k2⟩ := o6 k hk
  have hp6 : (2 : Nat) ^ (r (17 + 7 * k)).toNat ≤ 2 ^ 6 := Nat.pow_le_pow_right (by decide) (by omega)
  have hpw : (2 : Int) ^ (r (17 + 7 * k)).toNat = ((2 ^ (r (17 + 7 * k)).toNat : Nat) : Int) := by simp
  intro n
  induction n with
  | zero => intro S x N g0 g1 g3 g5 gm; omega
  | succ n ih =>
    intro S x N g0 g1 g3 g5 gm
    have hrN : stRel N 1 r := hr.frame (g5 _ (by decide)) (g5 _ (by decide)) (g5 _ (by decide)) (g5 _ (by decide))
    have hmsN : msA N r k (r (17 + 7 * k)).toNat := fun w q1 q2 => (hms w q1 q2).frame (g5 _ (by decide)) (g5 _ (by decide))
    refine AW.iload_n dX0_countTold_10 0 rfl rfl ?_
    refine AW.iconst dX0_countTold_11 ?_
    refine AW.aload_n dX0_countTold_12 2 rfl rfl ?_
    refine AW.getR dX0_countTold_13 fl_X0_35 (show sh 1 = (0, 5, [some 2, none, some 3, some 4, none, none, none, none]) from rfl) rfl ?_
    refine AW.iload_n dX0_countTold_16 3 rfl rfl ?_
    refine AW.ialdN k dX0_countTold_17 (show sh 4 = (1, 6, []) from rfl) (by omega) (by omega) (by decide) ?_
    rw [g5 4 (by decide), (h7 k hk).1]
    refine AW.ishl1 dX0_countTold_18 (by omega) ?_
    rw [hpw]
    refine AW.icmp_ge 51 dX0_countTold_19 (by decide) (by omega) (by omega) (fun c19 => ?_) (fun c19 => ?_)
    · exact AW.vret rfl dX0_countTold_51 ⟨fun j hj => by rw [show (2 : Nat) ^ (r (17 + 7 * k)).toNat = S by omega]; exact g3 j hj, g5⟩
    · refine AW.aload_n dX0_countTold_22 1 rfl rfl ?_
      refine AW.aload_n dX0_countTold_23 2 rfl rfl ?_
      refine AW.iload_n dX0_countTold_24 3 rfl rfl ?_
      refine AW.iload_n dX0_countTold_25 0 rfl rfl ?_
      refine AW.callV3ip (C_isTold Γ N r ho hrN k S kx x hkx hk g0 (by omega) hmsN) dX0_countTold_26 mc_X0_74 (show sh 79 = (0, 0, [some 80, some 81, some 82, none, none]) from rfl) (fun _ => rfl) ⟨Nat.le_of_ble_eq_true rfl, Nat.le_of_ble_eq_true rfl⟩ (Nat.le_of_ble_eq_true rfl) ?_
      refine AW.if_eq 45 dX0_countTold_29 (by decide) (by rcases tdF_01 r k S (r 1).toNat with q | q <;> omega) (fun c29 => ?_) (fun c29 => ?_)
      · obtain ⟨x45, ex45⟩ : ∃ z : Int, x + 1 = z := ⟨_, rfl⟩
        refine AW.iinc [(3, vi x45), (0, rf Γ 79), (1, rf Γ 1), (2, vi kx)] dX0_countTold_45 0 rfl (by decide) x45 ex45 rfl ?_
        refine AW.goto 10 dX0_countTold_48 (by decide) ?_
        refine AW.sub [0, 1, 2, 3] rfl ?_
        exact ih (S + 1) x45 N (by omega) (by omega) (fun j hj => by
          simp only [tdC]
          rw [if_neg (fun q => by omega), g3 j hj, Int.add_zero]) g5 (by omega)
      · have hp6 := popF_le S 6
        refine AW.aload_n dX0_countTold_32 1 rfl rfl ?_
        refine AW.getR dX0_countTold_33 fl_X0_18 (show sh 79 = (0, 0, [some 80, some 81, some 82, none, none]) from rfl) rfl ?_
        refine AW.iload_n dX0_countTold_36 0 rfl rfl ?_
        refine AW.callS1ip (C_bitCount Γ N x S g0 (by omega)) dX0_countTold_37 mc_X0_78 (fun _ => rfl) ⟨Nat.le_of_ble_eq_true rfl, Nat.le_of_ble_eq_true rfl⟩ (Nat.le_of_ble_eq_true rfl) ?_
        refine AW.dup2 dX0_countTold_40 rfl rfl ?_
        refine AW.ialdN (popF S 6) dX0_countTold_41 (show sh 82 = (1, 7, []) from rfl) (by omega) (by omega) (by decide) ?_
        rw [g3 (popF S 6) (by have := popF_le S 6; omega)]
        refine AW.iconst dX0_countTold_42 ?_
        refine AW.iadd dX0_countTold_43 ?_
        refine AW.iastN (popF S 6) dX0_countTold_44 (show sh 82 = (1, 7, []) from rfl) (by omega) (by omega) (by decide) ?_
        obtain ⟨x45, ex45⟩ : ∃ z : Int, x + 1 = z := ⟨_, rfl⟩
        refine AW.iinc [(3, vi x45), (0, rf Γ 79), (1, rf Γ 1), (2, vi kx)] dX0_countTold_45 0 rfl (by decide) x45 ex45 rfl ?_
        refine AW.goto 10 dX0_countTold_48 (by decide) ?_
        refine AW.sub [0, 1, 2, 3] rfl ?_
        refine ih (S + 1) x45 _ (by omega) (by omega) (fun j hj => ?_) (fun a q1 => by rw [up2_c q1]; exact g5 a q1) (by omega)
        have ht1 : tdF r k S (r 1).toNat = 1 := by rcases tdF_01 r k S (r 1).toNat with q | q <;> omega
        simp only [tdC]
        by_cases e : j = popF S 6
        · subst e; rw [up2_s, if_pos ⟨ht1, rfl⟩]
        · rw [up2_i e, if_neg (fun q => e q.2.symm), g3 j hj, Int.add_zero]

set_option maxRecDepth 20000 in
theorem C_countTold (Γ : GC) (M : Mm) (r : Nat → Int) (ho : OkR r) (hr : stRel M 1 r) (k : Nat) (kx : Int) (hkx : kx = k) (hk : (k : Int) < r 1) (hms : msA M r k (r (17 + 7 * k)).toNat) : Ct Γ uX0_countTold [rf Γ 79, rf Γ 1, vi kx] M (fun _ M' => (∀ j : Nat, j ≤ 6 → M' 82 j = tdC r k j (2 ^ (r (17 + 7 * k)).toNat)) ∧ ∀ a : Nat, a ≠ 82 → M' a = M a) := by
  refine Ct.of (by decide) (Nat.le_of_ble_eq_true rfl) ?_
  show AW Γ uX0_countTold 0 [(0, rf Γ 79), (1, rf Γ 1), (2, vi kx)] [] M _
  refine AW.aload_n dX0_countTold_0 0 rfl rfl ?_
  refine AW.getR dX0_countTold_1 fl_X0_18 (show sh 79 = (0, 0, [some 80, some 81, some 82, none, none]) from rfl) rfl ?_
  refine AW.iconst dX0_countTold_4 ?_
  refine AW.callS2v (C_filli Γ M 82 7 rfl (by decide) 0) dX0_countTold_5 mc_X0_68 (fun _ => rfl) ⟨Nat.le_of_ble_eq_true rfl, Nat.le_of_ble_eq_true rfl⟩ (Nat.le_of_ble_eq_true rfl) (fun z5 M5 h5 => ?_)
  refine AW.iconst dX0_countTold_8 ?_
  refine AW.top (fun x9 ex9 => ?_)
  refine AW.istore_n [(3, vi x9), (0, rf Γ 79), (1, rf Γ 1), (2, vi kx)] dX0_countTold_9 rfl (by decide) rfl ?_
  refine AW.sub [0, 1, 2, 3] rfl ?_
  refine told_loop Γ M r ho hr k kx hkx hk hms 66 0 x9 _ (by omega) (Nat.zero_le _) (fun j hj => ?_) (fun a q1 => ?_) (by omega)
  · rw [h5, upM_s]; simp only [flFi, tdC]; rw [if_pos (by omega)]
  · rw [h5, upM_n q1]

set_option maxRecDepth 20000 in
theorem reduce_loop (Γ : GC) (M : Mm) (p t0 : Nat) (px tx : Int) (hpx : px = p) (htx : tx = t0) (hp : 2 ≤ p ∧ p ≤ 5) (ht0 : t0 ≤ 6) (ab : Nat × Nat) : ∀ (n t a b : Nat) (x : Int) (N : Mm), x = (t0 : Int) - t → t ≤ t0 → N 79 3 = a → N 79 4 = b → (a < 2147483648 ∧ b < 2147483648) → redF p t a b = ab → (∀ j : Nat, j ≠ 3 → j ≠ 4 → N 79 j = M 79 j) → (∀ a : Nat, a ≠ 79 → N a = M a) → t < n → AW Γ uX0_reduceBy 2 [(3, vi x), (0, rf Γ 79), (1, vi px), (2, vi tx)] [] N (fun _ M' => (M' 79 3 = (ab.1 : Nat) ∧ M' 79 4 = (ab.2 : Nat)) ∧ (∀ j : Nat, j ≠ 3 → j ≠ 4 → M' 79 j = M 79 j) ∧ ∀ a : Nat, a ≠ 79 → M' a = M a) := by
  intro n
  induction n with
  | zero => intro t a b x N g0 g1 g2 g3 g5 g6 g7 g8 gm; omega
  | succ n ih =>
    intro t a b x N g0 g1 g2 g3 g5 g6 g7 g8 gm
    refine AW.iload_n dX0_reduceBy_2 0 rfl rfl ?_
    refine AW.iload_n dX0_reduceBy_3 3 rfl rfl ?_
    refine AW.icmp_ge 42 dX0_reduceBy_4 (by decide) (by omega) (by omega) (fun c4 => ?_) (fun c4 => ?_)
    · exact AW.vret rfl dX0_reduceBy_42 (by
        have ht : t = 0 := by omega
        subst ht
        rw [← g6]; exact ⟨⟨g2, g3⟩, g7, g8⟩)
    · refine AW.aload_n dX0_reduceBy_7 1 rfl rfl ?_
      refine AW.getI dX0_reduceBy_8 fl_X0_21 (show sh 79 = (0, 0, [some 80, some 81, some 82, none, none]) from rfl) rfl ?_
      rw [g2]
      refine AW.iload_n dX0_reduceBy_11 2 rfl rfl ?_
      refine AW.irem dX0_reduceBy_12 (by omega) (by omega) ?_
      have hmp := Nat.mod_lt a (show p > 0 by omega)
      refine AW.eqt (show (a : Int) % px = ((a % p : Nat) : Int) by rw [hpx]; exact (Int.natCast_emod a p).symm) ?_
      refine AW.if_ne 42 dX0_reduceBy_13 (by decide) (by omega) (fun c13 => ?_) (fun c13 => ?_)
      · exact AW.vret rfl dX0_reduceBy_42 (by
          obtain ⟨t1, ht1⟩ : ∃ t1 : Nat, t = t1 + 1 := ⟨t - 1, by omega⟩
          subst ht1
          rw [← g6]
          simp only [redF]
          rw [if_neg (by omega)]; exact ⟨⟨g2, g3⟩, g7, g8⟩)
      · refine AW.aload_n dX0_reduceBy_16 1 rfl rfl ?_
        refine AW.dup dX0_reduceBy_17 rfl ?_
        refine AW.getI dX0_reduceBy_18 fl_X0_21 (show sh 79 = (0, 0, [some 80, some 81, some 82, none, none]) from rfl) rfl ?_
        rw [g2]
        refine AW.iload_n dX0_reduceBy_21 2 rfl rfl ?_
        refine AW.idiv dX0_reduceBy_22 (by omega) (by omega) ?_
        refine AW.eqt (show (a : Int) / px = ((a / p : Nat) : Int) by rw [hpx]; exact (Int.natCast_ediv a p).symm) ?_
        refine AW.putI dX0_reduceBy_23 fp_X0_21 (show sh 79 = (0, 0, [some 80, some 81, some 82, none, none]) from rfl) rfl ?_
        refine AW.aload_n dX0_reduceBy_26 1 rfl rfl ?_
        refine AW.dup dX0_reduceBy_27 rfl ?_
        refine AW.getI dX0_reduceBy_28 fl_X0_25 (show sh 79 = (0, 0, [some 80, some 81, some 82, none, none]) from rfl) rfl ?_
        rw [up2_i (by decide), g3]
        refine AW.iload_n dX0_reduceBy_31 2 rfl rfl ?_
        refine AW.idiv dX0_reduceBy_32 (by omega) (by omega) ?_
        refine AW.eqt (show (b : Int) / px = ((b / p : Nat) : Int) by rw [hpx]; exact (Int.natCast_ediv b p).symm) ?_
        refine AW.putI dX0_reduceBy_33 fp_X0_25 (show sh 79 = (0, 0, [some 80, some 81, some 82, none, none]) from rfl) rfl ?_
        obtain ⟨x36, ex36⟩ : ∃ z : Int, x + 1 = z := ⟨_, rfl⟩
        refine AW.iinc [(3, vi x36), (0, rf Γ 79), (1, vi px), (2, vi tx)] dX0_reduceBy_36 0 rfl (by decide) x36 ex36 rfl ?_
        refine AW.goto 2 dX0_reduceBy_39 (by decide) ?_
        refine AW.sub [0, 1, 2, 3] rfl ?_
        have da := Nat.div_le_self a p
        have db := Nat.div_le_self b p
        refine ih (t - 1) (a / p) (b / p) x36 _ (by omega) (by omega) (by rw [up2_i (by decide), up2_s]) (by rw [up2_s]) (by omega) ?_ (fun j q1 q2 => by rw [up2_i q2, up2_i q1]; exact g7 j q1 q2) (fun q q1 => by rw [up2_c q1, up2_c q1]; exact g8 q q1) (by omega)
        rw [← g6]
        obtain ⟨t1, ht1⟩ : ∃ t1 : Nat, t = t1 + 1 := ⟨t - 1, by omega⟩
        subst ht1
        simp only [redF]
        rw [if_pos (by omega), show t1 + 1 - 1 = t1 by omega]

set_option maxRecDepth 20000 in
theorem C_reduceBy (Γ : GC) (M : Mm) (p t : Nat) (px tx : Int) (hpx : px = p) (htx : tx = t) (hp : 2 ≤ p ∧ p ≤ 5) (ht : t ≤ 6) (a b : Nat) (ha : M 79 3 = a) (hb : M 79 4 = b) (hab : a < 2147483648 ∧ b < 2147483648) : Ct Γ uX0_reduceBy [rf Γ 79, vi px, vi tx] M (fun _ M' => (M' 79 3 = ((redF p t a b).1 : Nat) ∧ M' 79 4 = ((redF p t a b).2 : Nat)) ∧ (∀ j : Nat, j ≠ 3 → j ≠ 4 → M' 79 j = M 79 j) ∧ ∀ a : Nat, a ≠ 79 → M' a = M a) := by
  refine Ct.of (by decide) (Nat.le_of_ble_eq_true rfl) ?_
  show AW Γ uX0_reduceBy 0 [(0, rf Γ 79), (1, vi px), (2, vi tx)] [] M _
  refine AW.iconst dX0_reduceBy_0 ?_
  refine AW.top (fun x1 ex1 => ?_)
  refine AW.istore_n [(3, vi x1), (0, rf Γ 79), (1, vi px), (2, vi tx)] dX0_reduceBy_1 rfl (by decide) rfl ?_
  refine AW.sub [0, 1, 2, 3] rfl ?_
  exact reduce_loop Γ M p t px tx hpx htx hp ht _ (t + 1) t a b x1 M (by omega) (Nat.le_refl _) ha hb hab rfl (fun _ _ _ => rfl) (fun _ _ => rfl) (by omega)

set_option maxRecDepth 20000 in
theorem odds_loop (Γ : GC) (M : Mm) (r : Nat → Int) (k L : Nat) (hL : L ≤ 6) (kx c ln : Int) (hln : ln = L) (hT : ∀ j : Nat, j ≤ 6 → M 82 j = tdC r k j (2 ^ L)) (Q : Int → Mm → Prop) (hx : ∀ (x : Int) (N : Mm), N 79 3 = sumF (fun j => tdC r k j (2 ^ L) * c ^ j * (10 - c) ^ (L - j)) (L + 1) → (∀ q : Nat, q ≠ 3 → N 79 q = M 79 q) → (∀ a : Nat, a ≠ 79 → N a = M a) → AW Γ uX0_find 77 [(5, vi x), (4, vi ln), (0, rf Γ 79), (1, rf Γ 1), (2, vi kx), (3, vi c)] [] N Q) : ∀ (n j : Nat) (x : Int) (N : Mm), x = j → j ≤ L + 1 → N 79 3 = sumF (fun j => tdC r k j (2 ^ L) * c ^ j * (10 - c) ^ (L - j)) j → (∀ q : Nat, q ≠ 3 → N 79 q = M 79 q) → (∀ a : Nat, a ≠ 79 → N a = M a) → L + 1 - j < n → AW Γ uX0_find 28 [(5, vi x), (4, vi ln), (0, rf Γ 79), (1, rf Γ 1), (2, vi kx), (3, vi c)] [] N Q := by
  intro n
  induction n with
  | zero => intro j x N g0 g1 g2 g4 g5 gm; omega
  | succ n ih =>
    intro j x N g0 g1 g2 g4 g5 gm
    refine AW.iload dX0_find_28 0 rfl ?_
    refine AW.iload dX0_find_30 1 rfl ?_
    refine AW.icmp_gt 77 dX0_find_32 (by decide) (by omega) (by omega) (fun c32 => ?_) (fun c32 => ?_)
    · refine AW.sub [0, 1, 2, 3, 4, 5] rfl ?_
      exact hx x N (by rw [g2, show L + 1 = j by omega]) g4 g5
    · refine AW.aload_n dX0_find_35 2 rfl rfl ?_
      refine AW.dup dX0_find_36 rfl ?_
      refine AW.getI dX0_find_37 fl_X0_21 (show sh 79 = (0, 0, [some 80, some 81, some 82, none, none]) from rfl) rfl ?_
      rw [g2]
      refine AW.aload_n dX0_find_40 2 rfl rfl ?_
      refine AW.getR dX0_find_41 fl_X0_18 (show sh 79 = (0, 0, [some 80, some 81, some 82, none, none]) from rfl) rfl ?_
      refine AW.iload dX0_find_44 0 rfl ?_
      refine AW.ialdN j dX0_find_46 (show sh 82 = (1, 7, []) from rfl) (by omega) (by omega) (by decide) ?_
      rw [g5 82 (by decide), hT j (by omega)]
      refine AW.iload_n dX0_find_47 5 rfl rfl ?_
      refine AW.iload dX0_find_48 0 rfl ?_
      refine AW.callS2ip (C_power Γ N c x j g0 (by omega)) dX0_find_50 mc_X0_40 (fun _ => rfl) ⟨Nat.le_of_ble_eq_true rfl, Nat.le_of_ble_eq_true rfl⟩ (Nat.le_of_ble_eq_true rfl) ?_
      refine AW.imul dX0_find_53 ?_
      refine AW.bipush (z := (10)) dX0_find_54 (by decide) ?_
      refine AW.iload_n dX0_find_56 5 rfl rfl ?_
      refine AW.isub dX0_find_57 ?_
      refine AW.iload dX0_find_58 1 rfl ?_
      refine AW.iload dX0_find_60 0 rfl ?_
      refine AW.isub dX0_find_62 ?_
      refine AW.callS2ip (C_power Γ N _ _ (L - j) (by omega) (by omega)) dX0_find_63 mc_X0_40 (fun _ => rfl) ⟨Nat.le_of_ble_eq_true rfl, Nat.le_of_ble_eq_true rfl⟩ (Nat.le_of_ble_eq_true rfl) ?_
      refine AW.imul dX0_find_66 ?_
      refine AW.iadd dX0_find_67 ?_
      refine AW.putI dX0_find_68 fp_X0_21 (show sh 79 = (0, 0, [some 80, some 81, some 82, none, none]) from rfl) rfl ?_
      obtain ⟨x71, ex71⟩ : ∃ z : Int, x + 1 = z := ⟨_, rfl⟩
      refine AW.iinc [(5, vi x71), (4, vi ln), (0, rf Γ 79), (1, rf Γ 1), (2, vi kx), (3, vi c)] dX0_find_71 0 rfl (by decide) x71 ex71 rfl ?_
      refine AW.goto 28 dX0_find_74 (by decide) ?_
      refine AW.sub [0, 1, 2, 3, 4, 5] rfl ?_
      exact ih (j + 1) x71 _ (by omega) (by omega) (by rw [up2_s]; rfl) (fun q q1 => by rw [up2_i q1]; exact g4 q q1) (fun a q1 => by rw [up2_c q1]; exact g5 a q1) (by omega)

set_option maxRecDepth 20000 in
theorem C_ofind (Γ : GC) (M : Mm) (r : Nat → Int) (ho : OkR r) (hr : stRel M 1 r) (k : Nat) (kx c : Int) (hkx : kx = k) (hk : (k : Int) < r 1) (hc : 0 ≤ c ∧ c ≤ 10) : Ct Γ uX0_find [rf Γ 79, rf Γ 1, vi kx, vi c] M (fun _ M' => (M' 79 3 = (((abF r k c (2 ^ (r (17 + 7 * k)).toNat)).toNat / Nat.gcd (abF r k c (2 ^ (r (17 + 7 * k)).toNat)).toNat (10 ^ (r (17 + 7 * k)).toNat) : Nat) : Int) ∧ M' 79 4 = ((10 ^ (r (17 + 7 * k)).toNat / Nat.gcd (abF r k c (2 ^ (r (17 + 7 * k)).toNat)).toNat (10 ^ (r (17 + 7 * k)).toNat) : Nat) : Int)) ∧ ∀ a : Nat, a ≠ 79 → a ≠ 80 → a ≠ 81 → a ≠ 82 → M' a = M a) := by
  refine Ct.of (by decide) (Nat.le_of_ble_eq_true rfl) ?_
  show AW Γ uX0_find 0 [(0, rf Γ 79), (1, rf Γ 1), (2, vi kx), (3, vi c)] [] M _
  refine AW.aload_n dX0_find_0 0 rfl rfl ?_
  refine AW.aload_n dX0_find_1 1 rfl rfl ?_
  refine AW.iload_n dX0_find_2 2 rfl rfl ?_
  refine AW.callV2v (C_measure Γ M r ho hr k kx hkx hk) dX0_find_3 mc_X0_28 (show sh 79 = (0, 0, [some 80, some 81, some 82, none, none]) from rfl) (fun _ => rfl) ⟨Nat.le_of_ble_eq_true rfl, Nat.le_of_ble_eq_true rfl⟩ (Nat.le_of_ble_eq_true rfl) (fun z3 M3 h3 => ?_)
  obtain ⟨ms, f3⟩ := h3
  have hr3 : stRel M3 1 r := hr.frame (f3 _ (by decide) (by decide)) (f3 _ (by decide) (by decide)) (f3 _ (by decide) (by decide)) (f3 _ (by decide) (by decide))
  refine AW.aload_n dX0_find_6 0 rfl rfl ?_
  refine AW.aload_n dX0_find_7 1 rfl rfl ?_
  refine AW.iload_n dX0_find_8 2 rfl rfl ?_
  refine AW.callV2v (C_countTold Γ M3 r ho hr3 k kx hkx hk ms) dX0_find_9 mc_X0_32 (show sh 79 = (0, 0, [some 80, some 81, some 82, none, none]) from rfl) (fun _ => rfl) ⟨Nat.le_of_ble_eq_true rfl, Nat.le_of_ble_eq_true rfl⟩ (Nat.le_of_ble_eq_true rfl) (fun z9 M9 h9 => ?_)
  obtain ⟨tc, f9⟩ := h9
  have hr9 : stRel M9 1 r := hr3.frame (f9 _ (by decide)) (f9 _ (by decide)) (f9 _ (by decide)) (f9 _ (by decide))
  obtain ⟨h1, h2, h3', h4, h5, h6, h7⟩ := st1u hr9
  obtain ⟨o0, o1, o2, o3, o4, o5, o6⟩ := id ho
  obtain ⟨k1, k2⟩ := o6 k hk
  refine AW.aload_n dX0_find_12 1 rfl rfl ?_
  refine AW.getR dX0_find_13 fl_X0_35 (show sh 1 = (0, 5, [some 2, none, some 3, some 4, none, none, none, none]) from rfl) rfl ?_
  refine AW.iload_n dX0_find_16 2 rfl rfl ?_
  refine AW.ialdN k dX0_find_17 (show sh 4 = (1, 6, []) from rfl) (by omega) (by omega) (by decide) ?_
  rw [(h7 k hk).1]
  refine AW.top (fun ln eln => ?_)
  refine AW.istore [(4, vi ln), (0, rf Γ 79), (1, rf Γ 1), (2, vi kx), (3, vi c)] dX0_find_18 (by decide) rfl ?_
  refine AW.aload_n dX0_find_20 1 rfl rfl ?_
  refine AW.iconst dX0_find_21 ?_
  refine AW.putI dX0_find_22 fp_X0_21 (show sh 79 = (0, 0, [some 80, some 81, some 82, none, none]) from rfl) rfl ?_
  refine AW.iconst dX0_find_25 ?_
  refine AW.top (fun x26 ex26 => ?_)
  refine AW.istore [(5, vi x26), (4, vi ln), (0, rf Γ 79), (1, rf Γ 1), (2, vi kx), (3, vi c)] dX0_find_26 (by decide) rfl ?_
  refine AW.sub [0, 1, 2, 3, 4, 5] rfl ?_
  refine odds_loop Γ (up2 M9 79 3 0) r k (r (17 + 7 * k)).toNat (by omega) kx c ln (by omega) (fun j hj => by rw [up2_c (by decide)]; exact tc j hj) _ (fun x N z1 z2 z3 => ?_) 8 0 x26 _ (by omega) (by omega) (by rw [up2_s]; rfl) (fun _ _ => rfl) (fun _ _ => rfl) (by omega)
  rw [abF_sum r k c k1 _ (Nat.le_refl _)] at z1
  obtain ⟨A, hA⟩ : ∃ A : Int, A = abF r k c (2 ^ (r (17 + 7 * k)).toNat) := ⟨_, rfl⟩
  have hAb := abF_b hc k1 (2 ^ (r (17 + 7 * k)).toNat)
  have hp6 : (2 : Nat) ^ (r (17 + 7 * k)).toNat ≤ 2 ^ 6 := Nat.pow_le_pow_right (by decide) (by omega)
  rw [← hA] at z1 hAb ⊢
  have ht6 := ten6 (r (17 + 7 * k)).toNat (by omega)
  have htc : ((10 ^ (r (17 + 7 * k)).toNat : Nat) : Int) = (10 : Int) ^ (r (17 + 7 * k)).toNat := by simp
  refine AW.aload_n dX0_find_77 2 rfl rfl ?_
  refine AW.bipush (z := (10)) dX0_find_78 (by decide) ?_
  refine AW.iload dX0_find_80 1 rfl ?_
  refine AW.callS2ip (C_power Γ N 10 ln (r (17 + 7 * k)).toNat (by omega) (by omega)) dX0_find_82 mc_X0_40 (fun _ => rfl) ⟨Nat.le_of_ble_eq_true rfl, Nat.le_of_ble_eq_true rfl⟩ (Nat.le_of_ble_eq_true rfl) ?_
  refine AW.putI dX0_find_85 fp_X0_25 (show sh 79 = (0, 0, [some 80, some 81, some 82, none, none]) from rfl) rfl ?_
  refine AW.aload_n dX0_find_88 2 rfl rfl ?_
  refine AW.iconst dX0_find_89 ?_
  refine AW.iload dX0_find_90 1 rfl ?_
  refine AW.callV2v (C_reduceBy Γ _ 2 (r (17 + 7 * k)).toNat 2 ln rfl (by omega) (by decide) (by omega) A.toNat (10 ^ (r (17 + 7 * k)).toNat) (by rw [up2_i (by decide), z1]; omega) (by rw [up2_s, htc]) (by omega)) dX0_find_92 mc_X0_44 (show sh 79 = (0, 0, [some 80, some 81, some 82, none, none]) from rfl) (fun _ => rfl) ⟨Nat.le_of_ble_eq_true rfl, Nat.le_of_ble_eq_true rfl⟩ (Nat.le_of_ble_eq_true rfl) (fun z92 M92 h92 => ?_)
  obtain ⟨⟨e1, e2⟩, e3, e4⟩ := h92
  obtain ⟨s1, i1, i2, i3, _⟩ := redF_spec 2 (by decide) (r (17 + 7 * k)).toNat A.toNat (10 ^ (r (17 + 7 * k)).toNat) ⟨5 ^ (r (17 + 7 * k)).toNat, by rw [← Nat.mul_pow]⟩
  have l1 : (redF 2 (r (17 + 7 * k)).toNat A.toNat (10 ^ (r (17 + 7 * k)).toNat)).1 ≤ A.toNat := by
    conv => rhs; rw [i2]
    exact Nat.le_mul_of_pos_left _ (Nat.two_pow_pos s1)
  have l2 : (redF 2 (r (17 + 7 * k)).toNat A.toNat (10 ^ (r (17 + 7 * k)).toNat)).2 ≤ 10 ^ (r (17 + 7 * k)).toNat := by
    conv => rhs; rw [i3]
    exact Nat.le_mul_of_pos_left _ (Nat.two_pow_pos s1)
  refine AW.aload_n dX0_find_95 2 rfl rfl ?_
  refine AW.iconst dX0_find_96 ?_
  refine AW.iload dX0_find_97 1 rfl ?_
  refine AW.callV2v (C_reduceBy Γ _ 5 (r (17 + 7 * k)).toNat 5 ln rfl (by omega) (by decide) (by omega) _ _ e1 e2 (by omega)) dX0_find_99 mc_X0_44 (show sh 79 = (0, 0, [some 80, some 81, some 82, none, none]) from rfl) (fun _ => rfl) ⟨Nat.le_of_ble_eq_true rfl, Nat.le_of_ble_eq_true rfl⟩ (Nat.le_of_ble_eq_true rfl) (fun z99 M99 h99 => ?_)
  rw [red_gcd] at h99
  obtain ⟨⟨c1, c2⟩, c3, c4⟩ := h99
  exact AW.vret rfl dX0_find_102 ⟨⟨c1, c2⟩, fun a q1 q2 q3 q4 => by rw [c4 a q1, e4 a q1, up2_c q1, z3 a q1, up2_c q1, f9 a q4, f3 a q2 q3]⟩

set_option maxRecDepth 20000 in
theorem C_still (Γ : GC) (M : Mm) (r : Nat → Int) (ho : OkR r) (hr : stRel M 1 r) (k c v : Int) (hk : R32 k) (hc : R32 c) (hv : R32 v) : Ct Γ uX8_still [rf Γ 0, vi k, vi c, vi v] M (fun z M' => z = stillS r k c v ∧ ∀ a : Nat, a ≠ 79 → a ≠ 80 → a ≠ 81 → a ≠ 82 → M' a = M a) := by
  refine Ct.of (by decide) (Nat.le_of_ble_eq_true rfl) ?_
  show AW Γ uX8_still 0 [(0, rf Γ 0), (1, vi k), (2, vi c), (3, vi v)] [] M _
  have h2 := (st1u hr).2.1; have o1 := ho.2.1
  refine AW.aload_n dX8_still_0 0 rfl rfl ?_
  refine AW.getR dX8_still_1 fl_X8_10 (show sh 0 = (0, 8, [some 1, some 5, some 31, some 35, none, some 61, some 65, some 71, some 76, some 79, some 83, some 85]) from rfl) rfl ?_
  refine AW.iload_n dX8_still_4 1 rfl rfl ?_
  refine AW.callV1ip (C_hasWord Γ M 1 st1 _ hk (by rw [h2]; exact o1)) dX8_still_5 mc_X8_134 (show sh 1 = (0, 5, [some 2, none, some 3, some 4, none, none, none, none]) from rfl) (fun _ => rfl) ⟨Nat.le_of_ble_eq_true rfl, Nat.le_of_ble_eq_true rfl⟩ (Nat.le_of_ble_eq_true rfl) ?_
  refine AW.if_eq 30 dX8_still_8 (by decide) (bI_r _) (fun c8 => ?_) (fun c8 => ?_)
  · have d8 := bI0.mp c8
    rw [h2] at d8
    refine AW.iconst dX8_still_30 ?_
    exact AW.iret rfl dX8_still_31 ⟨by unfold stillS; rw [if_neg (by omega)], fun _ _ _ _ _ => rfl⟩
  · have d8 := bI1.mp c8
    rw [h2] at d8
    refine AW.iload_n dX8_still_11 2 rfl rfl ?_
    refine AW.if_lt 30 dX8_still_12 (by decide) (by omega) (fun c12 => ?_) (fun c12 => ?_)
    · refine AW.iconst dX8_still_30 ?_
      exact AW.iret rfl dX8_still_31 ⟨by unfold stillS; rw [if_neg (by omega)], fun _ _ _ _ _ => rfl⟩
    · refine AW.iload_n dX8_still_15 2 rfl rfl ?_
      refine AW.bipush (z := (10)) dX8_still_16 (by decide) ?_
      refine AW.icmp_gt 30 dX8_still_18 (by decide) (by omega) (by omega) (fun c18 => ?_) (fun c18 => ?_)
      · refine AW.iconst dX8_still_30 ?_
        exact AW.iret rfl dX8_still_31 ⟨by unfold stillS; rw [if_neg (by omega)], fun _ _ _ _ _ => rfl⟩
      · refine AW.iload_n dX8_still_21 3 rfl rfl ?_
        refine AW.if_lt 30 dX8_still_22 (by decide) (by omega) (fun c22 => ?_) (fun c22 => ?_)
        · refine AW.iconst dX8_still_30 ?_
          exact AW.iret rfl dX8_still_31 ⟨by unfold stillS; rw [if_neg (by omega)], fun _ _ _ _ _ => rfl⟩
        · refine AW.iload_n dX8_still_25 3 rfl rfl ?_
          refine AW.iconst dX8_still_26 ?_
          refine AW.icmp_le 32 dX8_still_27 (by decide) (by omega) (by omega) (fun c27 => ?_) (fun c27 => ?_)
          · refine AW.aload_n dX8_still_32 0 rfl rfl ?_
            refine AW.getR dX8_still_33 fl_X8_60 (show sh 0 = (0, 8, [some 1, some 5, some 31, some 35, none, some 61, some 65, some 71, some 76, some 79, some 83, some 85]) from rfl) rfl ?_
            refine AW.aload_n dX8_still_36 0 rfl rfl ?_
            refine AW.getR dX8_still_37 fl_X8_10 (show sh 0 = (0, 8, [some 1, some 5, some 31, some 35, none, some 61, some 65, some 71, some 76, some 79, some 83, some 85]) from rfl) rfl ?_
            refine AW.iload_n dX8_still_40 1 rfl rfl ?_
            refine AW.iload_n dX8_still_41 2 rfl rfl ?_
            refine AW.callV3v (C_ofind Γ M r ho hr k.toNat k c (by omega) (by omega) (by omega)) dX8_still_42 mc_X8_214 (show sh 79 = (0, 0, [some 80, some 81, some 82, none, none]) from rfl) (fun _ => rfl) ⟨Nat.le_of_ble_eq_true rfl, Nat.le_of_ble_eq_true rfl⟩ (Nat.le_of_ble_eq_true rfl) (fun z42 M42 h42 => ?_)
            obtain ⟨⟨e1, e2⟩, e3⟩ := h42
            refine AW.iload_n dX8_still_45 3 rfl rfl ?_
            refine AW.if_ne 59 dX8_still_46 (by decide) (by omega) (fun c46 => ?_) (fun c46 => ?_)
            · refine AW.aload_n dX8_still_59 0 rfl rfl ?_
              refine AW.getR dX8_still_60 fl_X8_60 (show sh 0 = (0, 8, [some 1, some 5, some 31, some 35, none, some 61, some 65, some 71, some 76, some 79, some 83, some 85]) from rfl) rfl ?_
              refine AW.getI dX8_still_63 fl_X8_220 (show sh 79 = (0, 0, [some 80, some 81, some 82, none, none]) from rfl) rfl ?_
              exact AW.iret rfl dX8_still_66 ⟨by unfold stillS; rw [if_pos (by omega)]; first | (rw [if_pos (by omega)]; exact e1) | (rw [if_neg (by omega)]; exact e2), e3⟩
            · refine AW.aload_n dX8_still_49 0 rfl rfl ?_
              refine AW.getR dX8_still_50 fl_X8_60 (show sh 0 = (0, 8, [some 1, some 5, some 31, some 35, none, some 61, some 65, some 71, some 76, some 79, some 83, some 85]) from rfl) rfl ?_
              refine AW.getI dX8_still_53 fl_X8_217 (show sh 79 = (0, 0, [some 80, some 81, some 82, none, none]) from rfl) rfl ?_
              refine AW.goto 66 dX8_still_56 (by decide) ?_
              exact AW.iret rfl dX8_still_66 ⟨by unfold stillS; rw [if_pos (by omega)]; first | (rw [if_pos (by omega)]; exact e1) | (rw [if_neg (by omega)]; exact e2), e3⟩
          · refine AW.iconst dX8_still_30 ?_
            exact AW.iret rfl dX8_still_31 ⟨by unfold stillS; rw [if_neg (by omega)], fun _ _ _ _ _ => rfl⟩
