/-! what the small static methods answer -/
def bI (b : Bool) : Int := if b then 1 else 0
theorem bI_01 (b : Bool) : bI b = 0 ∨ bI b = 1 := by cases b <;> simp [bI]
theorem bI_t {P : Prop} [Decidable P] (h : P) : bI (decide P) = 1 := by simp [bI, h]
theorem bI_f {P : Prop} [Decidable P] (h : ¬ P) : bI (decide P) = 0 := by simp [bI, h]
theorem bI0 {P : Prop} [Decidable P] : bI (decide P) = 0 ↔ ¬ P := by by_cases h : P <;> simp [bI, h]
theorem bI1 {P : Prop} [Decidable P] : ¬ bI (decide P) = 0 ↔ P := by by_cases h : P <;> simp [bI, h]
theorem bI_r (b : Bool) : -2147483648 ≤ bI b ∧ bI b < 2147483648 := by cases b <;> decide
abbrev R32 (a : Int) : Prop := -2147483648 ≤ a ∧ a < 2147483648
abbrev R64 (a : Int) : Prop := -9223372036854775808 ≤ a ∧ a < 9223372036854775808
abbrev D8 (a : Int) : Prop := 0 ≤ a ∧ a < 8
def stepsP (p q : Int) : Int := if p < q then (if q - p ≤ 4 then q - p else 8 - (q - p)) else (if p - q ≤ 4 then p - q else 8 - (p - q))
def betw (p q r s : Int) : Int := min (stepsP p r + stepsP q s) (stepsP p s + stepsP q r)
theorem stepsP_b {p q : Int} (hp : D8 p) (hq : D8 q) : 0 ≤ stepsP p q ∧ stepsP p q ≤ 4 := by
  unfold stepsP; repeat' split
  all_goals omega
theorem betw_b {p q r s : Int} (hp : D8 p) (hq : D8 q) (hr : D8 r) (hs : D8 s) : 0 ≤ betw p q r s ∧ betw p q r s ≤ 8 := by
  have := stepsP_b hp hr; have := stepsP_b hq hs; have := stepsP_b hp hs; have := stepsP_b hq hr
  unfold betw; omega
theorem tl_b (j : Nat) : 0 ≤ tl j ∧ tl j < 8 := by
  by_cases h : j < 27
  · have : ∀ x : Fin 27, 0 ≤ tl x.val ∧ tl x.val < 8 := by decide +kernel
    exact this ⟨j, h⟩
  · have : tl j = 0 := by unfold tl; rw [List.getD_eq_getElem?_getD, List.getElem?_eq_none (by show (27 : Nat) ≤ j; omega)]; rfl
    omega
theorem tg_b (j : Nat) : 0 ≤ tg j ∧ tg j < 8 := by
  by_cases h : j < 27
  · have : ∀ x : Fin 27, 0 ≤ tg x.val ∧ tg x.val < 8 := by decide +kernel
    exact this ⟨j, h⟩
  · have : tg j = 0 := by unfold tg; rw [List.getD_eq_getElem?_getD, List.getElem?_eq_none (by show (27 : Nat) ≤ j; omega)]; rfl
    omega
/-- the SIGN of two directions -/
def sgT : List Int := [-4, 0, 1, 2, 3, 4, 5, 6, 0, -4, 7, 8, 10, 11, 12, 13, 1, 7, -4, 14, 15, 16, 17, 18, 2, 8, 14, -4, 19, 20, 24, -4, 3, 10, 15, 19, -4, 26, 9, 21, 4, 11, 16, 20, 26, -4, 22, 23, 5, 12, 17, 24, 9, 22, -4, 25, 6, 13, 18, -4, 21, 23, 25, -4]
def sgn (p q : Int) : Int := sgT.getD (8 * p + q).toNat (-4)
theorem fin8 {p : Int} (h : D8 p) : ∃ x : Fin 8, p = (x.val : Int) := ⟨⟨p.toNat, by omega⟩, by show p = (p.toNat : Int); omega⟩
theorem fin27 {p : Int} (h : 0 ≤ p ∧ p < 27) : ∃ x : Fin 27, p = (x.val : Int) := ⟨⟨p.toNat, by omega⟩, by show p = (p.toNat : Int); omega⟩
theorem sgn_hit {p q i : Int} (hp : D8 p) (hq : D8 q) (hi : 0 ≤ i ∧ i < 27) (h1 : tl i.toNat = min p q) (h2 : tg i.toNat = max p q) : i = sgn p q := by
  obtain ⟨x, rfl⟩ := fin8 hp; obtain ⟨y, rfl⟩ := fin8 hq; obtain ⟨z, rfl⟩ := fin27 hi
  have : ∀ (x y : Fin 8) (z : Fin 27), tl ((z.val : Int)).toNat = min (x.val : Int) (y.val : Int) → tg ((z.val : Int)).toNat = max (x.val : Int) (y.val : Int) → (z.val : Int) = sgn x.val y.val := by decide +kernel
  exact this x y z h1 h2
theorem sgn_miss {p q : Int} (hp : D8 p) (hq : D8 q) (h : ∀ i : Int, 0 ≤ i → i < 27 → ¬ (tl i.toNat = min p q ∧ tg i.toNat = max p q)) : -4 = sgn p q := by
  obtain ⟨x, rfl⟩ := fin8 hp; obtain ⟨y, rfl⟩ := fin8 hq
  have : ∀ (x y : Fin 8), (∀ z : Fin 27, ¬ (tl ((z.val : Int)).toNat = min (x.val : Int) (y.val : Int) ∧ tg ((z.val : Int)).toNat = max (x.val : Int) (y.val : Int))) → -4 = sgn x.val y.val := by decide +kernel
  exact this x y (fun z => h z.val (by omega) (by omega))
theorem sgn_b {p q : Int} (hp : D8 p) (hq : D8 q) : -4 ≤ sgn p q ∧ sgn p q < 27 := by
  obtain ⟨x, rfl⟩ := fin8 hp; obtain ⟨y, rfl⟩ := fin8 hq
  have : ∀ (x y : Fin 8), -4 ≤ sgn x.val y.val ∧ sgn x.val y.val < 27 := by decide +kernel
  exact this x y
/-- which LETTER a LETTER is, TURNED -/
def trn (a : Int) : Int := if 0 ≤ sgn ((8 - tl a.toNat) % 8) ((8 - tg a.toNat) % 8) ∧ sgn ((8 - tl a.toNat) % 8) ((8 - tg a.toNat) % 8) < 26 then sgn ((8 - tl a.toNat) % 8) ((8 - tg a.toNat) % 8) else -4
def lowP (lane v : Int) : Int := if lane = 0 then v.bmod 256 else if lane = 1 then v.bmod 65536 else if lane = 2 then v.bmod 4294967296 else v
theorem bmod_r32 (v : Int) : R32 (v.bmod 4294967296) := by
  have h1 := Int.le_bmod (x := v) (m := 4294967296) (by decide); have h2 := Int.bmod_lt (x := v) (m := 4294967296) (by decide)
  exact ⟨by omega, by omega⟩
theorem bmod_r8 (v : Int) : -128 ≤ v.bmod 256 ∧ v.bmod 256 < 128 := by
  have h1 := Int.le_bmod (x := v) (m := 256) (by decide); have h2 := Int.bmod_lt (x := v) (m := 256) (by decide)
  exact ⟨by omega, by omega⟩
theorem bmod_r16 (v : Int) : -32768 ≤ v.bmod 65536 ∧ v.bmod 65536 < 32768 := by
  have h1 := Int.le_bmod (x := v) (m := 65536) (by decide); have h2 := Int.bmod_lt (x := v) (m := 65536) (by decide)
  exact ⟨by omega, by omega⟩
theorem vi_bmod (a : Int) : vi a = vi (a.bmod 4294967296) := by
  unfold vi
  rw [← Int32.ofInt_toInt (x := Int32.ofInt a), Int32.toInt_ofInt]
theorem AW.nrm {Γ : GC} {μ : MI} {pc : Nat} {L : List (Nat × Value)} {st : List Value} {M : Mm} {Q : Int → Mm → Prop} {a : Int} (k : AW Γ μ pc L (vi (a.bmod 4294967296) :: st) M Q) : AW Γ μ pc L (vi a :: st) M Q := by
  rw [vi_bmod]; exact k

set_option maxRecDepth 20000 in
theorem C_isLetter (Γ : GC) (M : Mm) (a : Int) (ha : R32 a) : Ct Γ uX8_isLetter [vi a] M (Pu (bI (decide (0 ≤ a ∧ a < 26))) M) := by
  refine Ct.of (by decide) (Nat.le_of_ble_eq_true rfl) ?_
  show AW Γ uX8_isLetter 0 [(0, vi a)] [] M _
  refine AW.iload_n dX8_isLetter_0 0 rfl rfl ?_
  refine AW.if_lt 14 dX8_isLetter_1 (by decide) (by omega) (fun c1 => ?_) (fun c1 => ?_)
  · refine AW.iconst dX8_isLetter_14 ?_
    exact AW.zret rfl dX8_isLetter_15 (by omega) ⟨by simp only [bI, decide_eq_true_eq]; split <;> omega, rfl⟩
  · refine AW.iload_n dX8_isLetter_4 0 rfl rfl ?_
    refine AW.bipush (z := (26)) dX8_isLetter_5 (by decide) ?_
    refine AW.icmp_ge 14 dX8_isLetter_7 (by decide) (by omega) (by omega) (fun c7 => ?_) (fun c7 => ?_)
    · refine AW.iconst dX8_isLetter_14 ?_
      exact AW.zret rfl dX8_isLetter_15 (by omega) ⟨by simp only [bI, decide_eq_true_eq]; split <;> omega, rfl⟩
    · refine AW.iconst dX8_isLetter_10 ?_
      refine AW.goto 15 dX8_isLetter_11 (by decide) ?_
      exact AW.zret rfl dX8_isLetter_15 (by omega) ⟨by simp only [bI, decide_eq_true_eq]; split <;> omega, rfl⟩

set_option maxRecDepth 20000 in
theorem C_isSign (Γ : GC) (M : Mm) (a : Int) (ha : R32 a) : Ct Γ uX8_isSign [vi a] M (Pu (bI (decide (0 ≤ a ∧ a < 27))) M) := by
  refine Ct.of (by decide) (Nat.le_of_ble_eq_true rfl) ?_
  show AW Γ uX8_isSign 0 [(0, vi a)] [] M _
  refine AW.iload_n dX8_isSign_0 0 rfl rfl ?_
  refine AW.if_lt 14 dX8_isSign_1 (by decide) (by omega) (fun c1 => ?_) (fun c1 => ?_)
  · refine AW.iconst dX8_isSign_14 ?_
    exact AW.zret rfl dX8_isSign_15 (by omega) ⟨by simp only [bI, decide_eq_true_eq]; split <;> omega, rfl⟩
  · refine AW.iload_n dX8_isSign_4 0 rfl rfl ?_
    refine AW.bipush (z := (27)) dX8_isSign_5 (by decide) ?_
    refine AW.icmp_ge 14 dX8_isSign_7 (by decide) (by omega) (by omega) (fun c7 => ?_) (fun c7 => ?_)
    · refine AW.iconst dX8_isSign_14 ?_
      exact AW.zret rfl dX8_isSign_15 (by omega) ⟨by simp only [bI, decide_eq_true_eq]; split <;> omega, rfl⟩
    · refine AW.iconst dX8_isSign_10 ?_
      refine AW.goto 15 dX8_isSign_11 (by decide) ?_
      exact AW.zret rfl dX8_isSign_15 (by omega) ⟨by simp only [bI, decide_eq_true_eq]; split <;> omega, rfl⟩

set_option maxRecDepth 20000 in
theorem C_isSheet (Γ : GC) (M : Mm) (a : Int) (ha : R32 a) : Ct Γ uX8_isSheet [vi a] M (Pu (bI (decide (0 ≤ a ∧ a < 4))) M) := by
  refine Ct.of (by decide) (Nat.le_of_ble_eq_true rfl) ?_
  show AW Γ uX8_isSheet 0 [(0, vi a)] [] M _
  refine AW.iload_n dX8_isSheet_0 0 rfl rfl ?_
  refine AW.if_lt 13 dX8_isSheet_1 (by decide) (by omega) (fun c1 => ?_) (fun c1 => ?_)
  · refine AW.iconst dX8_isSheet_13 ?_
    exact AW.zret rfl dX8_isSheet_14 (by omega) ⟨by simp only [bI, decide_eq_true_eq]; split <;> omega, rfl⟩
  · refine AW.iload_n dX8_isSheet_4 0 rfl rfl ?_
    refine AW.iconst dX8_isSheet_5 ?_
    refine AW.icmp_ge 13 dX8_isSheet_6 (by decide) (by omega) (by omega) (fun c6 => ?_) (fun c6 => ?_)
    · refine AW.iconst dX8_isSheet_13 ?_
      exact AW.zret rfl dX8_isSheet_14 (by omega) ⟨by simp only [bI, decide_eq_true_eq]; split <;> omega, rfl⟩
    · refine AW.iconst dX8_isSheet_9 ?_
      refine AW.goto 14 dX8_isSheet_10 (by decide) ?_
      exact AW.zret rfl dX8_isSheet_14 (by omega) ⟨by simp only [bI, decide_eq_true_eq]; split <;> omega, rfl⟩

set_option maxRecDepth 20000 in
theorem C_isLane (Γ : GC) (M : Mm) (a : Int) (ha : R32 a) : Ct Γ uX8_isLane [vi a] M (Pu (bI (decide (0 ≤ a ∧ a < 4))) M) := by
  refine Ct.of (by decide) (Nat.le_of_ble_eq_true rfl) ?_
  show AW Γ uX8_isLane 0 [(0, vi a)] [] M _
  refine AW.iload_n dX8_isLane_0 0 rfl rfl ?_
  refine AW.if_lt 13 dX8_isLane_1 (by decide) (by omega) (fun c1 => ?_) (fun c1 => ?_)
  · refine AW.iconst dX8_isLane_13 ?_
    exact AW.zret rfl dX8_isLane_14 (by omega) ⟨by simp only [bI, decide_eq_true_eq]; split <;> omega, rfl⟩
  · refine AW.iload_n dX8_isLane_4 0 rfl rfl ?_
    refine AW.iconst dX8_isLane_5 ?_
    refine AW.icmp_ge 13 dX8_isLane_6 (by decide) (by omega) (by omega) (fun c6 => ?_) (fun c6 => ?_)
    · refine AW.iconst dX8_isLane_13 ?_
      exact AW.zret rfl dX8_isLane_14 (by omega) ⟨by simp only [bI, decide_eq_true_eq]; split <;> omega, rfl⟩
    · refine AW.iconst dX8_isLane_9 ?_
      refine AW.goto 14 dX8_isLane_10 (by decide) ?_
      exact AW.zret rfl dX8_isLane_14 (by omega) ⟨by simp only [bI, decide_eq_true_eq]; split <;> omega, rfl⟩

set_option maxRecDepth 20000 in
theorem C_isDirection (Γ : GC) (M : Mm) (a : Int) (ha : R64 a) : Ct Γ uX8_isDirection [vl a] M (Pu (bI (decide (0 ≤ a ∧ a < 8))) M) := by
  refine Ct.of (by decide) (Nat.le_of_ble_eq_true rfl) ?_
  show AW Γ uX8_isDirection 0 [(0, vl a)] [] M _
  refine AW.lload_n dX8_isDirection_0 0 rfl rfl ?_
  refine AW.lconst (z := (0)) dX8_isDirection_1 rfl ?_
  refine AW.lcmp dX8_isDirection_2 (by omega) (by omega) ?_
  refine AW.if_lt 18 dX8_isDirection_3 (by decide) (by omega) (fun c3 => ?_) (fun c3 => ?_)
  · refine AW.iconst dX8_isDirection_18 ?_
    exact AW.zret rfl dX8_isDirection_19 (by omega) ⟨by simp only [bI, decide_eq_true_eq]; split <;> omega, rfl⟩
  · refine AW.lload_n dX8_isDirection_6 0 rfl rfl ?_
    refine AW.ldc2 (z := 8) dX8_isDirection_7 kl_X8_309 (by decide +kernel) ?_
    refine AW.lcmp dX8_isDirection_10 (by omega) (by omega) ?_
    refine AW.if_ge 18 dX8_isDirection_11 (by decide) (by omega) (fun c11 => ?_) (fun c11 => ?_)
    · refine AW.iconst dX8_isDirection_18 ?_
      exact AW.zret rfl dX8_isDirection_19 (by omega) ⟨by simp only [bI, decide_eq_true_eq]; split <;> omega, rfl⟩
    · refine AW.iconst dX8_isDirection_14 ?_
      refine AW.goto 19 dX8_isDirection_15 (by decide) ?_
      exact AW.zret rfl dX8_isDirection_19 (by omega) ⟨by simp only [bI, decide_eq_true_eq]; split <;> omega, rfl⟩

set_option maxRecDepth 20000 in
theorem C_oneOn (Γ : GC) (M : Mm) (p : Int) (hp : D8 p) : Ct Γ uX8_oneOn [vi p] M (Pu ((p + 1) % 8) M) := by
  refine Ct.of (by decide) (Nat.le_of_ble_eq_true rfl) ?_
  show AW Γ uX8_oneOn 0 [(0, vi p)] [] M _
  refine AW.iload_n dX8_oneOn_0 0 rfl rfl ?_
  refine AW.iconst dX8_oneOn_1 ?_
  refine AW.iadd dX8_oneOn_2 ?_
  refine AW.bipush (z := (8)) dX8_oneOn_3 (by decide) ?_
  refine AW.irem dX8_oneOn_5 (by omega) (by omega) ?_
  exact AW.iret rfl dX8_oneOn_6 ⟨rfl, rfl⟩

set_option maxRecDepth 20000 in
theorem C_oneBack (Γ : GC) (M : Mm) (p : Int) (hp : D8 p) : Ct Γ uX8_oneBack [vi p] M (Pu ((p + 7) % 8) M) := by
  refine Ct.of (by decide) (Nat.le_of_ble_eq_true rfl) ?_
  show AW Γ uX8_oneBack 0 [(0, vi p)] [] M _
  refine AW.iload_n dX8_oneBack_0 0 rfl rfl ?_
  refine AW.bipush (z := (8)) dX8_oneBack_1 (by decide) ?_
  refine AW.iadd dX8_oneBack_3 ?_
  refine AW.iconst dX8_oneBack_4 ?_
  refine AW.isub dX8_oneBack_5 ?_
  refine AW.bipush (z := (8)) dX8_oneBack_6 (by decide) ?_
  refine AW.irem dX8_oneBack_8 (by omega) (by omega) ?_
  exact AW.iret rfl dX8_oneBack_9 ⟨by omega, rfl⟩

set_option maxRecDepth 20000 in
theorem C_fromBehind (Γ : GC) (M : Mm) (p : Int) (hp : D8 p) : Ct Γ uX8_fromBehind [vi p] M (Pu ((8 - p) % 8) M) := by
  refine Ct.of (by decide) (Nat.le_of_ble_eq_true rfl) ?_
  show AW Γ uX8_fromBehind 0 [(0, vi p)] [] M _
  refine AW.bipush (z := (8)) dX8_fromBehind_0 (by decide) ?_
  refine AW.iload_n dX8_fromBehind_2 0 rfl rfl ?_
  refine AW.isub dX8_fromBehind_3 ?_
  refine AW.bipush (z := (8)) dX8_fromBehind_4 (by decide) ?_
  refine AW.irem dX8_fromBehind_6 (by omega) (by omega) ?_
  exact AW.iret rfl dX8_fromBehind_7 ⟨rfl, rfl⟩

set_option maxRecDepth 20000 in
theorem C_steps (Γ : GC) (M : Mm) (p q : Int) (hp : D8 p) (hq : D8 q) : Ct Γ uX8_stepsBetween [vi p, vi q] M (Pu (stepsP p q) M) := by
  refine Ct.of (by decide) (Nat.le_of_ble_eq_true rfl) ?_
  show AW Γ uX8_stepsBetween 0 [(0, vi p), (1, vi q)] [] M _
  refine AW.iload_n dX8_stepsBetween_0 0 rfl rfl ?_
  refine AW.iload_n dX8_stepsBetween_1 1 rfl rfl ?_
  refine AW.icmp_ge 11 dX8_stepsBetween_2 (by decide) (by omega) (by omega) (fun c2 => ?_) (fun c2 => ?_)
  · refine AW.iload_n dX8_stepsBetween_11 0 rfl rfl ?_
    refine AW.iload_n dX8_stepsBetween_12 1 rfl rfl ?_
    refine AW.isub dX8_stepsBetween_13 ?_
    refine AW.top (fun x14 ex14 => ?_)
    refine AW.istore_n [(2, vi x14), (0, vi p), (1, vi q)] dX8_stepsBetween_14 rfl (by decide) rfl ?_
    refine AW.iload_n dX8_stepsBetween_15 0 rfl rfl ?_
    refine AW.iconst dX8_stepsBetween_16 ?_
    refine AW.icmp_gt 24 dX8_stepsBetween_17 (by decide) (by omega) (by omega) (fun c17 => ?_) (fun c17 => ?_)
    · refine AW.bipush (z := (8)) dX8_stepsBetween_24 (by decide) ?_
      refine AW.iload_n dX8_stepsBetween_26 0 rfl rfl ?_
      refine AW.isub dX8_stepsBetween_27 ?_
      exact AW.iret rfl dX8_stepsBetween_28 ⟨by unfold stepsP; (repeat' split) <;> omega, rfl⟩
    · refine AW.iload_n dX8_stepsBetween_20 0 rfl rfl ?_
      refine AW.goto 28 dX8_stepsBetween_21 (by decide) ?_
      exact AW.iret rfl dX8_stepsBetween_28 ⟨by unfold stepsP; (repeat' split) <;> omega, rfl⟩
  · refine AW.iload_n dX8_stepsBetween_5 1 rfl rfl ?_
    refine AW.iload_n dX8_stepsBetween_6 0 rfl rfl ?_
    refine AW.isub dX8_stepsBetween_7 ?_
    refine AW.goto 14 dX8_stepsBetween_8 (by decide) ?_
    refine AW.top (fun x14 ex14 => ?_)
    refine AW.istore_n [(2, vi x14), (0, vi p), (1, vi q)] dX8_stepsBetween_14 rfl (by decide) rfl ?_
    refine AW.iload_n dX8_stepsBetween_15 0 rfl rfl ?_
    refine AW.iconst dX8_stepsBetween_16 ?_
    refine AW.icmp_gt 24 dX8_stepsBetween_17 (by decide) (by omega) (by omega) (fun c17 => ?_) (fun c17 => ?_)
    · refine AW.bipush (z := (8)) dX8_stepsBetween_24 (by decide) ?_
      refine AW.iload_n dX8_stepsBetween_26 0 rfl rfl ?_
      refine AW.isub dX8_stepsBetween_27 ?_
      exact AW.iret rfl dX8_stepsBetween_28 ⟨by unfold stepsP; (repeat' split) <;> omega, rfl⟩
    · refine AW.iload_n dX8_stepsBetween_20 0 rfl rfl ?_
      refine AW.goto 28 dX8_stepsBetween_21 (by decide) ?_
      exact AW.iret rfl dX8_stepsBetween_28 ⟨by unfold stepsP; (repeat' split) <;> omega, rfl⟩

set_option maxRecDepth 20000 in
theorem C_betw (Γ : GC) (M : Mm) (p q r s : Int) (hp : D8 p) (hq : D8 q) (hr : D8 r) (hs : D8 s) : Ct Γ uX8_between [vi p, vi q, vi r, vi s] M (Pu (betw p q r s) M) := by
  refine Ct.of (by decide) (Nat.le_of_ble_eq_true rfl) ?_
  show AW Γ uX8_between 0 [(0, vi p), (1, vi q), (2, vi r), (3, vi s)] [] M _
  have h1 := stepsP_b hp hr; have h2 := stepsP_b hq hs; have h3 := stepsP_b hp hs; have h4 := stepsP_b hq hr
  refine AW.iload_n dX8_between_0 0 rfl rfl ?_
  refine AW.iload_n dX8_between_1 2 rfl rfl ?_
  refine AW.callS2ip (C_steps Γ M _ _ (by assumption) (by assumption)) dX8_between_2 mc_X8_311 (fun _ => rfl) ⟨Nat.le_of_ble_eq_true rfl, Nat.le_of_ble_eq_true rfl⟩ (Nat.le_of_ble_eq_true rfl) ?_
  refine AW.iload_n dX8_between_5 1 rfl rfl ?_
  refine AW.iload_n dX8_between_6 3 rfl rfl ?_
  refine AW.callS2ip (C_steps Γ M _ _ (by assumption) (by assumption)) dX8_between_7 mc_X8_311 (fun _ => rfl) ⟨Nat.le_of_ble_eq_true rfl, Nat.le_of_ble_eq_true rfl⟩ (Nat.le_of_ble_eq_true rfl) ?_
  refine AW.iadd dX8_between_10 ?_
  refine AW.iload_n dX8_between_11 0 rfl rfl ?_
  refine AW.iload_n dX8_between_12 3 rfl rfl ?_
  refine AW.callS2ip (C_steps Γ M _ _ (by assumption) (by assumption)) dX8_between_13 mc_X8_311 (fun _ => rfl) ⟨Nat.le_of_ble_eq_true rfl, Nat.le_of_ble_eq_true rfl⟩ (Nat.le_of_ble_eq_true rfl) ?_
  refine AW.iload_n dX8_between_16 1 rfl rfl ?_
  refine AW.iload_n dX8_between_17 2 rfl rfl ?_
  refine AW.callS2ip (C_steps Γ M _ _ (by assumption) (by assumption)) dX8_between_18 mc_X8_311 (fun _ => rfl) ⟨Nat.le_of_ble_eq_true rfl, Nat.le_of_ble_eq_true rfl⟩ (Nat.le_of_ble_eq_true rfl) ?_
  refine AW.iadd dX8_between_21 ?_
  refine AW.mmin dX8_between_22 mc_X8_314 (by omega) (by omega) (Nat.le_of_ble_eq_true rfl) (Nat.le_of_ble_eq_true rfl) ?_
  exact AW.iret rfl dX8_between_25 ⟨rfl, rfl⟩

set_option maxRecDepth 20000 in
theorem L_signOf (Γ : GC) (M : Mm) (p q a b : Int) (hp : D8 p) (hq : D8 q) (ha : a = min p q) (hb : b = max p q) : ∀ (n : Nat) (i : Int), 0 ≤ i → i ≤ 27 → (∀ j : Int, 0 ≤ j → j < i → ¬ (tl j.toNat = min p q ∧ tg j.toNat = max p q)) → 27 - i < n → AW Γ uX8_signOf 15 [(4, vi i), (3, vi b), (2, vi a), (0, vi p), (1, vi q)] [] M (Pu (sgn p q) M) := by
  intro n
  induction n with
  | zero => intro i g0 g1 g2 gm; omega
  | succ n ih =>
    intro i g0 g1 g2 gm
    refine AW.iload dX8_signOf_15 0 rfl ?_
    refine AW.bipush (z := (27)) dX8_signOf_17 (by decide) ?_
    refine AW.icmp_ge 51 dX8_signOf_19 (by decide) (by omega) (by omega) (fun c19 => ?_) (fun c19 => ?_)
    · refine AW.bipush (z := (-4)) dX8_signOf_51 (by decide) ?_
      exact AW.iret rfl dX8_signOf_53 ⟨sgn_miss hp hq (fun j h1 h2 => by have := g2 j h1 (by omega); omega), rfl⟩
    · refine AW.getsL dX8_signOf_22 gs_X8_82 ?_
      refine AW.iload dX8_signOf_25 0 rfl ?_
      refine AW.taldL dX8_signOf_27 (by omega) (by omega) ?_
      refine AW.iload_n dX8_signOf_28 2 rfl rfl ?_
      refine AW.icmp_ne 45 dX8_signOf_29 (by decide) (by have := tl_b i.toNat; omega) (by omega) (fun c29 => ?_) (fun c29 => ?_)
      · obtain ⟨x45, ex45⟩ : ∃ z : Int, i + 1 = z := ⟨_, rfl⟩
        refine AW.iinc [(4, vi x45), (3, vi b), (2, vi a), (0, vi p), (1, vi q)] dX8_signOf_45 0 rfl (by decide) x45 ex45 rfl ?_
        refine AW.goto 15 dX8_signOf_48 (by decide) ?_
        refine AW.sub [0, 1, 2, 3, 4] rfl ?_
        exact ih x45 (by omega) (by omega) (fun j h1 h2 => by
          rcases Int.lt_or_le j i with h3 | h3
          · exact g2 j h1 h3
          · have : j = i := by omega
            subst this; omega) (by omega)
      · refine AW.getsG dX8_signOf_32 gs_X8_86 ?_
        refine AW.iload dX8_signOf_35 0 rfl ?_
        refine AW.taldG dX8_signOf_37 (by omega) (by omega) ?_
        refine AW.iload_n dX8_signOf_38 1 rfl rfl ?_
        refine AW.icmp_ne 45 dX8_signOf_39 (by decide) (by have := tg_b i.toNat; omega) (by omega) (fun c39 => ?_) (fun c39 => ?_)
        · obtain ⟨x45, ex45⟩ : ∃ z : Int, i + 1 = z := ⟨_, rfl⟩
          refine AW.iinc [(4, vi x45), (3, vi b), (2, vi a), (0, vi p), (1, vi q)] dX8_signOf_45 0 rfl (by decide) x45 ex45 rfl ?_
          refine AW.goto 15 dX8_signOf_48 (by decide) ?_
          refine AW.sub [0, 1, 2, 3, 4] rfl ?_
          exact ih x45 (by omega) (by omega) (fun j h1 h2 => by
            rcases Int.lt_or_le j i with h3 | h3
            · exact g2 j h1 h3
            · have : j = i := by omega
              subst this; omega) (by omega)
        · refine AW.iload dX8_signOf_42 0 rfl ?_
          exact AW.iret rfl dX8_signOf_44 ⟨sgn_hit hp hq ⟨by omega, by omega⟩ (by omega) (by omega), rfl⟩

set_option maxRecDepth 20000 in
theorem C_signOf (Γ : GC) (M : Mm) (p q : Int) (hp : D8 p) (hq : D8 q) : Ct Γ uX8_signOf [vi p, vi q] M (Pu (sgn p q) M) := by
  refine Ct.of (by decide) (Nat.le_of_ble_eq_true rfl) ?_
  show AW Γ uX8_signOf 0 [(0, vi p), (1, vi q)] [] M _
  refine AW.iload_n dX8_signOf_0 0 rfl rfl ?_
  refine AW.iload_n dX8_signOf_1 1 rfl rfl ?_
  refine AW.mmin dX8_signOf_2 mc_X8_314 (by omega) (by omega) (Nat.le_of_ble_eq_true rfl) (Nat.le_of_ble_eq_true rfl) ?_
  refine AW.top (fun x5 ex5 => ?_)
  refine AW.istore_n [(2, vi x5), (0, vi p), (1, vi q)] dX8_signOf_5 rfl (by decide) rfl ?_
  refine AW.iload_n dX8_signOf_6 1 rfl rfl ?_
  refine AW.iload_n dX8_signOf_7 2 rfl rfl ?_
  refine AW.mmax dX8_signOf_8 mc_X8_319 (by omega) (by omega) (Nat.le_of_ble_eq_true rfl) (Nat.le_of_ble_eq_true rfl) ?_
  refine AW.top (fun x11 ex11 => ?_)
  refine AW.istore_n [(3, vi x11), (2, vi x5), (0, vi p), (1, vi q)] dX8_signOf_11 rfl (by decide) rfl ?_
  refine AW.iconst dX8_signOf_12 ?_
  refine AW.top (fun x13 ex13 => ?_)
  refine AW.istore [(4, vi x13), (3, vi x11), (2, vi x5), (0, vi p), (1, vi q)] dX8_signOf_13 (by decide) rfl ?_
  refine AW.sub [0, 1, 2, 3, 4] rfl ?_
  exact L_signOf Γ M p q x5 x11 hp hq ex5 ex11 28 x13 (by omega) (by omega) (fun j h1 h2 => by omega) (by omega)

set_option maxRecDepth 20000 in
theorem C_letterOrNot (Γ : GC) (M : Mm) (p q : Int) (hp : D8 p) (hq : D8 q) : Ct Γ uX8_letterOrNot [vi p, vi q] M (Pu (bI (decide (0 ≤ sgn p q ∧ sgn p q < 26))) M) := by
  refine Ct.of (by decide) (Nat.le_of_ble_eq_true rfl) ?_
  show AW Γ uX8_letterOrNot 0 [(0, vi p), (1, vi q)] [] M _
  have hb := sgn_b hp hq
  refine AW.iload_n dX8_letterOrNot_0 0 rfl rfl ?_
  refine AW.iload_n dX8_letterOrNot_1 1 rfl rfl ?_
  refine AW.callS2ip (C_signOf Γ M _ _ hp hq) dX8_letterOrNot_2 mc_X8_97 (fun _ => rfl) ⟨Nat.le_of_ble_eq_true rfl, Nat.le_of_ble_eq_true rfl⟩ (Nat.le_of_ble_eq_true rfl) ?_
  refine AW.callS1ip (C_isLetter Γ M _ (by omega)) dX8_letterOrNot_5 mc_X8_78 (fun _ => rfl) ⟨Nat.le_of_ble_eq_true rfl, Nat.le_of_ble_eq_true rfl⟩ (Nat.le_of_ble_eq_true rfl) ?_
  refine AW.if_eq 15 dX8_letterOrNot_8 (by decide) (bI_r _) (fun c8 => ?_) (fun c8 => ?_)
  · refine AW.iconst dX8_letterOrNot_15 ?_
    exact AW.iret rfl dX8_letterOrNot_16 ⟨by simp only [bI, decide_eq_true_eq] at *; split <;> omega, rfl⟩
  · refine AW.iconst dX8_letterOrNot_11 ?_
    refine AW.goto 16 dX8_letterOrNot_12 (by decide) ?_
    exact AW.iret rfl dX8_letterOrNot_16 ⟨by simp only [bI, decide_eq_true_eq] at *; split <;> omega, rfl⟩

set_option maxRecDepth 20000 in
theorem C_turnedLetter (Γ : GC) (M : Mm) (a : Int) (ha : 0 ≤ a ∧ a < 26) : Ct Γ uX8_turnedLetter [vi a] M (Pu (trn a) M) := by
  refine Ct.of (by decide) (Nat.le_of_ble_eq_true rfl) ?_
  show AW Γ uX8_turnedLetter 0 [(0, vi a)] [] M _
  have hb := sgn_b (p := (8 - tl a.toNat) % 8) (q := (8 - tg a.toNat) % 8) (by have := tl_b a.toNat; constructor <;> omega) (by have := tg_b a.toNat; constructor <;> omega)
  refine AW.getsL dX8_turnedLetter_0 gs_X8_82 ?_
  refine AW.iload_n dX8_turnedLetter_3 0 rfl rfl ?_
  refine AW.taldL dX8_turnedLetter_4 (by omega) (by omega) ?_
  refine AW.callS1ip (C_fromBehind Γ M _ (by first | exact tl_b _ | exact tg_b _)) dX8_turnedLetter_5 mc_X8_322 (fun _ => rfl) ⟨Nat.le_of_ble_eq_true rfl, Nat.le_of_ble_eq_true rfl⟩ (Nat.le_of_ble_eq_true rfl) ?_
  refine AW.getsG dX8_turnedLetter_8 gs_X8_86 ?_
  refine AW.iload_n dX8_turnedLetter_11 0 rfl rfl ?_
  refine AW.taldG dX8_turnedLetter_12 (by omega) (by omega) ?_
  refine AW.callS1ip (C_fromBehind Γ M _ (by first | exact tl_b _ | exact tg_b _)) dX8_turnedLetter_13 mc_X8_322 (fun _ => rfl) ⟨Nat.le_of_ble_eq_true rfl, Nat.le_of_ble_eq_true rfl⟩ (Nat.le_of_ble_eq_true rfl) ?_
  refine AW.callS2ip (C_signOf Γ M _ _ (by have := tl_b a.toNat; constructor <;> omega) (by have := tg_b a.toNat; constructor <;> omega)) dX8_turnedLetter_16 mc_X8_97 (fun _ => rfl) ⟨Nat.le_of_ble_eq_true rfl, Nat.le_of_ble_eq_true rfl⟩ (Nat.le_of_ble_eq_true rfl) ?_
  refine AW.top (fun x19 ex19 => ?_)
  refine AW.istore_n [(1, vi x19), (0, vi a)] dX8_turnedLetter_19 rfl (by decide) rfl ?_
  refine AW.iload_n dX8_turnedLetter_20 0 rfl rfl ?_
  refine AW.callS1ip (C_isLetter Γ M _ (by omega)) dX8_turnedLetter_21 mc_X8_78 (fun _ => rfl) ⟨Nat.le_of_ble_eq_true rfl, Nat.le_of_ble_eq_true rfl⟩ (Nat.le_of_ble_eq_true rfl) ?_
  refine AW.if_eq 31 dX8_turnedLetter_24 (by decide) (bI_r _) (fun c24 => ?_) (fun c24 => ?_)
  · have hc := bI0.mp c24
    refine AW.bipush (z := (-4)) dX8_turnedLetter_31 (by decide) ?_
    exact AW.iret rfl dX8_turnedLetter_33 ⟨by unfold trn; rw [← ex19]; split <;> omega, rfl⟩
  · have hc := bI1.mp c24
    refine AW.iload_n dX8_turnedLetter_27 0 rfl rfl ?_
    refine AW.goto 33 dX8_turnedLetter_28 (by decide) ?_
    exact AW.iret rfl dX8_turnedLetter_33 ⟨by unfold trn; rw [← ex19]; split <;> omega, rfl⟩

set_option maxRecDepth 20000 in
theorem C_lowestBits (Γ : GC) (M : Mm) (lane v : Int) (hl : R32 lane) : Ct Γ uX8_lowestBits [vi lane, vl v] M (Pu (lowP lane v) M) := by
  refine Ct.of (by decide) (Nat.le_of_ble_eq_true rfl) ?_
  show AW Γ uX8_lowestBits 0 [(0, vi lane), (1, vl v)] [] M _
  refine AW.iload_n dX8_lowestBits_0 0 rfl rfl ?_
  rcases (show lane = 0 ∨ lane = 1 ∨ lane = 2 ∨ (lane < 0 ∨ 2 < lane) by omega) with hc | hc | hc | hc
  · refine AW.tabIn 28 dX8_lowestBits_1 hl (by omega) (by omega) (by rw [hc]; rfl) (by decide) ?_
    refine AW.lload_n dX8_lowestBits_28 1 rfl rfl ?_
    refine AW.l2i dX8_lowestBits_29 ?_
    refine AW.i2b dX8_lowestBits_30 ?_
    refine AW.i2l dX8_lowestBits_31 (by have := bmod_r8 v; omega) ?_
    exact AW.lret rfl dX8_lowestBits_32 ⟨by unfold lowP; simp_all <;> omega, rfl⟩
  · refine AW.tabIn 33 dX8_lowestBits_1 hl (by omega) (by omega) (by rw [hc]; rfl) (by decide) ?_
    refine AW.lload_n dX8_lowestBits_33 1 rfl rfl ?_
    refine AW.l2i dX8_lowestBits_34 ?_
    refine AW.i2s dX8_lowestBits_35 ?_
    refine AW.i2l dX8_lowestBits_36 (by have := bmod_r16 v; omega) ?_
    exact AW.lret rfl dX8_lowestBits_37 ⟨by unfold lowP; simp_all <;> omega, rfl⟩
  · refine AW.tabIn 38 dX8_lowestBits_1 hl (by omega) (by omega) (by rw [hc]; rfl) (by decide) ?_
    refine AW.lload_n dX8_lowestBits_38 1 rfl rfl ?_
    refine AW.l2i dX8_lowestBits_39 ?_
    refine AW.nrm ?_
    refine AW.i2l dX8_lowestBits_40 (bmod_r32 v) ?_
    exact AW.lret rfl dX8_lowestBits_41 ⟨by unfold lowP; simp_all <;> omega, rfl⟩
  · refine AW.tabOut 42 dX8_lowestBits_1 hl hc (by decide) ?_
    refine AW.lload_n dX8_lowestBits_42 1 rfl rfl ?_
    exact AW.lret rfl dX8_lowestBits_43 ⟨by unfold lowP; rw [if_neg (by omega), if_neg (by omega), if_neg (by omega)], rfl⟩
