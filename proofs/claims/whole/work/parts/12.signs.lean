/-! the reference's small methods; sign, letter, apart of both -/
def SG (M : Mm) : Prop := ∀ j : Nat, j < 27 → M 95 j = 10 * tl j + tg j
theorem sgn_c {p q : Int} (hp : D8 p) (hq : D8 q) : sgn p q = -4 ∨ 0 ≤ sgn p q := by
  obtain ⟨x, rfl⟩ := fin8 hp; obtain ⟨y, rfl⟩ := fin8 hq
  have : ∀ (x y : Fin 8), sgn x.val y.val = -4 ∨ 0 ≤ sgn x.val y.val := by decide +kernel
  exact this x y
def fndP (p q : Int) : Nat → Int
  | 0 => -4
  | k + 1 => if 10 * tl k + tg k = (if p < q then 10 * p + q else 10 * q + p) ∧ ¬ p = q then (k : Int) else fndP p q k
theorem fndP_27 {p q : Int} (hp : D8 p) (hq : D8 q) : fndP p q 27 = sgn p q := by
  obtain ⟨x, rfl⟩ := fin8 hp; obtain ⟨y, rfl⟩ := fin8 hq
  have : ∀ (x y : Fin 8), fndP x.val y.val 27 = sgn x.val y.val := by decide +kernel
  exact this x y
theorem fndP_b (p q : Int) : ∀ k : Nat, k ≤ 27 → -4 ≤ fndP p q k ∧ fndP p q k < 27
  | 0, _ => by simp [fndP]
  | k + 1, h => by
    have := fndP_b p q k (by omega)
    simp only [fndP]; (repeat' split) <;> omega
theorem trn_eq {a : Int} (s : Int) (hs : s = sgn ((8 - tl a.toNat) % 8) ((8 - tg a.toNat) % 8)) : (if s = 26 then -4 else s) = trn a := by
  have h1 := sgn_b (p := (8 - tl a.toNat) % 8) (q := (8 - tg a.toNat) % 8) (by have := tl_b a.toNat; constructor <;> omega) (by have := tg_b a.toNat; constructor <;> omega)
  have h2 := sgn_c (p := (8 - tl a.toNat) % 8) (q := (8 - tg a.toNat) % 8) (by have := tl_b a.toNat; constructor <;> omega) (by have := tg_b a.toNat; constructor <;> omega)
  unfold trn
  rw [← hs] at *
  split <;> split <;> omega
theorem trn_b {a : Int} : -4 ≤ trn a ∧ trn a < 26 := by
  unfold trn; split <;> omega
def signS (a w : Int) : Int := if 0 ≤ a ∧ a < 26 then (if w = 0 then tl a.toNat else if w = 1 then tg a.toNat else if w = 2 then trn a else -1) else -1
def letterS (p q : Int) : Int := if (0 ≤ p ∧ p < 8) ∧ (0 ≤ q ∧ q < 8) then sgn p q else -1
def apartS (a b : Int) : Int := if (0 ≤ a ∧ a < 27) ∧ (0 ≤ b ∧ b < 27) then betw (tl a.toNat) (tg a.toNat) (tl b.toNat) (tg b.toNat) else -1

set_option maxRecDepth 20000 in
theorem C9_in (Γ : GC) (M : Mm) (v lo hi : Int) (hv : R64 v) (hl : R64 lo) (hh : R64 hi) : Ct Γ uX9_in [vl v, vl lo, vl hi] M (Pu (bI (decide (lo ≤ v ∧ v ≤ hi))) M) := by
  refine Ct.of (by decide) (Nat.le_of_ble_eq_true rfl) ?_
  show AW Γ uX9_in 0 [(0, vl v), (2, vl lo), (4, vl hi)] [] M _
  refine AW.lload_n dX9_in_0 0 rfl rfl ?_
  refine AW.lload_n dX9_in_1 1 rfl rfl ?_
  refine AW.lcmp dX9_in_2 (by omega) (by omega) ?_
  refine AW.if_lt 17 dX9_in_3 (by decide) (by split <;> (try split) <;> omega) (fun c3 => ?_) (fun c3 => ?_)
  · have d3 : v < lo := by revert c3; split <;> (try split) <;> omega
    refine AW.iconst dX9_in_17 ?_
    exact AW.zret rfl dX9_in_18 (by omega) ⟨by simp only [bI, decide_eq_true_eq]; split <;> omega, rfl⟩
  · have d3 : lo ≤ v := by revert c3; split <;> (try split) <;> omega
    refine AW.lload_n dX9_in_6 0 rfl rfl ?_
    refine AW.lload dX9_in_7 2 rfl ?_
    refine AW.lcmp dX9_in_9 (by omega) (by omega) ?_
    refine AW.if_gt 17 dX9_in_10 (by decide) (by split <;> (try split) <;> omega) (fun c10 => ?_) (fun c10 => ?_)
    · have d10 : hi < v := by revert c10; split <;> (try split) <;> omega
      refine AW.iconst dX9_in_17 ?_
      exact AW.zret rfl dX9_in_18 (by omega) ⟨by simp only [bI, decide_eq_true_eq]; split <;> omega, rfl⟩
    · have d10 : v ≤ hi := by revert c10; split <;> (try split) <;> omega
      refine AW.iconst dX9_in_13 ?_
      refine AW.goto 18 dX9_in_14 (by decide) ?_
      exact AW.zret rfl dX9_in_18 (by omega) ⟨by simp only [bI, decide_eq_true_eq]; split <;> omega, rfl⟩

set_option maxRecDepth 20000 in
theorem C9_steps (Γ : GC) (M : Mm) (p q : Int) (hp : D8 p) (hq : D8 q) : Ct Γ uX9_steps [vi p, vi q] M (Pu (stepsP p q) M) := by
  refine Ct.of (by decide) (Nat.le_of_ble_eq_true rfl) ?_
  show AW Γ uX9_steps 0 [(0, vi p), (1, vi q)] [] M _
  refine AW.iload_n dX9_steps_0 0 rfl rfl ?_
  refine AW.iload_n dX9_steps_1 1 rfl rfl ?_
  refine AW.icmp_le 11 dX9_steps_2 (by decide) (by omega) (by omega) (fun c2 => ?_) (fun c2 => ?_)
  · refine AW.iload_n dX9_steps_11 1 rfl rfl ?_
    refine AW.iload_n dX9_steps_12 0 rfl rfl ?_
    refine AW.isub dX9_steps_13 ?_
    refine AW.top (fun x14 ex14 => ?_)
    refine AW.istore_n [(2, vi x14), (0, vi p), (1, vi q)] dX9_steps_14 rfl (by decide) rfl ?_
    refine AW.iload_n dX9_steps_15 0 rfl rfl ?_
    refine AW.iconst dX9_steps_16 ?_
    refine AW.icmp_le 27 dX9_steps_17 (by decide) (by omega) (by omega) (fun c17 => ?_) (fun c17 => ?_)
    · refine AW.iload_n dX9_steps_27 0 rfl rfl ?_
      exact AW.iret rfl dX9_steps_28 ⟨by unfold stepsP; (repeat' split) <;> omega, rfl⟩
    · refine AW.bipush (z := (8)) dX9_steps_20 (by decide) ?_
      refine AW.iload_n dX9_steps_22 0 rfl rfl ?_
      refine AW.isub dX9_steps_23 ?_
      refine AW.goto 28 dX9_steps_24 (by decide) ?_
      exact AW.iret rfl dX9_steps_28 ⟨by unfold stepsP; (repeat' split) <;> omega, rfl⟩
  · refine AW.iload_n dX9_steps_5 0 rfl rfl ?_
    refine AW.iload_n dX9_steps_6 1 rfl rfl ?_
    refine AW.isub dX9_steps_7 ?_
    refine AW.goto 14 dX9_steps_8 (by decide) ?_
    refine AW.top (fun x14 ex14 => ?_)
    refine AW.istore_n [(2, vi x14), (0, vi p), (1, vi q)] dX9_steps_14 rfl (by decide) rfl ?_
    refine AW.iload_n dX9_steps_15 0 rfl rfl ?_
    refine AW.iconst dX9_steps_16 ?_
    refine AW.icmp_le 27 dX9_steps_17 (by decide) (by omega) (by omega) (fun c17 => ?_) (fun c17 => ?_)
    · refine AW.iload_n dX9_steps_27 0 rfl rfl ?_
      exact AW.iret rfl dX9_steps_28 ⟨by unfold stepsP; (repeat' split) <;> omega, rfl⟩
    · refine AW.bipush (z := (8)) dX9_steps_20 (by decide) ?_
      refine AW.iload_n dX9_steps_22 0 rfl rfl ?_
      refine AW.isub dX9_steps_23 ?_
      refine AW.goto 28 dX9_steps_24 (by decide) ?_
      exact AW.iret rfl dX9_steps_28 ⟨by unfold stepsP; (repeat' split) <;> omega, rfl⟩

set_option maxRecDepth 20000 in
theorem C9_apartOf (Γ : GC) (M : Mm) (p q r s : Int) (hp : D8 p) (hq : D8 q) (hr : D8 r) (hs : D8 s) : Ct Γ uX9_apartOf [vi p, vi q, vi r, vi s] M (Pu (betw p q r s) M) := by
  refine Ct.of (by decide) (Nat.le_of_ble_eq_true rfl) ?_
  show AW Γ uX9_apartOf 0 [(0, vi p), (1, vi q), (2, vi r), (3, vi s)] [] M _
  have h1 := stepsP_b hp hr; have h2 := stepsP_b hq hs; have h3 := stepsP_b hp hs; have h4 := stepsP_b hq hr
  refine AW.iload_n dX9_apartOf_0 0 rfl rfl ?_
  refine AW.iload_n dX9_apartOf_1 2 rfl rfl ?_
  refine AW.callS2ip (C9_steps Γ M _ _ (by assumption) (by assumption)) dX9_apartOf_2 mc_X9_71 (fun _ => rfl) ⟨Nat.le_of_ble_eq_true rfl, Nat.le_of_ble_eq_true rfl⟩ (Nat.le_of_ble_eq_true rfl) ?_
  refine AW.iload_n dX9_apartOf_5 1 rfl rfl ?_
  refine AW.iload_n dX9_apartOf_6 3 rfl rfl ?_
  refine AW.callS2ip (C9_steps Γ M _ _ (by assumption) (by assumption)) dX9_apartOf_7 mc_X9_71 (fun _ => rfl) ⟨Nat.le_of_ble_eq_true rfl, Nat.le_of_ble_eq_true rfl⟩ (Nat.le_of_ble_eq_true rfl) ?_
  refine AW.iadd dX9_apartOf_10 ?_
  refine AW.top (fun x11 ex11 => ?_)
  refine AW.istore [(4, vi x11), (0, vi p), (1, vi q), (2, vi r), (3, vi s)] dX9_apartOf_11 (by decide) rfl ?_
  refine AW.iload_n dX9_apartOf_13 1 rfl rfl ?_
  refine AW.iload_n dX9_apartOf_14 4 rfl rfl ?_
  refine AW.callS2ip (C9_steps Γ M _ _ (by assumption) (by assumption)) dX9_apartOf_15 mc_X9_71 (fun _ => rfl) ⟨Nat.le_of_ble_eq_true rfl, Nat.le_of_ble_eq_true rfl⟩ (Nat.le_of_ble_eq_true rfl) ?_
  refine AW.iload_n dX9_apartOf_18 2 rfl rfl ?_
  refine AW.iload_n dX9_apartOf_19 3 rfl rfl ?_
  refine AW.callS2ip (C9_steps Γ M _ _ (by assumption) (by assumption)) dX9_apartOf_20 mc_X9_71 (fun _ => rfl) ⟨Nat.le_of_ble_eq_true rfl, Nat.le_of_ble_eq_true rfl⟩ (Nat.le_of_ble_eq_true rfl) ?_
  refine AW.iadd dX9_apartOf_23 ?_
  refine AW.top (fun x24 ex24 => ?_)
  refine AW.istore [(5, vi x24), (4, vi x11), (0, vi p), (1, vi q), (2, vi r), (3, vi s)] dX9_apartOf_24 (by decide) rfl ?_
  refine AW.iload dX9_apartOf_26 1 rfl ?_
  refine AW.iload dX9_apartOf_28 0 rfl ?_
  refine AW.icmp_ge 38 dX9_apartOf_30 (by decide) (by omega) (by omega) (fun c30 => ?_) (fun c30 => ?_)
  · refine AW.iload dX9_apartOf_38 0 rfl ?_
    exact AW.iret rfl dX9_apartOf_40 ⟨by unfold betw; omega, rfl⟩
  · refine AW.iload dX9_apartOf_33 1 rfl ?_
    refine AW.goto 40 dX9_apartOf_35 (by decide) ?_
    exact AW.iret rfl dX9_apartOf_40 ⟨by unfold betw; omega, rfl⟩

set_option maxRecDepth 20000 in
theorem L9_signOf (Γ : GC) (M : Mm) (hsg : SG M) (p q : Int) (hp : D8 p) (hq : D8 q) : ∀ (n : Nat) (k : Nat) (i f : Int), i = (k : Int) → k ≤ 27 → True → f = fndP p q k → 27 - k < n → AW Γ uX9_signOf 6 [(4, vi i), (3, vi f), (0, rf Γ 94), (1, vi p), (2, vi q)] [] M (Pu (sgn p q) M) := by
  intro n
  induction n with
  | zero => intro k i f g0 g1 g2 g3 gm; omega
  | succ n ih =>
    intro k i f g0 g1 g2 g3 gm
    have hfb := fndP_b p q k g1
    refine AW.iload dX9_signOf_6 0 rfl ?_
    refine AW.bipush (z := (26)) dX9_signOf_8 (by decide) ?_
    refine AW.icmp_gt 61 dX9_signOf_10 (by decide) (by omega) (by omega) (fun c10 => ?_) (fun c10 => ?_)
    · refine AW.iload_n dX9_signOf_61 1 rfl rfl ?_
      exact AW.iret rfl dX9_signOf_62 ⟨by rw [g3, show k = 27 by omega]; exact fndP_27 hp hq, rfl⟩
    · refine AW.aload_n dX9_signOf_13 2 rfl rfl ?_
      refine AW.getR dX9_signOf_14 fl_X9_7 (show sh 94 = (0, 9, [some 95, some 96, some 97, none, none, none, some 98, some 99, some 100, none, none, none, none, some 101, none, none, none, some 102, none, some 103, some 104, none, some 105, some 106, some 107, some 108]) from rfl) rfl ?_
      refine AW.iload dX9_signOf_17 0 rfl ?_
      refine AW.iald dX9_signOf_19 (show sh 95 = (1, 27, []) from rfl) (by omega) (by omega) (by decide) ?_
      refine AW.iload_n dX9_signOf_20 3 rfl rfl ?_
      refine AW.iload_n dX9_signOf_21 4 rfl rfl ?_
      refine AW.icmp_ge 34 dX9_signOf_22 (by decide) (by omega) (by omega) (fun c22 => ?_) (fun c22 => ?_)
      · refine AW.bipush (z := (10)) dX9_signOf_34 (by decide) ?_
        refine AW.iload_n dX9_signOf_36 4 rfl rfl ?_
        refine AW.imul dX9_signOf_37 ?_
        refine AW.iload_n dX9_signOf_38 3 rfl rfl ?_
        refine AW.iadd dX9_signOf_39 ?_
        refine AW.icmp_ne 53 dX9_signOf_40 (by decide) (by have h1 := hsg i.toNat (by omega); have h2 := tl_b i.toNat; have h3 := tg_b i.toNat; omega) (by omega) (fun c40 => ?_) (fun c40 => ?_)
        · refine AW.iload_n dX9_signOf_53 1 rfl rfl ?_
          refine AW.top (fun x54 ex54 => ?_)
          refine AW.istore_n [(3, vi x54), (4, vi i), (0, rf Γ 94), (1, vi p), (2, vi q)] dX9_signOf_54 rfl (by decide) rfl ?_
          obtain ⟨x55, ex55⟩ : ∃ z : Int, i + 1 = z := ⟨_, rfl⟩
          refine AW.iinc [(4, vi x55), (3, vi x54), (0, rf Γ 94), (1, vi p), (2, vi q)] dX9_signOf_55 1 rfl (by decide) x55 ex55 rfl ?_
          refine AW.goto 6 dX9_signOf_58 (by decide) ?_
          refine AW.sub [0, 1, 2, 3, 4] rfl ?_
          exact ih (k + 1) x55 x54 (by omega) (by omega) trivial (by
            have h1 := hsg i.toNat (by omega)
            rw [show i.toNat = k by omega] at *
            simp only [fndP]
            first | (rw [if_pos ⟨by rw [← h1]; first | (rw [if_pos (by omega)]; omega) | (rw [if_neg (by omega)]; omega), by omega⟩]; omega) | (rw [if_neg (fun q => by have q1 := q.1; revert q1; split <;> omega)]; omega)) (by omega)
        · refine AW.iload_n dX9_signOf_43 3 rfl rfl ?_
          refine AW.iload_n dX9_signOf_44 4 rfl rfl ?_
          refine AW.icmp_eq 53 dX9_signOf_45 (by decide) (by omega) (by omega) (fun c45 => ?_) (fun c45 => ?_)
          · refine AW.iload_n dX9_signOf_53 1 rfl rfl ?_
            refine AW.top (fun x54 ex54 => ?_)
            refine AW.istore_n [(3, vi x54), (4, vi i), (0, rf Γ 94), (1, vi p), (2, vi q)] dX9_signOf_54 rfl (by decide) rfl ?_
            obtain ⟨x55, ex55⟩ : ∃ z : Int, i + 1 = z := ⟨_, rfl⟩
            refine AW.iinc [(4, vi x55), (3, vi x54), (0, rf Γ 94), (1, vi p), (2, vi q)] dX9_signOf_55 1 rfl (by decide) x55 ex55 rfl ?_
            refine AW.goto 6 dX9_signOf_58 (by decide) ?_
            refine AW.sub [0, 1, 2, 3, 4] rfl ?_
            exact ih (k + 1) x55 x54 (by omega) (by omega) trivial (by
              have h1 := hsg i.toNat (by omega)
              rw [show i.toNat = k by omega] at *
              simp only [fndP]
              first | (rw [if_pos ⟨by rw [← h1]; first | (rw [if_pos (by omega)]; omega) | (rw [if_neg (by omega)]; omega), by omega⟩]; omega) | (rw [if_neg (fun q => by have q1 := q.1; revert q1; split <;> omega)]; omega)) (by omega)
          · refine AW.iload dX9_signOf_48 0 rfl ?_
            refine AW.goto 54 dX9_signOf_50 (by decide) ?_
            refine AW.top (fun x54 ex54 => ?_)
            refine AW.istore_n [(3, vi x54), (4, vi i), (0, rf Γ 94), (1, vi p), (2, vi q)] dX9_signOf_54 rfl (by decide) rfl ?_
            obtain ⟨x55, ex55⟩ : ∃ z : Int, i + 1 = z := ⟨_, rfl⟩
            refine AW.iinc [(4, vi x55), (3, vi x54), (0, rf Γ 94), (1, vi p), (2, vi q)] dX9_signOf_55 1 rfl (by decide) x55 ex55 rfl ?_
            refine AW.goto 6 dX9_signOf_58 (by decide) ?_
            refine AW.sub [0, 1, 2, 3, 4] rfl ?_
            exact ih (k + 1) x55 x54 (by omega) (by omega) trivial (by
              have h1 := hsg i.toNat (by omega)
              rw [show i.toNat = k by omega] at *
              simp only [fndP]
              first | (rw [if_pos ⟨by rw [← h1]; first | (rw [if_pos (by omega)]; omega) | (rw [if_neg (by omega)]; omega), by omega⟩]; omega) | (rw [if_neg (fun q => by have q1 := q.1; revert q1; split <;> omega)]; omega)) (by omega)
      · refine AW.bipush (z := (10)) dX9_signOf_25 (by decide) ?_
        refine AW.iload_n dX9_signOf_27 3 rfl rfl ?_
        refine AW.imul dX9_signOf_28 ?_
        refine AW.iload_n dX9_signOf_29 4 rfl rfl ?_
        refine AW.iadd dX9_signOf_30 ?_
        refine AW.goto 40 dX9_signOf_31 (by decide) ?_
        refine AW.icmp_ne 53 dX9_signOf_40 (by decide) (by have h1 := hsg i.toNat (by omega); have h2 := tl_b i.toNat; have h3 := tg_b i.toNat; omega) (by omega) (fun c40 => ?_) (fun c40 => ?_)
        · refine AW.iload_n dX9_signOf_53 1 rfl rfl ?_
          refine AW.top (fun x54 ex54 => ?_)
          refine AW.istore_n [(3, vi x54), (4, vi i), (0, rf Γ 94), (1, vi p), (2, vi q)] dX9_signOf_54 rfl (by decide) rfl ?_
          obtain ⟨x55, ex55⟩ : ∃ z : Int, i + 1 = z := ⟨_, rfl⟩
          refine AW.iinc [(4, vi x55), (3, vi x54), (0, rf Γ 94), (1, vi p), (2, vi q)] dX9_signOf_55 1 rfl (by decide) x55 ex55 rfl ?_
          refine AW.goto 6 dX9_signOf_58 (by decide) ?_
          refine AW.sub [0, 1, 2, 3, 4] rfl ?_
          exact ih (k + 1) x55 x54 (by omega) (by omega) trivial (by
            have h1 := hsg i.toNat (by omega)
            rw [show i.toNat = k by omega] at *
            simp only [fndP]
            first | (rw [if_pos ⟨by rw [← h1]; first | (rw [if_pos (by omega)]; omega) | (rw [if_neg (by omega)]; omega), by omega⟩]; omega) | (rw [if_neg (fun q => by have q1 := q.1; revert q1; split <;> omega)]; omega)) (by omega)
        · refine AW.iload_n dX9_signOf_43 3 rfl rfl ?_
          refine AW.iload_n dX9_signOf_44 4 rfl rfl ?_
          refine AW.icmp_eq 53 dX9_signOf_45 (by decide) (by omega) (by omega) (fun c45 => ?_) (fun c45 => ?_)
          · refine AW.iload_n dX9_signOf_53 1 rfl rfl ?_
            refine AW.top (fun x54 ex54 => ?_)
            refine AW.istore_n [(3, vi x54), (4, vi i), (0, rf Γ 94), (1, vi p), (2, vi q)] dX9_signOf_54 rfl (by decide) rfl ?_
            obtain ⟨x55, ex55⟩ : ∃ z : Int, i + 1 = z := ⟨_, rfl⟩
            refine AW.iinc [(4, vi x55), (3, vi x54), (0, rf Γ 94), (1, vi p), (2, vi q)] dX9_signOf_55 1 rfl (by decide) x55 ex55 rfl ?_
            refine AW.goto 6 dX9_signOf_58 (by decide) ?_
            refine AW.sub [0, 1, 2, 3, 4] rfl ?_
            exact ih (k + 1) x55 x54 (by omega) (by omega) trivial (by
              have h1 := hsg i.toNat (by omega)
              rw [show i.toNat = k by omega] at *
              simp only [fndP]
              first | (rw [if_pos ⟨by rw [← h1]; first | (rw [if_pos (by omega)]; omega) | (rw [if_neg (by omega)]; omega), by omega⟩]; omega) | (rw [if_neg (fun q => by have q1 := q.1; revert q1; split <;> omega)]; omega)) (by omega)
          · refine AW.iload dX9_signOf_48 0 rfl ?_
            refine AW.goto 54 dX9_signOf_50 (by decide) ?_
            refine AW.top (fun x54 ex54 => ?_)
            refine AW.istore_n [(3, vi x54), (4, vi i), (0, rf Γ 94), (1, vi p), (2, vi q)] dX9_signOf_54 rfl (by decide) rfl ?_
            obtain ⟨x55, ex55⟩ : ∃ z : Int, i + 1 = z := ⟨_, rfl⟩
            refine AW.iinc [(4, vi x55), (3, vi x54), (0, rf Γ 94), (1, vi p), (2, vi q)] dX9_signOf_55 1 rfl (by decide) x55 ex55 rfl ?_
            refine AW.goto 6 dX9_signOf_58 (by decide) ?_
            refine AW.sub [0, 1, 2, 3, 4] rfl ?_
            exact ih (k + 1) x55 x54 (by omega) (by omega) trivial (by
              have h1 := hsg i.toNat (by omega)
              rw [show i.toNat = k by omega] at *
              simp only [fndP]
              first | (rw [if_pos ⟨by rw [← h1]; first | (rw [if_pos (by omega)]; omega) | (rw [if_neg (by omega)]; omega), by omega⟩]; omega) | (rw [if_neg (fun q => by have q1 := q.1; revert q1; split <;> omega)]; omega)) (by omega)

set_option maxRecDepth 20000 in
theorem C9_signOf (Γ : GC) (M : Mm) (hsg : SG M) (p q : Int) (hp : D8 p) (hq : D8 q) : Ct Γ uX9_signOf [rf Γ 94, vi p, vi q] M (Pu (sgn p q) M) := by
  refine Ct.of (by decide) (Nat.le_of_ble_eq_true rfl) ?_
  show AW Γ uX9_signOf 0 [(0, rf Γ 94), (1, vi p), (2, vi q)] [] M _
  refine AW.bipush (z := (-4)) dX9_signOf_0 (by decide) ?_
  refine AW.top (fun x2 ex2 => ?_)
  refine AW.istore_n [(3, vi x2), (0, rf Γ 94), (1, vi p), (2, vi q)] dX9_signOf_2 rfl (by decide) rfl ?_
  refine AW.iconst dX9_signOf_3 ?_
  refine AW.top (fun x4 ex4 => ?_)
  refine AW.istore [(4, vi x4), (3, vi x2), (0, rf Γ 94), (1, vi p), (2, vi q)] dX9_signOf_4 (by decide) rfl ?_
  refine AW.sub [0, 1, 2, 3, 4] rfl ?_
  exact L9_signOf Γ M hsg p q hp hq 28 0 x4 x2 (by omega) (by omega) trivial (by rw [ex2]; rfl) (by omega)

set_option maxRecDepth 20000 in
theorem C9_letterOf (Γ : GC) (M : Mm) (hsg : SG M) (p q : Int) (hp : D8 p) (hq : D8 q) : Ct Γ uX9_letterOf [rf Γ 94, vi p, vi q] M (Pu (if sgn p q = 26 then -4 else sgn p q) M) := by
  refine Ct.of (by decide) (Nat.le_of_ble_eq_true rfl) ?_
  show AW Γ uX9_letterOf 0 [(0, rf Γ 94), (1, vi p), (2, vi q)] [] M _
  have hb := sgn_b hp hq
  refine AW.aload_n dX9_letterOf_0 0 rfl rfl ?_
  refine AW.iload_n dX9_letterOf_1 1 rfl rfl ?_
  refine AW.iload_n dX9_letterOf_2 2 rfl rfl ?_
  refine AW.callV2ip (C9_signOf Γ M hsg _ _ hp hq) dX9_letterOf_3 mc_X9_57 (show sh 94 = (0, 9, [some 95, some 96, some 97, none, none, none, some 98, some 99, some 100, none, none, none, none, some 101, none, none, none, some 102, none, some 103, some 104, none, some 105, some 106, some 107, some 108]) from rfl) (fun _ => rfl) ⟨Nat.le_of_ble_eq_true rfl, Nat.le_of_ble_eq_true rfl⟩ (Nat.le_of_ble_eq_true rfl) ?_
  refine AW.top (fun x6 ex6 => ?_)
  refine AW.istore_n [(3, vi x6), (0, rf Γ 94), (1, vi p), (2, vi q)] dX9_letterOf_6 rfl (by decide) rfl ?_
  refine AW.iload_n dX9_letterOf_7 0 rfl rfl ?_
  refine AW.bipush (z := (26)) dX9_letterOf_8 (by decide) ?_
  refine AW.icmp_ne 18 dX9_letterOf_10 (by decide) (by omega) (by omega) (fun c10 => ?_) (fun c10 => ?_)
  · refine AW.iload_n dX9_letterOf_18 0 rfl rfl ?_
    exact AW.iret rfl dX9_letterOf_19 ⟨by split <;> omega, rfl⟩
  · refine AW.bipush (z := (-4)) dX9_letterOf_13 (by decide) ?_
    refine AW.goto 19 dX9_letterOf_15 (by decide) ?_
    exact AW.iret rfl dX9_letterOf_19 ⟨by split <;> omega, rfl⟩

set_option maxRecDepth 20000 in
theorem C9_low (Γ : GC) (M : Mm) (hsg : SG M) (a : Int) (ha : 0 ≤ a ∧ a < 27) : Ct Γ uX9_low [rf Γ 94, vi a] M (Pu (tl a.toNat) M) := by
  refine Ct.of (by decide) (Nat.le_of_ble_eq_true rfl) ?_
  show AW Γ uX9_low 0 [(0, rf Γ 94), (1, vi a)] [] M _
  have h1 := hsg a.toNat (by omega); have h2 := tl_b a.toNat; have h3 := tg_b a.toNat
  refine AW.aload_n dX9_low_0 0 rfl rfl ?_
  refine AW.getR dX9_low_1 fl_X9_7 (show sh 94 = (0, 9, [some 95, some 96, some 97, none, none, none, some 98, some 99, some 100, none, none, none, none, some 101, none, none, none, some 102, none, some 103, some 104, none, some 105, some 106, some 107, some 108]) from rfl) rfl ?_
  refine AW.iload_n dX9_low_4 1 rfl rfl ?_
  refine AW.iald dX9_low_5 (show sh 95 = (1, 27, []) from rfl) (by omega) (by omega) (by decide) ?_
  refine AW.bipush (z := (10)) dX9_low_6 (by decide) ?_
  refine AW.idiv dX9_low_8 (by rw [h1]; omega) (by omega) ?_
  exact AW.iret rfl dX9_low_9 ⟨by rw [h1]; omega, rfl⟩

set_option maxRecDepth 20000 in
theorem C9_high (Γ : GC) (M : Mm) (hsg : SG M) (a : Int) (ha : 0 ≤ a ∧ a < 27) : Ct Γ uX9_high [rf Γ 94, vi a] M (Pu (tg a.toNat) M) := by
  refine Ct.of (by decide) (Nat.le_of_ble_eq_true rfl) ?_
  show AW Γ uX9_high 0 [(0, rf Γ 94), (1, vi a)] [] M _
  have h1 := hsg a.toNat (by omega); have h2 := tl_b a.toNat; have h3 := tg_b a.toNat
  refine AW.aload_n dX9_high_0 0 rfl rfl ?_
  refine AW.getR dX9_high_1 fl_X9_7 (show sh 94 = (0, 9, [some 95, some 96, some 97, none, none, none, some 98, some 99, some 100, none, none, none, none, some 101, none, none, none, some 102, none, some 103, some 104, none, some 105, some 106, some 107, some 108]) from rfl) rfl ?_
  refine AW.iload_n dX9_high_4 1 rfl rfl ?_
  refine AW.iald dX9_high_5 (show sh 95 = (1, 27, []) from rfl) (by omega) (by omega) (by decide) ?_
  refine AW.bipush (z := (10)) dX9_high_6 (by decide) ?_
  refine AW.irem dX9_high_8 (by rw [h1]; omega) (by omega) ?_
  exact AW.iret rfl dX9_high_9 ⟨by rw [h1]; omega, rfl⟩

set_option maxRecDepth 20000 in
theorem C9_turnedOf (Γ : GC) (M : Mm) (hsg : SG M) (a : Int) (ha : 0 ≤ a ∧ a < 26) : Ct Γ uX9_turnedOf [rf Γ 94, vi a] M (Pu (trn a) M) := by
  refine Ct.of (by decide) (Nat.le_of_ble_eq_true rfl) ?_
  show AW Γ uX9_turnedOf 0 [(0, rf Γ 94), (1, vi a)] [] M _
  have h2 := tl_b a.toNat; have h3 := tg_b a.toNat
  refine AW.aload_n dX9_turnedOf_0 0 rfl rfl ?_
  refine AW.bipush (z := (8)) dX9_turnedOf_1 (by decide) ?_
  refine AW.aload_n dX9_turnedOf_3 0 rfl rfl ?_
  refine AW.iload_n dX9_turnedOf_4 1 rfl rfl ?_
  refine AW.callV1ip (C9_low Γ M hsg _ (by omega)) dX9_turnedOf_5 mc_X9_61 (show sh 94 = (0, 9, [some 95, some 96, some 97, none, none, none, some 98, some 99, some 100, none, none, none, none, some 101, none, none, none, some 102, none, some 103, some 104, none, some 105, some 106, some 107, some 108]) from rfl) (fun _ => rfl) ⟨Nat.le_of_ble_eq_true rfl, Nat.le_of_ble_eq_true rfl⟩ (Nat.le_of_ble_eq_true rfl) ?_
  refine AW.isub dX9_turnedOf_8 ?_
  refine AW.bipush (z := (8)) dX9_turnedOf_9 (by decide) ?_
  refine AW.irem dX9_turnedOf_11 (by omega) (by omega) ?_
  refine AW.bipush (z := (8)) dX9_turnedOf_12 (by decide) ?_
  refine AW.aload_n dX9_turnedOf_14 0 rfl rfl ?_
  refine AW.iload_n dX9_turnedOf_15 1 rfl rfl ?_
  refine AW.callV1ip (C9_high Γ M hsg _ (by omega)) dX9_turnedOf_16 mc_X9_65 (show sh 94 = (0, 9, [some 95, some 96, some 97, none, none, none, some 98, some 99, some 100, none, none, none, none, some 101, none, none, none, some 102, none, some 103, some 104, none, some 105, some 106, some 107, some 108]) from rfl) (fun _ => rfl) ⟨Nat.le_of_ble_eq_true rfl, Nat.le_of_ble_eq_true rfl⟩ (Nat.le_of_ble_eq_true rfl) ?_
  refine AW.isub dX9_turnedOf_19 ?_
  refine AW.bipush (z := (8)) dX9_turnedOf_20 (by decide) ?_
  refine AW.irem dX9_turnedOf_22 (by omega) (by omega) ?_
  refine AW.callV2ip (C9_letterOf Γ M hsg _ _ (by constructor <;> omega) (by constructor <;> omega)) dX9_turnedOf_23 mc_X9_68 (show sh 94 = (0, 9, [some 95, some 96, some 97, none, none, none, some 98, some 99, some 100, none, none, none, none, some 101, none, none, none, some 102, none, some 103, some 104, none, some 105, some 106, some 107, some 108]) from rfl) (fun _ => rfl) ⟨Nat.le_of_ble_eq_true rfl, Nat.le_of_ble_eq_true rfl⟩ (Nat.le_of_ble_eq_true rfl) ?_
  exact AW.iret rfl dX9_turnedOf_26 ⟨trn_eq _ rfl, rfl⟩

set_option maxRecDepth 20000 in
theorem C9_sign (Γ : GC) (M : Mm) (hsg : SG M) (a c : Int) (ha : R32 a) (hc : R32 c) : Ct Γ uX9_sign [rf Γ 94, vi a, vi c] M (Pu (signS a c) M) := by
  refine Ct.of (by decide) (Nat.le_of_ble_eq_true rfl) ?_
  show AW Γ uX9_sign 0 [(0, rf Γ 94), (1, vi a), (2, vi c)] [] M _
  refine AW.iload_n dX9_sign_0 1 rfl rfl ?_
  refine AW.i2l dX9_sign_1 (by omega) ?_
  refine AW.lconst (z := (0)) dX9_sign_2 rfl ?_
  refine AW.ldc2 (z := 25) dX9_sign_3 kl_X9_74 (by decide +kernel) ?_
  refine AW.callS3ip (C9_in Γ M _ _ _ (by omega) (by decide) (by decide)) dX9_sign_6 mc_X9_76 (fun _ => rfl) ⟨Nat.le_of_ble_eq_true rfl, Nat.le_of_ble_eq_true rfl⟩ (Nat.le_of_ble_eq_true rfl) ?_
  refine AW.if_ne 14 dX9_sign_9 (by decide) (bI_r _) (fun c9 => ?_) (fun c9 => ?_)
  · have d9 := bI1.mp c9
    refine AW.iload_n dX9_sign_14 2 rfl rfl ?_
    refine AW.if_ne 26 dX9_sign_15 (by decide) (by omega) (fun c15 => ?_) (fun c15 => ?_)
    · refine AW.iload_n dX9_sign_26 2 rfl rfl ?_
      refine AW.iconst dX9_sign_27 ?_
      refine AW.icmp_ne 39 dX9_sign_28 (by decide) (by omega) (by omega) (fun c28 => ?_) (fun c28 => ?_)
      · refine AW.iload_n dX9_sign_39 2 rfl rfl ?_
        refine AW.iconst dX9_sign_40 ?_
        refine AW.icmp_ne 52 dX9_sign_41 (by decide) (by omega) (by omega) (fun c41 => ?_) (fun c41 => ?_)
        · refine AW.iconst dX9_sign_52 ?_
          exact AW.iret rfl dX9_sign_53 ⟨by unfold signS; rw [if_pos (by omega)]; first | rw [if_pos (by omega)] | rw [if_neg (by omega), if_pos (by omega)] | rw [if_neg (by omega), if_neg (by omega), if_pos (by omega)] | rw [if_neg (by omega), if_neg (by omega), if_neg (by omega)], rfl⟩
        · refine AW.aload_n dX9_sign_44 0 rfl rfl ?_
          refine AW.iload_n dX9_sign_45 1 rfl rfl ?_
          refine AW.callV1ip (C9_turnedOf Γ M hsg _ (by omega)) dX9_sign_46 mc_X9_80 (show sh 94 = (0, 9, [some 95, some 96, some 97, none, none, none, some 98, some 99, some 100, none, none, none, none, some 101, none, none, none, some 102, none, some 103, some 104, none, some 105, some 106, some 107, some 108]) from rfl) (fun _ => rfl) ⟨Nat.le_of_ble_eq_true rfl, Nat.le_of_ble_eq_true rfl⟩ (Nat.le_of_ble_eq_true rfl) ?_
          refine AW.goto 53 dX9_sign_49 (by decide) ?_
          exact AW.iret rfl dX9_sign_53 ⟨by unfold signS; rw [if_pos (by omega)]; first | rw [if_pos (by omega)] | rw [if_neg (by omega), if_pos (by omega)] | rw [if_neg (by omega), if_neg (by omega), if_pos (by omega)] | rw [if_neg (by omega), if_neg (by omega), if_neg (by omega)], rfl⟩
      · refine AW.aload_n dX9_sign_31 0 rfl rfl ?_
        refine AW.iload_n dX9_sign_32 1 rfl rfl ?_
        refine AW.callV1ip (C9_high Γ M hsg _ (by omega)) dX9_sign_33 mc_X9_65 (show sh 94 = (0, 9, [some 95, some 96, some 97, none, none, none, some 98, some 99, some 100, none, none, none, none, some 101, none, none, none, some 102, none, some 103, some 104, none, some 105, some 106, some 107, some 108]) from rfl) (fun _ => rfl) ⟨Nat.le_of_ble_eq_true rfl, Nat.le_of_ble_eq_true rfl⟩ (Nat.le_of_ble_eq_true rfl) ?_
        refine AW.goto 53 dX9_sign_36 (by decide) ?_
        exact AW.iret rfl dX9_sign_53 ⟨by unfold signS; rw [if_pos (by omega)]; first | rw [if_pos (by omega)] | rw [if_neg (by omega), if_pos (by omega)] | rw [if_neg (by omega), if_neg (by omega), if_pos (by omega)] | rw [if_neg (by omega), if_neg (by omega), if_neg (by omega)], rfl⟩
    · refine AW.aload_n dX9_sign_18 0 rfl rfl ?_
      refine AW.iload_n dX9_sign_19 1 rfl rfl ?_
      refine AW.callV1ip (C9_low Γ M hsg _ (by omega)) dX9_sign_20 mc_X9_61 (show sh 94 = (0, 9, [some 95, some 96, some 97, none, none, none, some 98, some 99, some 100, none, none, none, none, some 101, none, none, none, some 102, none, some 103, some 104, none, some 105, some 106, some 107, some 108]) from rfl) (fun _ => rfl) ⟨Nat.le_of_ble_eq_true rfl, Nat.le_of_ble_eq_true rfl⟩ (Nat.le_of_ble_eq_true rfl) ?_
      refine AW.goto 53 dX9_sign_23 (by decide) ?_
      exact AW.iret rfl dX9_sign_53 ⟨by unfold signS; rw [if_pos (by omega)]; first | rw [if_pos (by omega)] | rw [if_neg (by omega), if_pos (by omega)] | rw [if_neg (by omega), if_neg (by omega), if_pos (by omega)] | rw [if_neg (by omega), if_neg (by omega), if_neg (by omega)], rfl⟩
  · have d9 := bI0.mp c9
    refine AW.iconst dX9_sign_12 ?_
    exact AW.iret rfl dX9_sign_13 ⟨by unfold signS; rw [if_neg (by omega)], rfl⟩

set_option maxRecDepth 20000 in
theorem C9_letter (Γ : GC) (M : Mm) (hsg : SG M) (p q : Int) (ha : R32 p) (hc : R32 q) : Ct Γ uX9_letter [rf Γ 94, vi p, vi q] M (Pu (letterS p q) M) := by
  refine Ct.of (by decide) (Nat.le_of_ble_eq_true rfl) ?_
  show AW Γ uX9_letter 0 [(0, rf Γ 94), (1, vi p), (2, vi q)] [] M _
  refine AW.iload_n dX9_letter_0 1 rfl rfl ?_
  refine AW.i2l dX9_letter_1 (by omega) ?_
  refine AW.lconst (z := (0)) dX9_letter_2 rfl ?_
  refine AW.ldc2 (z := 7) dX9_letter_3 kl_X9_83 (by decide +kernel) ?_
  refine AW.callS3ip (C9_in Γ M _ _ _ (by omega) (by decide) (by decide)) dX9_letter_6 mc_X9_76 (fun _ => rfl) ⟨Nat.le_of_ble_eq_true rfl, Nat.le_of_ble_eq_true rfl⟩ (Nat.le_of_ble_eq_true rfl) ?_
  refine AW.if_eq 33 dX9_letter_9 (by decide) (bI_r _) (fun c9 => ?_) (fun c9 => ?_)
  · have d9 := bI0.mp c9
    refine AW.iconst dX9_letter_33 ?_
    exact AW.iret rfl dX9_letter_34 ⟨by unfold letterS; first | rw [if_pos (by omega)] | rw [if_neg (by omega)], rfl⟩
  · have d9 := bI1.mp c9
    refine AW.iload_n dX9_letter_12 2 rfl rfl ?_
    refine AW.i2l dX9_letter_13 (by omega) ?_
    refine AW.lconst (z := (0)) dX9_letter_14 rfl ?_
    refine AW.ldc2 (z := 7) dX9_letter_15 kl_X9_83 (by decide +kernel) ?_
    refine AW.callS3ip (C9_in Γ M _ _ _ (by omega) (by decide) (by decide)) dX9_letter_18 mc_X9_76 (fun _ => rfl) ⟨Nat.le_of_ble_eq_true rfl, Nat.le_of_ble_eq_true rfl⟩ (Nat.le_of_ble_eq_true rfl) ?_
    refine AW.if_eq 33 dX9_letter_21 (by decide) (bI_r _) (fun c21 => ?_) (fun c21 => ?_)
    · have d21 := bI0.mp c21
      refine AW.iconst dX9_letter_33 ?_
      exact AW.iret rfl dX9_letter_34 ⟨by unfold letterS; first | rw [if_pos (by omega)] | rw [if_neg (by omega)], rfl⟩
    · have d21 := bI1.mp c21
      refine AW.aload_n dX9_letter_24 0 rfl rfl ?_
      refine AW.iload_n dX9_letter_25 1 rfl rfl ?_
      refine AW.iload_n dX9_letter_26 2 rfl rfl ?_
      refine AW.callV2ip (C9_signOf Γ M hsg _ _ (by constructor <;> omega) (by constructor <;> omega)) dX9_letter_27 mc_X9_57 (show sh 94 = (0, 9, [some 95, some 96, some 97, none, none, none, some 98, some 99, some 100, none, none, none, none, some 101, none, none, none, some 102, none, some 103, some 104, none, some 105, some 106, some 107, some 108]) from rfl) (fun _ => rfl) ⟨Nat.le_of_ble_eq_true rfl, Nat.le_of_ble_eq_true rfl⟩ (Nat.le_of_ble_eq_true rfl) ?_
      refine AW.goto 34 dX9_letter_30 (by decide) ?_
      exact AW.iret rfl dX9_letter_34 ⟨by unfold letterS; first | rw [if_pos (by omega)] | rw [if_neg (by omega)], rfl⟩

set_option maxRecDepth 20000 in
theorem C9_apart (Γ : GC) (M : Mm) (hsg : SG M) (p q : Int) (ha : R32 p) (hc : R32 q) : Ct Γ uX9_apart [rf Γ 94, vi p, vi q] M (Pu (apartS p q) M) := by
  refine Ct.of (by decide) (Nat.le_of_ble_eq_true rfl) ?_
  show AW Γ uX9_apart 0 [(0, rf Γ 94), (1, vi p), (2, vi q)] [] M _
  refine AW.iload_n dX9_apart_0 1 rfl rfl ?_
  refine AW.i2l dX9_apart_1 (by omega) ?_
  refine AW.lconst (z := (0)) dX9_apart_2 rfl ?_
  refine AW.ldc2 (z := 26) dX9_apart_3 kl_X9_85 (by decide +kernel) ?_
  refine AW.callS3ip (C9_in Γ M _ _ _ (by omega) (by decide) (by decide)) dX9_apart_6 mc_X9_76 (fun _ => rfl) ⟨Nat.le_of_ble_eq_true rfl, Nat.le_of_ble_eq_true rfl⟩ (Nat.le_of_ble_eq_true rfl) ?_
  refine AW.if_eq 50 dX9_apart_9 (by decide) (bI_r _) (fun c9 => ?_) (fun c9 => ?_)
  · have d9 := bI0.mp c9
    refine AW.iconst dX9_apart_50 ?_
    exact AW.iret rfl dX9_apart_51 ⟨by unfold apartS; first | rw [if_pos (by omega)] | rw [if_neg (by omega)], rfl⟩
  · have d9 := bI1.mp c9
    refine AW.iload_n dX9_apart_12 2 rfl rfl ?_
    refine AW.i2l dX9_apart_13 (by omega) ?_
    refine AW.lconst (z := (0)) dX9_apart_14 rfl ?_
    refine AW.ldc2 (z := 26) dX9_apart_15 kl_X9_85 (by decide +kernel) ?_
    refine AW.callS3ip (C9_in Γ M _ _ _ (by omega) (by decide) (by decide)) dX9_apart_18 mc_X9_76 (fun _ => rfl) ⟨Nat.le_of_ble_eq_true rfl, Nat.le_of_ble_eq_true rfl⟩ (Nat.le_of_ble_eq_true rfl) ?_
    refine AW.if_eq 50 dX9_apart_21 (by decide) (bI_r _) (fun c21 => ?_) (fun c21 => ?_)
    · have d21 := bI0.mp c21
      refine AW.iconst dX9_apart_50 ?_
      exact AW.iret rfl dX9_apart_51 ⟨by unfold apartS; first | rw [if_pos (by omega)] | rw [if_neg (by omega)], rfl⟩
    · have d21 := bI1.mp c21
      refine AW.aload_n dX9_apart_24 0 rfl rfl ?_
      refine AW.iload_n dX9_apart_25 1 rfl rfl ?_
      refine AW.callV1ip (C9_low Γ M hsg _ (by omega)) dX9_apart_26 mc_X9_61 (show sh 94 = (0, 9, [some 95, some 96, some 97, none, none, none, some 98, some 99, some 100, none, none, none, none, some 101, none, none, none, some 102, none, some 103, some 104, none, some 105, some 106, some 107, some 108]) from rfl) (fun _ => rfl) ⟨Nat.le_of_ble_eq_true rfl, Nat.le_of_ble_eq_true rfl⟩ (Nat.le_of_ble_eq_true rfl) ?_
      refine AW.aload_n dX9_apart_29 0 rfl rfl ?_
      refine AW.iload_n dX9_apart_30 1 rfl rfl ?_
      refine AW.callV1ip (C9_high Γ M hsg _ (by omega)) dX9_apart_31 mc_X9_65 (show sh 94 = (0, 9, [some 95, some 96, some 97, none, none, none, some 98, some 99, some 100, none, none, none, none, some 101, none, none, none, some 102, none, some 103, some 104, none, some 105, some 106, some 107, some 108]) from rfl) (fun _ => rfl) ⟨Nat.le_of_ble_eq_true rfl, Nat.le_of_ble_eq_true rfl⟩ (Nat.le_of_ble_eq_true rfl) ?_
      refine AW.aload_n dX9_apart_34 0 rfl rfl ?_
      refine AW.iload_n dX9_apart_35 2 rfl rfl ?_
      refine AW.callV1ip (C9_low Γ M hsg _ (by omega)) dX9_apart_36 mc_X9_61 (show sh 94 = (0, 9, [some 95, some 96, some 97, none, none, none, some 98, some 99, some 100, none, none, none, none, some 101, none, none, none, some 102, none, some 103, some 104, none, some 105, some 106, some 107, some 108]) from rfl) (fun _ => rfl) ⟨Nat.le_of_ble_eq_true rfl, Nat.le_of_ble_eq_true rfl⟩ (Nat.le_of_ble_eq_true rfl) ?_
      refine AW.aload_n dX9_apart_39 0 rfl rfl ?_
      refine AW.iload_n dX9_apart_40 2 rfl rfl ?_
      refine AW.callV1ip (C9_high Γ M hsg _ (by omega)) dX9_apart_41 mc_X9_65 (show sh 94 = (0, 9, [some 95, some 96, some 97, none, none, none, some 98, some 99, some 100, none, none, none, none, some 101, none, none, none, some 102, none, some 103, some 104, none, some 105, some 106, some 107, some 108]) from rfl) (fun _ => rfl) ⟨Nat.le_of_ble_eq_true rfl, Nat.le_of_ble_eq_true rfl⟩ (Nat.le_of_ble_eq_true rfl) ?_
      refine AW.callS4ip (C9_apartOf Γ M _ _ _ _ (tl_b _) (tg_b _) (tl_b _) (tg_b _)) dX9_apart_44 mc_X9_87 (fun _ => rfl) ⟨Nat.le_of_ble_eq_true rfl, Nat.le_of_ble_eq_true rfl⟩ (Nat.le_of_ble_eq_true rfl) ?_
      refine AW.goto 51 dX9_apart_47 (by decide) ?_
      exact AW.iret rfl dX9_apart_51 ⟨by unfold apartS; first | rw [if_pos (by omega)] | rw [if_neg (by omega)], rfl⟩

set_option maxRecDepth 20000 in
theorem C_sign (Γ : GC) (M : Mm) (a c : Int) (ha : R32 a) (hc0 : R32 c) : Ct Γ uX8_sign [rf Γ 0, vi a, vi c] M (Pu (signS a c) M) := by
  refine Ct.of (by decide) (Nat.le_of_ble_eq_true rfl) ?_
  show AW Γ uX8_sign 0 [(0, rf Γ 0), (1, vi a), (2, vi c)] [] M _
  refine AW.iload_n dX8_sign_0 1 rfl rfl ?_
  refine AW.callS1ip (C_isLetter Γ M _ ha) dX8_sign_1 mc_X8_78 (fun _ => rfl) ⟨Nat.le_of_ble_eq_true rfl, Nat.le_of_ble_eq_true rfl⟩ (Nat.le_of_ble_eq_true rfl) ?_
  refine AW.if_ne 9 dX8_sign_4 (by decide) (bI_r _) (fun c4 => ?_) (fun c4 => ?_)
  · have d4 := bI1.mp c4
    refine AW.iload_n dX8_sign_9 2 rfl rfl ?_
    rcases (show c = 0 ∨ c = 1 ∨ c = 2 ∨ (c < 0 ∨ 2 < c) by omega) with hc | hc | hc | hc
    · refine AW.tabIn 36 dX8_sign_10 hc0 (by omega) (by omega) (by rw [hc]; rfl) (by decide) ?_
      refine AW.getsL dX8_sign_36 gs_X8_82 ?_
      refine AW.iload_n dX8_sign_39 1 rfl rfl ?_
      refine AW.taldL dX8_sign_40 (by omega) (by omega) ?_
      exact AW.iret rfl dX8_sign_41 ⟨by unfold signS; rw [if_pos (by omega)]; first | rw [if_pos (by omega)] | rw [if_neg (by omega), if_pos (by omega)] | rw [if_neg (by omega), if_neg (by omega), if_pos (by omega)] | rw [if_neg (by omega), if_neg (by omega), if_neg (by omega)], rfl⟩
    · refine AW.tabIn 42 dX8_sign_10 hc0 (by omega) (by omega) (by rw [hc]; rfl) (by decide) ?_
      refine AW.getsG dX8_sign_42 gs_X8_86 ?_
      refine AW.iload_n dX8_sign_45 1 rfl rfl ?_
      refine AW.taldG dX8_sign_46 (by omega) (by omega) ?_
      exact AW.iret rfl dX8_sign_47 ⟨by unfold signS; rw [if_pos (by omega)]; first | rw [if_pos (by omega)] | rw [if_neg (by omega), if_pos (by omega)] | rw [if_neg (by omega), if_neg (by omega), if_pos (by omega)] | rw [if_neg (by omega), if_neg (by omega), if_neg (by omega)], rfl⟩
    · refine AW.tabIn 48 dX8_sign_10 hc0 (by omega) (by omega) (by rw [hc]; rfl) (by decide) ?_
      refine AW.iload_n dX8_sign_48 1 rfl rfl ?_
      refine AW.callS1ip (C_turnedLetter Γ M _ (by omega)) dX8_sign_49 mc_X8_89 (fun _ => rfl) ⟨Nat.le_of_ble_eq_true rfl, Nat.le_of_ble_eq_true rfl⟩ (Nat.le_of_ble_eq_true rfl) ?_
      exact AW.iret rfl dX8_sign_52 ⟨by unfold signS; rw [if_pos (by omega)]; first | rw [if_pos (by omega)] | rw [if_neg (by omega), if_pos (by omega)] | rw [if_neg (by omega), if_neg (by omega), if_pos (by omega)] | rw [if_neg (by omega), if_neg (by omega), if_neg (by omega)], rfl⟩
    · refine AW.tabOut 53 dX8_sign_10 hc0 hc (by decide) ?_
      refine AW.iconst dX8_sign_53 ?_
      exact AW.iret rfl dX8_sign_54 ⟨by unfold signS; rw [if_pos (by omega)]; first | rw [if_pos (by omega)] | rw [if_neg (by omega), if_pos (by omega)] | rw [if_neg (by omega), if_neg (by omega), if_pos (by omega)] | rw [if_neg (by omega), if_neg (by omega), if_neg (by omega)], rfl⟩
  · have d4 := bI0.mp c4
    refine AW.iconst dX8_sign_7 ?_
    exact AW.iret rfl dX8_sign_8 ⟨by unfold signS; rw [if_neg (by omega)], rfl⟩

set_option maxRecDepth 20000 in
theorem C_letter (Γ : GC) (M : Mm) (p q : Int) (ha : R32 p) (hc0 : R32 q) : Ct Γ uX8_letter [rf Γ 0, vi p, vi q] M (Pu (letterS p q) M) := by
  refine Ct.of (by decide) (Nat.le_of_ble_eq_true rfl) ?_
  show AW Γ uX8_letter 0 [(0, rf Γ 0), (1, vi p), (2, vi q)] [] M _
  refine AW.iload_n dX8_letter_0 1 rfl rfl ?_
  refine AW.i2l dX8_letter_1 (by omega) ?_
  refine AW.callS1ip (C_isDirection Γ M _ (by omega)) dX8_letter_2 mc_X8_93 (fun _ => rfl) ⟨Nat.le_of_ble_eq_true rfl, Nat.le_of_ble_eq_true rfl⟩ (Nat.le_of_ble_eq_true rfl) ?_
  refine AW.if_eq 24 dX8_letter_5 (by decide) (bI_r _) (fun c5 => ?_) (fun c5 => ?_)
  · have d5 := bI0.mp c5
    refine AW.iconst dX8_letter_24 ?_
    exact AW.iret rfl dX8_letter_25 ⟨by unfold letterS; first | rw [if_pos (by omega)] | rw [if_neg (by omega)], rfl⟩
  · have d5 := bI1.mp c5
    refine AW.iload_n dX8_letter_8 2 rfl rfl ?_
    refine AW.i2l dX8_letter_9 (by omega) ?_
    refine AW.callS1ip (C_isDirection Γ M _ (by omega)) dX8_letter_10 mc_X8_93 (fun _ => rfl) ⟨Nat.le_of_ble_eq_true rfl, Nat.le_of_ble_eq_true rfl⟩ (Nat.le_of_ble_eq_true rfl) ?_
    refine AW.if_eq 24 dX8_letter_13 (by decide) (bI_r _) (fun c13 => ?_) (fun c13 => ?_)
    · have d13 := bI0.mp c13
      refine AW.iconst dX8_letter_24 ?_
      exact AW.iret rfl dX8_letter_25 ⟨by unfold letterS; first | rw [if_pos (by omega)] | rw [if_neg (by omega)], rfl⟩
    · have d13 := bI1.mp c13
      refine AW.iload_n dX8_letter_16 1 rfl rfl ?_
      refine AW.iload_n dX8_letter_17 2 rfl rfl ?_
      refine AW.callS2ip (C_signOf Γ M _ _ (by constructor <;> omega) (by constructor <;> omega)) dX8_letter_18 mc_X8_97 (fun _ => rfl) ⟨Nat.le_of_ble_eq_true rfl, Nat.le_of_ble_eq_true rfl⟩ (Nat.le_of_ble_eq_true rfl) ?_
      refine AW.goto 25 dX8_letter_21 (by decide) ?_
      exact AW.iret rfl dX8_letter_25 ⟨by unfold letterS; first | rw [if_pos (by omega)] | rw [if_neg (by omega)], rfl⟩

set_option maxRecDepth 20000 in
theorem C_apart (Γ : GC) (M : Mm) (p q : Int) (ha : R32 p) (hc0 : R32 q) : Ct Γ uX8_apart [rf Γ 0, vi p, vi q] M (Pu (apartS p q) M) := by
  refine Ct.of (by decide) (Nat.le_of_ble_eq_true rfl) ?_
  show AW Γ uX8_apart 0 [(0, rf Γ 0), (1, vi p), (2, vi q)] [] M _
  refine AW.iload_n dX8_apart_0 1 rfl rfl ?_
  refine AW.callS1ip (C_isSign Γ M _ (by omega)) dX8_apart_1 mc_X8_101 (fun _ => rfl) ⟨Nat.le_of_ble_eq_true rfl, Nat.le_of_ble_eq_true rfl⟩ (Nat.le_of_ble_eq_true rfl) ?_
  refine AW.if_eq 14 dX8_apart_4 (by decide) (bI_r _) (fun c4 => ?_) (fun c4 => ?_)
  · have d4 := bI0.mp c4
    refine AW.iconst dX8_apart_14 ?_
    exact AW.iret rfl dX8_apart_15 ⟨by unfold apartS; first | rw [if_pos (by omega)] | rw [if_neg (by omega)], rfl⟩
  · have d4 := bI1.mp c4
    refine AW.iload_n dX8_apart_7 2 rfl rfl ?_
    refine AW.callS1ip (C_isSign Γ M _ (by omega)) dX8_apart_8 mc_X8_101 (fun _ => rfl) ⟨Nat.le_of_ble_eq_true rfl, Nat.le_of_ble_eq_true rfl⟩ (Nat.le_of_ble_eq_true rfl) ?_
    refine AW.if_ne 16 dX8_apart_11 (by decide) (bI_r _) (fun c11 => ?_) (fun c11 => ?_)
    · have d11 := bI1.mp c11
      refine AW.getsL dX8_apart_16 gs_X8_82 ?_
      refine AW.iload_n dX8_apart_19 1 rfl rfl ?_
      refine AW.taldL dX8_apart_20 (by omega) (by omega) ?_
      refine AW.getsG dX8_apart_21 gs_X8_86 ?_
      refine AW.iload_n dX8_apart_24 1 rfl rfl ?_
      refine AW.taldG dX8_apart_25 (by omega) (by omega) ?_
      refine AW.getsL dX8_apart_26 gs_X8_82 ?_
      refine AW.iload_n dX8_apart_29 2 rfl rfl ?_
      refine AW.taldL dX8_apart_30 (by omega) (by omega) ?_
      refine AW.getsG dX8_apart_31 gs_X8_86 ?_
      refine AW.iload_n dX8_apart_34 2 rfl rfl ?_
      refine AW.taldG dX8_apart_35 (by omega) (by omega) ?_
      refine AW.callS4ip (C_betw Γ M _ _ _ _ (tl_b _) (tg_b _) (tl_b _) (tg_b _)) dX8_apart_36 mc_X8_104 (fun _ => rfl) ⟨Nat.le_of_ble_eq_true rfl, Nat.le_of_ble_eq_true rfl⟩ (Nat.le_of_ble_eq_true rfl) ?_
      exact AW.iret rfl dX8_apart_39 ⟨by unfold apartS; first | rw [if_pos (by omega)] | rw [if_neg (by omega)], rfl⟩
    · have d11 := bI0.mp c11
      refine AW.iconst dX8_apart_14 ?_
      exact AW.iret rfl dX8_apart_15 ⟨by unfold apartS; first | rw [if_pos (by omega)] | rw [if_neg (by omega)], rfl⟩
