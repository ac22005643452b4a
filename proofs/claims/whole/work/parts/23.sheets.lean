/-! sheets -/
abbrev Pp (k : Nat) : Prop := sh k = (0, 1, [none, none, none, some (k + 1)]) ∧ sh (k + 1) = (2, 24, [])
theorem pp (s : Nat) (h : s < 4) : Pp (86 + 2 * s) := by
  rcases (show s = 0 ∨ s = 1 ∨ s = 2 ∨ s = 3 by omega) with rfl | rfl | rfl | rfl <;> exact ⟨rfl, rfl⟩
theorem pp_at (q : Nat) (h : q < 4) : ([some 86, some 88, some 90, some 92] : List (Option Nat))[q]? = some (some (86 + 2 * q)) := by
  rcases (show q = 0 ∨ q = 1 ∨ q = 2 ∨ q = 3 by omega) with rfl | rfl | rfl | rfl <;> rfl
def paRel (M : Mm) (L Z T : Nat → Int) (s : Nat) : Prop := (M (86 + 2 * s) 0 = 1 ∧ (0 ≤ L s ∧ L s ≤ 3) ∧ M (86 + 2 * s) 1 = L s ∧ M (86 + 2 * s) 2 = Z s ∧ (0 ≤ Z s ∧ Z s ≤ 24) ∧ ∀ j : Nat, (j : Int) < Z s → M (86 + 2 * s + 1) j = T (24 * s + j) ∧ R64 (T (24 * s + j))) ∨ (M (86 + 2 * s) 0 = 0 ∧ L s = -1)
def OkS (M : Mm) (L Z T : Nat → Int) : Prop := ∀ s : Nat, s < 4 → paRel M L Z T s
def refZ (L Z : Nat → Int) (s lane i n : Int) : Int := if (0 ≤ s ∧ s < 4) ∧ (0 ≤ lane ∧ lane < 4) then (if L s.toNat < 0 then -11 else if L s.toNat = lane then (if 0 ≤ i ∧ n ≤ Z s.toNat - i then 0 else -13) else -12) else -1
def copyZ (L Z : Nat → Int) (s i t j n : Int) : Int := if (0 ≤ s ∧ s < 4) ∧ (0 ≤ t ∧ t < 4) then (if L s.toNat < 0 ∨ L t.toNat < 0 then -11 else if L s.toNat = L t.toNat then (if (0 ≤ n ∧ 0 ≤ i ∧ 0 ≤ j) ∧ i + n ≤ Z s.toNat ∧ j + n ≤ Z t.toNat then n else -13) else -12) else -1
def sheetZ (s lane n : Int) : Int := if (0 ≤ s ∧ s < 4) ∧ (0 ≤ lane ∧ lane < 4) ∧ n ≤ 24 then (if 0 ≤ n then n else -14) else -1
def dropZ (L Z : Nat → Int) (s : Int) : Int := if 0 ≤ s ∧ s < 4 then (if L s.toNat < 0 then -11 else Z s.toNat) else -1
theorem lowP_r {lane v : Int} (hv : R64 v) : R64 (lowP lane v) := by
  unfold lowP
  have h1 := bmod_r8 v; have h2 := bmod_r16 v; have h3 := bmod_r32 v
  (repeat' split) <;> constructor <;> omega

def flFl (f : Nat → Int) (v : Int) (i : Nat) : Nat → Int := fun j => if j < i then v else f j
theorem flFl_step (f : Nat → Int) (v : Int) (i : Nat) : up1 (flFl f v i) i v = flFl f v (i + 1) := by
  funext j; simp only [up1, flFl]
  by_cases h : j = i
  · rw [if_pos h, if_pos (by omega)]
  · rw [if_neg h]
    by_cases h2 : j < i
    · rw [if_pos h2, if_pos (by omega)]
    · rw [if_neg h2, if_neg (by omega)]
theorem flFl_0 (M : Mm) (k : Nat) (v : Int) : M = upM M k (flFl (M k) v 0) := by
  rw [show flFl (M k) v 0 = M k from by funext j; simp [flFl], upM_id]
set_option maxRecDepth 20000 in
theorem filll_loop (Γ : GC) (M : Mm) (k m : Nat) (hs : sh k = (2, m, [])) (hm : m ≤ 1000) (v nn : Int) (hn : nn = m) (Q : Int → Mm → Prop) (hx : ∀ x : Int, x = 0 + (m : Nat) → AW Γ uJ7_fill_d0a16 22 [(3, vi x), (4, vi nn), (0, rf Γ k), (1, vl v)] [] (upM M k (flFl (M k) v m)) Q) : ∀ (n i : Nat) (x : Int), x = 0 + i → i ≤ m → m - i < n → AW Γ uJ7_fill_d0a16 6 [(3, vi x), (4, vi nn), (0, rf Γ k), (1, vl v)] [] (upM M k (flFl (M k) v i)) Q := by
  intro n
  induction n with
  | zero => intro i x g0 g1 gm; omega
  | succ n ih =>
    intro i x g0 g1 gm
    refine AW.iload_n dJ7_fill_d0a16_6 0 rfl rfl ?_
    refine AW.iload dJ7_fill_d0a16_7 1 rfl ?_
    refine AW.icmp_ge 22 dJ7_fill_d0a16_9 (by decide) (by omega) (by omega) (fun c9 => ?_) (fun c9 => ?_)
    · refine AW.sub [0, 1, 2, 3] rfl ?_
      rw [show i = m by omega]
      exact hx x (by omega)
    · refine AW.aload_n dJ7_fill_d0a16_12 2 rfl rfl ?_
      refine AW.iload_n dJ7_fill_d0a16_13 0 rfl rfl ?_
      refine AW.lload_n dJ7_fill_d0a16_14 3 rfl rfl ?_
      refine AW.lastN i dJ7_fill_d0a16_15 hs (by omega) (by omega) (by omega) ?_
      obtain ⟨x16, ex16⟩ : ∃ z : Int, x + 1 = z := ⟨_, rfl⟩
      refine AW.iinc [(3, vi x16), (4, vi nn), (0, rf Γ k), (1, vl v)] dJ7_fill_d0a16_16 0 rfl (by decide) x16 ex16 rfl ?_
      refine AW.goto 6 dJ7_fill_d0a16_19 (by decide) ?_
      refine AW.sub [0, 1, 2, 3] rfl ?_
      refine AW.toM (show _ = (upM M k (flFl (M k) v (i + 1))) from ?_) (ih (i + 1) x16 (by omega) (by omega) (by omega))
      rw [upM_up2, flFl_step]

set_option maxRecDepth 20000 in
theorem C_filll (Γ : GC) (M : Mm) (k m : Nat) (hs : sh k = (2, m, [])) (hm : m ≤ 1000) (v : Int) : Ct Γ uJ7_fill_d0a16 [rf Γ k, vl v] M (fun _ M' => M' = upM M k (flFl (M k) v m)) := by
  refine Ct.of (by decide) (Nat.le_of_ble_eq_true rfl) ?_
  show AW Γ uJ7_fill_d0a16 0 [(0, rf Γ k), (1, vl v)] [] M _
  refine AW.iconst dJ7_fill_d0a16_0 ?_
  refine AW.top (fun x1 ex1 => ?_)
  refine AW.istore_n [(3, vi x1), (0, rf Γ k), (1, vl v)] dJ7_fill_d0a16_1 rfl (by decide) rfl ?_
  refine AW.aload_n dJ7_fill_d0a16_2 1 rfl rfl ?_
  refine AW.llen dJ7_fill_d0a16_3 hs ?_
  refine AW.top (fun x4 ex4 => ?_)
  refine AW.istore [(4, vi x4), (3, vi x1), (0, rf Γ k), (1, vl v)] dJ7_fill_d0a16_4 (by decide) rfl ?_
  refine AW.sub [1, 0, 2, 3] rfl ?_
  refine AW.toM (flFl_0 M k v) (filll_loop Γ M k m hs hm v x4 (by omega) _ (fun x hx => ?_) (m + 1) 0 x1 (by omega) (by omega) (by omega))
  exact AW.vret rfl dJ7_fill_d0a16_22 rfl

def flFi (f : Nat → Int) (v : Int) (i : Nat) : Nat → Int := fun j => if j < i then v else f j
theorem flFi_step (f : Nat → Int) (v : Int) (i : Nat) : up1 (flFi f v i) i v = flFi f v (i + 1) := by
  funext j; simp only [up1, flFi]
  by_cases h : j = i
  · rw [if_pos h, if_pos (by omega)]
  · rw [if_neg h]
    by_cases h2 : j < i
    · rw [if_pos h2, if_pos (by omega)]
    · rw [if_neg h2, if_neg (by omega)]
theorem flFi_0 (M : Mm) (k : Nat) (v : Int) : M = upM M k (flFi (M k) v 0) := by
  rw [show flFi (M k) v 0 = M k from by funext j; simp [flFi], upM_id]
set_option maxRecDepth 20000 in
theorem filli_loop (Γ : GC) (M : Mm) (k m : Nat) (hs : sh k = (1, m, [])) (hm : m ≤ 1000) (v nn : Int) (hn : nn = m) (Q : Int → Mm → Prop) (hx : ∀ x : Int, x = 0 + (m : Nat) → AW Γ uJ7_fill_53178 20 [(2, vi x), (3, vi nn), (0, rf Γ k), (1, vi v)] [] (upM M k (flFi (M k) v m)) Q) : ∀ (n i : Nat) (x : Int), x = 0 + i → i ≤ m → m - i < n → AW Γ uJ7_fill_53178 5 [(2, vi x), (3, vi nn), (0, rf Γ k), (1, vi v)] [] (upM M k (flFi (M k) v i)) Q := by
  intro n
  induction n with
  | zero => intro i x g0 g1 gm; omega
  | succ n ih =>
    intro i x g0 g1 gm
    refine AW.iload_n dJ7_fill_53178_5 0 rfl rfl ?_
    refine AW.iload_n dJ7_fill_53178_6 1 rfl rfl ?_
    refine AW.icmp_ge 20 dJ7_fill_53178_7 (by decide) (by omega) (by omega) (fun c7 => ?_) (fun c7 => ?_)
    · refine AW.sub [0, 1, 2, 3] rfl ?_
      rw [show i = m by omega]
      exact hx x (by omega)
    · refine AW.aload_n dJ7_fill_53178_10 2 rfl rfl ?_
      refine AW.iload_n dJ7_fill_53178_11 0 rfl rfl ?_
      refine AW.iload_n dJ7_fill_53178_12 3 rfl rfl ?_
      refine AW.iastN i dJ7_fill_53178_13 hs (by omega) (by omega) (by omega) ?_
      obtain ⟨x14, ex14⟩ : ∃ z : Int, x + 1 = z := ⟨_, rfl⟩
      refine AW.iinc [(2, vi x14), (3, vi nn), (0, rf Γ k), (1, vi v)] dJ7_fill_53178_14 0 rfl (by decide) x14 ex14 rfl ?_
      refine AW.goto 5 dJ7_fill_53178_17 (by decide) ?_
      refine AW.sub [0, 1, 2, 3] rfl ?_
      refine AW.toM (show _ = (upM M k (flFi (M k) v (i + 1))) from ?_) (ih (i + 1) x14 (by omega) (by omega) (by omega))
      rw [upM_up2, flFi_step]

set_option maxRecDepth 20000 in
theorem C_filli (Γ : GC) (M : Mm) (k m : Nat) (hs : sh k = (1, m, [])) (hm : m ≤ 1000) (v : Int) : Ct Γ uJ7_fill_53178 [rf Γ k, vi v] M (fun _ M' => M' = upM M k (flFi (M k) v m)) := by
  refine Ct.of (by decide) (Nat.le_of_ble_eq_true rfl) ?_
  show AW Γ uJ7_fill_53178 0 [(0, rf Γ k), (1, vi v)] [] M _
  refine AW.iconst dJ7_fill_53178_0 ?_
  refine AW.top (fun x1 ex1 => ?_)
  refine AW.istore_n [(2, vi x1), (0, rf Γ k), (1, vi v)] dJ7_fill_53178_1 rfl (by decide) rfl ?_
  refine AW.aload_n dJ7_fill_53178_2 1 rfl rfl ?_
  refine AW.ilen dJ7_fill_53178_3 hs ?_
  refine AW.top (fun x4 ex4 => ?_)
  refine AW.istore_n [(3, vi x4), (2, vi x1), (0, rf Γ k), (1, vi v)] dJ7_fill_53178_4 rfl (by decide) rfl ?_
  refine AW.sub [1, 0, 2, 3] rfl ?_
  refine AW.toM (flFi_0 M k v) (filli_loop Γ M k m hs hm v x4 (by omega) _ (fun x hx => ?_) (m + 1) 0 x1 (by omega) (by omega) (by omega))
  exact AW.vret rfl dJ7_fill_53178_20 rfl

set_option maxRecDepth 20000 in
theorem C_begin (Γ : GC) (M : Mm) (k : Nat) (hk : Pp k) (a n : Int) : Ct Γ uX1_begin [rf Γ k, vi a, vi n] M (fun _ M' => M' = upM (up2 (up2 (up2 M k 0 1) k 1 a) k 2 n) (k + 1) (flFl ((up2 (up2 (up2 M k 0 1) k 1 a) k 2 n) (k + 1)) 0 24)) := by
  refine Ct.of (by decide) (Nat.le_of_ble_eq_true rfl) ?_
  show AW Γ uX1_begin 0 [(0, rf Γ k), (1, vi a), (2, vi n)] [] M _
  refine AW.aload_n dX1_begin_0 0 rfl rfl ?_
  refine AW.iconst dX1_begin_1 ?_
  refine AW.putZ dX1_begin_2 fp_X1_9 hk.1 rfl (Or.inr rfl) ?_
  refine AW.aload_n dX1_begin_5 0 rfl rfl ?_
  refine AW.iload_n dX1_begin_6 1 rfl rfl ?_
  refine AW.putI dX1_begin_7 fp_X1_15 hk.1 rfl ?_
  refine AW.aload_n dX1_begin_10 0 rfl rfl ?_
  refine AW.iload_n dX1_begin_11 2 rfl rfl ?_
  refine AW.putI dX1_begin_12 fp_X1_19 hk.1 rfl ?_
  refine AW.aload_n dX1_begin_15 0 rfl rfl ?_
  refine AW.getR dX1_begin_16 fl_X1_22 hk.1 rfl ?_
  refine AW.lconst (z := (0)) dX1_begin_19 rfl ?_
  refine AW.callS2v (C_filll Γ _ _ 24 hk.2 (by decide) 0) dX1_begin_20 mc_X1_26 (fun _ => rfl) ⟨Nat.le_of_ble_eq_true rfl, Nat.le_of_ble_eq_true rfl⟩ (Nat.le_of_ble_eq_true rfl) (fun z20 M20 h20 => ?_)
  exact AW.vret rfl dX1_begin_23 (h20.trans rfl)

set_option maxRecDepth 20000 in
theorem C_has (Γ : GC) (M : Mm) (k : Nat) (hk : Pp k) (i n : Int) (hi : R32 i) (hn : R32 n) (hz : 0 ≤ M k 2 ∧ M k 2 ≤ 24) : Ct Γ uX1_has [rf Γ k, vi i, vi n] M (Pu (bI (decide (0 ≤ n ∧ 0 ≤ i ∧ i + n ≤ M k 2))) M) := by
  refine Ct.of (by decide) (Nat.le_of_ble_eq_true rfl) ?_
  show AW Γ uX1_has 0 [(0, rf Γ k), (1, vi i), (2, vi n)] [] M _
  refine AW.iload_n dX1_has_0 2 rfl rfl ?_
  refine AW.if_lt 30 dX1_has_1 (by decide) (by omega) (fun c1 => ?_) (fun c1 => ?_)
  · refine AW.iconst dX1_has_30 ?_
    exact AW.zret rfl dX1_has_31 (by omega) ⟨by simp only [bI, decide_eq_true_eq]; split <;> omega, rfl⟩
  · refine AW.iload_n dX1_has_4 1 rfl rfl ?_
    refine AW.if_lt 30 dX1_has_5 (by decide) (by omega) (fun c5 => ?_) (fun c5 => ?_)
    · refine AW.iconst dX1_has_30 ?_
      exact AW.zret rfl dX1_has_31 (by omega) ⟨by simp only [bI, decide_eq_true_eq]; split <;> omega, rfl⟩
    · refine AW.iload_n dX1_has_8 1 rfl rfl ?_
      refine AW.aload_n dX1_has_9 0 rfl rfl ?_
      refine AW.getI dX1_has_10 fl_X1_19 hk.1 rfl ?_
      refine AW.icmp_gt 30 dX1_has_13 (by decide) (by omega) (by omega) (fun c13 => ?_) (fun c13 => ?_)
      · refine AW.iconst dX1_has_30 ?_
        exact AW.zret rfl dX1_has_31 (by omega) ⟨by simp only [bI, decide_eq_true_eq]; split <;> omega, rfl⟩
      · refine AW.iload_n dX1_has_16 2 rfl rfl ?_
        refine AW.aload_n dX1_has_17 0 rfl rfl ?_
        refine AW.getI dX1_has_18 fl_X1_19 hk.1 rfl ?_
        refine AW.iload_n dX1_has_21 1 rfl rfl ?_
        refine AW.isub dX1_has_22 ?_
        refine AW.icmp_gt 30 dX1_has_23 (by decide) (by omega) (by omega) (fun c23 => ?_) (fun c23 => ?_)
        · refine AW.iconst dX1_has_30 ?_
          exact AW.zret rfl dX1_has_31 (by omega) ⟨by simp only [bI, decide_eq_true_eq]; split <;> omega, rfl⟩
        · refine AW.iconst dX1_has_26 ?_
          refine AW.goto 31 dX1_has_27 (by decide) ?_
          exact AW.zret rfl dX1_has_31 (by omega) ⟨by simp only [bI, decide_eq_true_eq]; split <;> omega, rfl⟩

set_option maxRecDepth 20000 in
theorem C_refusal (Γ : GC) (M : Mm) (L Z T : Nat → Int) (ho : OkS M L Z T) (s lane i n : Int) (hs : R32 s) (hl : R32 lane) (hi : R32 i) (hn : 0 ≤ n ∧ n ≤ 24) : Ct Γ uX8_refusal [rf Γ 0, vi s, vi lane, vi i, vi n] M (Pu (refZ L Z s lane i n) M) := by
  refine Ct.of (by decide) (Nat.le_of_ble_eq_true rfl) ?_
  show AW Γ uX8_refusal 0 [(0, rf Γ 0), (1, vi s), (2, vi lane), (3, vi i), (4, vi n)] [] M _
  refine AW.iload_n dX8_refusal_0 1 rfl rfl ?_
  refine AW.callS1ip (C_isSheet Γ M _ hs) dX8_refusal_1 mc_X8_262 (fun _ => rfl) ⟨Nat.le_of_ble_eq_true rfl, Nat.le_of_ble_eq_true rfl⟩ (Nat.le_of_ble_eq_true rfl) ?_
  refine AW.if_eq 14 dX8_refusal_4 (by decide) (bI_r _) (fun c4 => ?_) (fun c4 => ?_)
  · have d4 := bI0.mp c4
    refine AW.iconst dX8_refusal_14 ?_
    exact AW.iret rfl dX8_refusal_15 ⟨by unfold refZ; rw [if_neg (by omega)], rfl⟩
  · have d4 := bI1.mp c4
    refine AW.iload_n dX8_refusal_7 2 rfl rfl ?_
    refine AW.callS1ip (C_isLane Γ M _ hl) dX8_refusal_8 mc_X8_265 (fun _ => rfl) ⟨Nat.le_of_ble_eq_true rfl, Nat.le_of_ble_eq_true rfl⟩ (Nat.le_of_ble_eq_true rfl) ?_
    refine AW.if_ne 16 dX8_refusal_11 (by decide) (bI_r _) (fun c11 => ?_) (fun c11 => ?_)
    · have d11 := bI1.mp c11
      have hr := ho s.toNat (by omega)
      unfold paRel at hr
      refine AW.aload_n dX8_refusal_16 0 rfl rfl ?_
      refine AW.getR dX8_refusal_17 fl_X8_73 (show sh 0 = (0, 8, [some 1, some 5, some 31, some 35, none, some 61, some 65, some 71, some 76, some 79, some 83, some 85]) from rfl) rfl ?_
      refine AW.iload_n dX8_refusal_20 1 rfl rfl ?_
      refine AW.aald3 (r := 86 + 2 * s.toNat) dX8_refusal_21 (show sh 85 = (3, 3, [some 86, some 88, some 90, some 92]) from rfl) (by omega) (by simp; omega) (Nat.le_of_ble_eq_true rfl) (pp_at s.toNat (by omega)) ?_
      refine AW.getI dX8_refusal_22 fl_X8_272 (pp s.toNat (by omega)).1 rfl ?_
      refine AW.if_ne 31 dX8_refusal_25 (by decide) (by omega) (fun c25 => ?_) (fun c25 => ?_)
      · refine AW.aload_n dX8_refusal_31 0 rfl rfl ?_
        refine AW.getR dX8_refusal_32 fl_X8_73 (show sh 0 = (0, 8, [some 1, some 5, some 31, some 35, none, some 61, some 65, some 71, some 76, some 79, some 83, some 85]) from rfl) rfl ?_
        refine AW.iload_n dX8_refusal_35 1 rfl rfl ?_
        refine AW.aald3 (r := 86 + 2 * s.toNat) dX8_refusal_36 (show sh 85 = (3, 3, [some 86, some 88, some 90, some 92]) from rfl) (by omega) (by simp; omega) (Nat.le_of_ble_eq_true rfl) (pp_at s.toNat (by omega)) ?_
        refine AW.getI dX8_refusal_37 fl_X8_280 (pp s.toNat (by omega)).1 rfl ?_
        refine AW.iload_n dX8_refusal_40 2 rfl rfl ?_
        refine AW.icmp_eq 47 dX8_refusal_41 (by decide) (by omega) (by omega) (fun c41 => ?_) (fun c41 => ?_)
        · refine AW.aload_n dX8_refusal_47 0 rfl rfl ?_
          refine AW.getR dX8_refusal_48 fl_X8_73 (show sh 0 = (0, 8, [some 1, some 5, some 31, some 35, none, some 61, some 65, some 71, some 76, some 79, some 83, some 85]) from rfl) rfl ?_
          refine AW.iload_n dX8_refusal_51 1 rfl rfl ?_
          refine AW.aald3 (r := 86 + 2 * s.toNat) dX8_refusal_52 (show sh 85 = (3, 3, [some 86, some 88, some 90, some 92]) from rfl) (by omega) (by simp; omega) (Nat.le_of_ble_eq_true rfl) (pp_at s.toNat (by omega)) ?_
          refine AW.iload_n dX8_refusal_53 3 rfl rfl ?_
          refine AW.iload dX8_refusal_54 4 rfl ?_
          refine AW.callV2ip (C_has Γ M _ (pp s.toNat (by omega)) _ _ hi (by omega) (by omega)) dX8_refusal_56 mc_X8_283 (pp s.toNat (by omega)).1 (fun _ => rfl) ⟨Nat.le_of_ble_eq_true rfl, Nat.le_of_ble_eq_true rfl⟩ (Nat.le_of_ble_eq_true rfl) ?_
          refine AW.if_eq 66 dX8_refusal_59 (by decide) (bI_r _) (fun c59 => ?_) (fun c59 => ?_)
          · have d59 := bI0.mp c59
            refine AW.bipush (z := (-13)) dX8_refusal_66 (by decide) ?_
            exact AW.iret rfl dX8_refusal_68 ⟨by unfold refZ; rw [if_pos (by omega), if_neg (by omega), if_pos (by omega)]; first | (rw [if_pos (by omega)]; done) | (rw [if_neg (by omega)]; done), rfl⟩
          · have d59 := bI1.mp c59
            refine AW.iconst dX8_refusal_62 ?_
            refine AW.goto 68 dX8_refusal_63 (by decide) ?_
            exact AW.iret rfl dX8_refusal_68 ⟨by unfold refZ; rw [if_pos (by omega), if_neg (by omega), if_pos (by omega)]; first | (rw [if_pos (by omega)]; done) | (rw [if_neg (by omega)]; done), rfl⟩
        · refine AW.bipush (z := (-12)) dX8_refusal_44 (by decide) ?_
          exact AW.iret rfl dX8_refusal_46 ⟨by unfold refZ; rw [if_pos (by omega), if_neg (by omega), if_neg (by omega)], rfl⟩
      · refine AW.bipush (z := (-11)) dX8_refusal_28 (by decide) ?_
        exact AW.iret rfl dX8_refusal_30 ⟨by unfold refZ; rw [if_pos (by omega), if_pos (by omega)], rfl⟩
    · have d11 := bI0.mp c11
      refine AW.iconst dX8_refusal_14 ?_
      exact AW.iret rfl dX8_refusal_15 ⟨by unfold refZ; rw [if_neg (by omega)], rfl⟩

set_option maxRecDepth 20000 in
theorem C9_isSheet (Γ : GC) (M : Mm) (a : Int) (ha : R32 a) : Ct Γ uX9_isSheet [vi a] M (Pu (bI (decide (0 ≤ a ∧ a < 4))) M) := by
  refine Ct.of (by decide) (Nat.le_of_ble_eq_true rfl) ?_
  show AW Γ uX9_isSheet 0 [(0, vi a)] [] M _
  refine AW.iload_n dX9_isSheet_0 0 rfl rfl ?_
  refine AW.i2l dX9_isSheet_1 (by omega) ?_
  refine AW.lconst (z := (0)) dX9_isSheet_2 rfl ?_
  refine AW.ldc2 (z := 3) dX9_isSheet_3 kl_X9_158 (by decide +kernel) ?_
  refine AW.callS3ip (C9_in Γ M _ _ _ (by omega) (by decide) (by decide)) dX9_isSheet_6 mc_X9_76 (fun _ => rfl) ⟨Nat.le_of_ble_eq_true rfl, Nat.le_of_ble_eq_true rfl⟩ (Nat.le_of_ble_eq_true rfl) ?_
  exact AW.zret rfl dX9_isSheet_9 (bI_01 _) ⟨by simp only [bI, decide_eq_true_eq]; split <;> split <;> omega, rfl⟩

set_option maxRecDepth 20000 in
theorem C9_cut (Γ : GC) (M : Mm) (v lane : Int) (hl : R32 lane) : Ct Γ uX9_cut [vl v, vi lane] M (Pu (lowP lane v) M) := by
  refine Ct.of (by decide) (Nat.le_of_ble_eq_true rfl) ?_
  show AW Γ uX9_cut 0 [(0, vl v), (2, vi lane)] [] M _
  refine AW.iload_n dX9_cut_0 1 rfl rfl ?_
  refine AW.if_ne 11 dX9_cut_1 (by decide) (by omega) (fun c1 => ?_) (fun c1 => ?_)
  · refine AW.iload_n dX9_cut_11 1 rfl rfl ?_
    refine AW.iconst dX9_cut_12 ?_
    refine AW.icmp_ne 23 dX9_cut_13 (by decide) (by omega) (by omega) (fun c13 => ?_) (fun c13 => ?_)
    · refine AW.iload_n dX9_cut_23 1 rfl rfl ?_
      refine AW.iconst dX9_cut_24 ?_
      refine AW.icmp_ne 34 dX9_cut_25 (by decide) (by omega) (by omega) (fun c25 => ?_) (fun c25 => ?_)
      · refine AW.lload_n dX9_cut_34 0 rfl rfl ?_
        exact AW.lret rfl dX9_cut_35 ⟨by unfold lowP; first | (rw [if_pos (by omega)]; done) | (rw [if_neg (by omega), if_pos (by omega)]; done) | (rw [if_neg (by omega), if_neg (by omega), if_pos (by omega)]; done) | (rw [if_neg (by omega), if_neg (by omega), if_neg (by omega)]; done), rfl⟩
      · refine AW.lload_n dX9_cut_28 0 rfl rfl ?_
        refine AW.l2i dX9_cut_29 ?_
        refine AW.nrm ?_
        refine AW.i2l dX9_cut_30 (bmod_r32 v) ?_
        refine AW.goto 35 dX9_cut_31 (by decide) ?_
        exact AW.lret rfl dX9_cut_35 ⟨by unfold lowP; first | (rw [if_pos (by omega)]; done) | (rw [if_neg (by omega), if_pos (by omega)]; done) | (rw [if_neg (by omega), if_neg (by omega), if_pos (by omega)]; done) | (rw [if_neg (by omega), if_neg (by omega), if_neg (by omega)]; done), rfl⟩
    · refine AW.lload_n dX9_cut_16 0 rfl rfl ?_
      refine AW.l2i dX9_cut_17 ?_
      refine AW.i2s dX9_cut_18 ?_
      refine AW.i2l dX9_cut_19 (by have := bmod_r16 v; omega) ?_
      refine AW.goto 35 dX9_cut_20 (by decide) ?_
      exact AW.lret rfl dX9_cut_35 ⟨by unfold lowP; first | (rw [if_pos (by omega)]; done) | (rw [if_neg (by omega), if_pos (by omega)]; done) | (rw [if_neg (by omega), if_neg (by omega), if_pos (by omega)]; done) | (rw [if_neg (by omega), if_neg (by omega), if_neg (by omega)]; done), rfl⟩
  · refine AW.lload_n dX9_cut_4 0 rfl rfl ?_
    refine AW.l2i dX9_cut_5 ?_
    refine AW.i2b dX9_cut_6 ?_
    refine AW.i2l dX9_cut_7 (by have := bmod_r8 v; omega) ?_
    refine AW.goto 35 dX9_cut_8 (by decide) ?_
    exact AW.lret rfl dX9_cut_35 ⟨by unfold lowP; first | (rw [if_pos (by omega)]; done) | (rw [if_neg (by omega), if_pos (by omega)]; done) | (rw [if_neg (by omega), if_neg (by omega), if_pos (by omega)]; done) | (rw [if_neg (by omega), if_neg (by omega), if_neg (by omega)]; done), rfl⟩

def OkG (L Z : Nat → Int) : Prop := ∀ s : Nat, s < 4 → (-1 ≤ L s ∧ L s ≤ 3) ∧ (0 ≤ Z s ∧ Z s ≤ 24)
set_option maxRecDepth 20000 in
theorem C9_why (Γ : GC) (M : Mm) (hg : OkG (M 105) (M 106)) (s lane i n : Int) (hs : 0 ≤ s ∧ s < 4) (hl : 0 ≤ lane ∧ lane < 4) (hi : R32 i) (hn : 0 ≤ n ∧ n ≤ 24) : Ct Γ uX9_why [rf Γ 94, vi s, vi lane, vi i, vi n] M (Pu (refZ (M 105) (M 106) s lane i n) M) := by
  refine Ct.of (by decide) (Nat.le_of_ble_eq_true rfl) ?_
  show AW Γ uX9_why 0 [(0, rf Γ 94), (1, vi s), (2, vi lane), (3, vi i), (4, vi n)] [] M _
  have hq := hg s.toNat (by omega)
  refine AW.aload_n dX9_why_0 0 rfl rfl ?_
  refine AW.getR dX9_why_1 fl_X9_44 (show sh 94 = (0, 9, [some 95, some 96, some 97, none, none, none, some 98, some 99, some 100, none, none, none, none, some 101, none, none, none, some 102, none, some 103, some 104, none, some 105, some 106, some 107, some 108]) from rfl) rfl ?_
  refine AW.iload_n dX9_why_4 1 rfl rfl ?_
  refine AW.ialdN (s.toNat) dX9_why_5 (show sh 105 = (1, 4, []) from rfl) (by omega) (by omega) (by decide) ?_
  refine AW.if_ge 12 dX9_why_6 (by decide) (by omega) (fun c6 => ?_) (fun c6 => ?_)
  · refine AW.aload_n dX9_why_12 0 rfl rfl ?_
    refine AW.getR dX9_why_13 fl_X9_44 (show sh 94 = (0, 9, [some 95, some 96, some 97, none, none, none, some 98, some 99, some 100, none, none, none, none, some 101, none, none, none, some 102, none, some 103, some 104, none, some 105, some 106, some 107, some 108]) from rfl) rfl ?_
    refine AW.iload_n dX9_why_16 1 rfl rfl ?_
    refine AW.ialdN (s.toNat) dX9_why_17 (show sh 105 = (1, 4, []) from rfl) (by omega) (by omega) (by decide) ?_
    refine AW.iload_n dX9_why_18 2 rfl rfl ?_
    refine AW.icmp_eq 25 dX9_why_19 (by decide) (by omega) (by omega) (fun c19 => ?_) (fun c19 => ?_)
    · refine AW.iload_n dX9_why_25 3 rfl rfl ?_
      refine AW.if_lt 42 dX9_why_26 (by decide) (by omega) (fun c26 => ?_) (fun c26 => ?_)
      · refine AW.bipush (z := (-13)) dX9_why_42 (by decide) ?_
        refine AW.goto 48 dX9_why_44 (by decide) ?_
        exact AW.iret rfl dX9_why_48 ⟨by unfold refZ; rw [if_pos (by omega), if_neg (by omega), if_pos (by omega)]; first | (rw [if_pos (by omega)]; done) | (rw [if_neg (by omega)]; done), rfl⟩
      · refine AW.iload dX9_why_29 4 rfl ?_
        refine AW.aload_n dX9_why_31 0 rfl rfl ?_
        refine AW.getR dX9_why_32 fl_X9_47 (show sh 94 = (0, 9, [some 95, some 96, some 97, none, none, none, some 98, some 99, some 100, none, none, none, none, some 101, none, none, none, some 102, none, some 103, some 104, none, some 105, some 106, some 107, some 108]) from rfl) rfl ?_
        refine AW.iload_n dX9_why_35 1 rfl rfl ?_
        refine AW.ialdN (s.toNat) dX9_why_36 (show sh 106 = (1, 4, []) from rfl) (by omega) (by omega) (by decide) ?_
        refine AW.iload_n dX9_why_37 3 rfl rfl ?_
        refine AW.isub dX9_why_38 ?_
        refine AW.icmp_le 47 dX9_why_39 (by decide) (by omega) (by omega) (fun c39 => ?_) (fun c39 => ?_)
        · refine AW.iconst dX9_why_47 ?_
          exact AW.iret rfl dX9_why_48 ⟨by unfold refZ; rw [if_pos (by omega), if_neg (by omega), if_pos (by omega)]; first | (rw [if_pos (by omega)]; done) | (rw [if_neg (by omega)]; done), rfl⟩
        · refine AW.bipush (z := (-13)) dX9_why_42 (by decide) ?_
          refine AW.goto 48 dX9_why_44 (by decide) ?_
          exact AW.iret rfl dX9_why_48 ⟨by unfold refZ; rw [if_pos (by omega), if_neg (by omega), if_pos (by omega)]; first | (rw [if_pos (by omega)]; done) | (rw [if_neg (by omega)]; done), rfl⟩
    · refine AW.bipush (z := (-12)) dX9_why_22 (by decide) ?_
      exact AW.iret rfl dX9_why_24 ⟨by unfold refZ; rw [if_pos (by omega), if_neg (by omega), if_neg (by omega)], rfl⟩
  · refine AW.bipush (z := (-11)) dX9_why_9 (by decide) ?_
    exact AW.iret rfl dX9_why_11 ⟨by unfold refZ; rw [if_pos (by omega), if_pos (by omega)], rfl⟩

theorem refZ_r {L Z : Nat → Int} {s lane i n : Int} : R32 (refZ L Z s lane i n) := by unfold refZ; (repeat' split) <;> constructor <;> omega
theorem refZ_0 {L Z : Nat → Int} {s lane i n : Int} (h : 0 ≤ refZ L Z s lane i n) : (0 ≤ s ∧ s < 4) ∧ (0 ≤ lane ∧ lane < 4) ∧ 0 ≤ L s.toNat ∧ L s.toNat = lane ∧ 0 ≤ i ∧ n ≤ Z s.toNat - i := by
  unfold refZ at h; revert h; (repeat' split) <;> intro h <;> first | omega | (exfalso; omega)

set_option maxRecDepth 20000 in
theorem C_item (Γ : GC) (M : Mm) (L Z T : Nat → Int) (ho : OkS M L Z T) (s lane i v : Int) (hs : R32 s) (hl : R32 lane) (hi : R32 i) : Ct Γ uX8_item [rf Γ 0, vi s, vi lane, vi i, vl v] M (fun z M' => z = (if 0 ≤ refZ L Z s lane i 1 then 1 else refZ L Z s lane i 1) ∧ M' = if 0 ≤ refZ L Z s lane i 1 then up2 M (86 + 2 * s.toNat + 1) i.toNat (lowP lane v) else M) := by
  refine Ct.of (by decide) (Nat.le_of_ble_eq_true rfl) ?_
  show AW Γ uX8_item 0 [(0, rf Γ 0), (1, vi s), (2, vi lane), (3, vi i), (4, vl v)] [] M _
  refine AW.aload_n dX8_item_0 0 rfl rfl ?_
  refine AW.iload_n dX8_item_1 1 rfl rfl ?_
  refine AW.iload_n dX8_item_2 2 rfl rfl ?_
  refine AW.iload_n dX8_item_3 3 rfl rfl ?_
  refine AW.iconst dX8_item_4 ?_
  refine AW.callV4ip (C_refusal Γ M L Z T ho s lane i 1 hs hl hi (by omega)) dX8_item_5 mc_X8_251 (show sh 0 = (0, 8, [some 1, some 5, some 31, some 35, none, some 61, some 65, some 71, some 76, some 79, some 83, some 85]) from rfl) (fun _ => rfl) ⟨Nat.le_of_ble_eq_true rfl, Nat.le_of_ble_eq_true rfl⟩ (Nat.le_of_ble_eq_true rfl) ?_
  refine AW.top (fun rf0 erf0 => ?_)
  refine AW.istore [(6, vi rf0), (0, rf Γ 0), (1, vi s), (2, vi lane), (3, vi i), (4, vl v)] dX8_item_8 (by decide) rfl ?_
  refine AW.iload dX8_item_10 0 rfl ?_
  refine AW.if_ge 18 dX8_item_12 (by decide) (by rw [erf0]; exact refZ_r) (fun c12 => ?_) (fun c12 => ?_)
  · have hz := refZ_0 (show 0 ≤ refZ L Z s lane i 1 by omega)
    have hz2 := ho s.toNat (by omega)
    unfold paRel at hz2
    refine AW.aload_n dX8_item_18 1 rfl rfl ?_
    refine AW.getR dX8_item_19 fl_X8_73 (show sh 0 = (0, 8, [some 1, some 5, some 31, some 35, none, some 61, some 65, some 71, some 76, some 79, some 83, some 85]) from rfl) rfl ?_
    refine AW.iload_n dX8_item_22 2 rfl rfl ?_
    refine AW.aald3 (r := 86 + 2 * s.toNat) dX8_item_23 (show sh 85 = (3, 3, [some 86, some 88, some 90, some 92]) from rfl) (by omega) (by simp; omega) (Nat.le_of_ble_eq_true rfl) (pp_at s.toNat (by omega)) ?_
    refine AW.getR dX8_item_24 fl_X8_258 (pp s.toNat (by omega)).1 rfl ?_
    refine AW.iload_n dX8_item_27 4 rfl rfl ?_
    refine AW.iload_n dX8_item_28 3 rfl rfl ?_
    refine AW.lload dX8_item_29 5 rfl ?_
    refine AW.callS2lp (C_lowestBits Γ M _ _ hl) dX8_item_31 mc_X8_276 (fun _ => rfl) ⟨Nat.le_of_ble_eq_true rfl, Nat.le_of_ble_eq_true rfl⟩ (Nat.le_of_ble_eq_true rfl) ?_
    refine AW.lastN (i.toNat) dX8_item_34 (pp s.toNat (by omega)).2 (by omega) (by omega) (by decide) ?_
    refine AW.iconst dX8_item_35 ?_
    exact AW.iret rfl dX8_item_36 ⟨by rw [if_pos (by omega)], by rw [if_pos (by omega)]⟩
  · refine AW.iload dX8_item_15 0 rfl ?_
    exact AW.iret rfl dX8_item_17 ⟨by rw [if_neg (by omega)]; exact erf0, by rw [if_neg (by omega)]⟩

set_option maxRecDepth 20000 in
theorem C9_item (Γ : GC) (M : Mm) (hg : OkG (M 105) (M 106)) (s lane i v : Int) (hs : R32 s) (hl : R32 lane) (hi : R32 i) : Ct Γ uX9_item [rf Γ 94, vi s, vi lane, vi i, vl v] M (fun z M' => z = (if 0 ≤ refZ (M 105) (M 106) s lane i 1 then 1 else refZ (M 105) (M 106) s lane i 1) ∧ M' = if 0 ≤ refZ (M 105) (M 106) s lane i 1 then up2 M 107 (24 * s.toNat + i.toNat) (lowP lane v) else M) := by
  refine Ct.of (by decide) (Nat.le_of_ble_eq_true rfl) ?_
  show AW Γ uX9_item 0 [(0, rf Γ 94), (1, vi s), (2, vi lane), (3, vi i), (4, vl v)] [] M _
  refine AW.iload_n dX9_item_0 1 rfl rfl ?_
  refine AW.callS1ip (C9_isSheet Γ M _ hs) dX9_item_1 mc_X9_242 (fun _ => rfl) ⟨Nat.le_of_ble_eq_true rfl, Nat.le_of_ble_eq_true rfl⟩ (Nat.le_of_ble_eq_true rfl) ?_
  refine AW.if_eq 19 dX9_item_4 (by decide) (bI_r _) (fun c4 => ?_) (fun c4 => ?_)
  · have d4 := bI0.mp c4
    have hb : ¬ 0 ≤ refZ (M 105) (M 106) s lane i 1 := fun q => by have := refZ_0 q; omega
    have hb2 : refZ (M 105) (M 106) s lane i 1 = -1 := by unfold refZ; rw [if_neg (by omega)]
    refine AW.iconst dX9_item_19 ?_
    exact AW.iret rfl dX9_item_20 ⟨by rw [if_neg hb, hb2], by rw [if_neg hb]⟩
  · have d4 := bI1.mp c4
    refine AW.iload_n dX9_item_7 2 rfl rfl ?_
    refine AW.i2l dX9_item_8 (by omega) ?_
    refine AW.lconst (z := (0)) dX9_item_9 rfl ?_
    refine AW.ldc2 (z := 3) dX9_item_10 kl_X9_158 (by decide +kernel) ?_
    refine AW.callS3ip (C9_in Γ M _ _ _ (by omega) (by decide) (by decide)) dX9_item_13 mc_X9_76 (fun _ => rfl) ⟨Nat.le_of_ble_eq_true rfl, Nat.le_of_ble_eq_true rfl⟩ (Nat.le_of_ble_eq_true rfl) ?_
    refine AW.if_ne 21 dX9_item_16 (by decide) (bI_r _) (fun c16 => ?_) (fun c16 => ?_)
    · have d16 := bI1.mp c16
      refine AW.aload_n dX9_item_21 0 rfl rfl ?_
      refine AW.iload_n dX9_item_22 1 rfl rfl ?_
      refine AW.iload_n dX9_item_23 2 rfl rfl ?_
      refine AW.iload_n dX9_item_24 3 rfl rfl ?_
      refine AW.iconst dX9_item_25 ?_
      refine AW.callV4ip (C9_why Γ M hg s lane i 1 (by omega) (by omega) hi (by omega)) dX9_item_26 mc_X9_245 (show sh 94 = (0, 9, [some 95, some 96, some 97, none, none, none, some 98, some 99, some 100, none, none, none, none, some 101, none, none, none, some 102, none, some 103, some 104, none, some 105, some 106, some 107, some 108]) from rfl) (fun _ => rfl) ⟨Nat.le_of_ble_eq_true rfl, Nat.le_of_ble_eq_true rfl⟩ (Nat.le_of_ble_eq_true rfl) ?_
      refine AW.top (fun rf0 erf0 => ?_)
      refine AW.istore [(6, vi rf0), (0, rf Γ 94), (1, vi s), (2, vi lane), (3, vi i), (4, vl v)] dX9_item_29 (by decide) rfl ?_
      refine AW.iload dX9_item_31 0 rfl ?_
      refine AW.if_ge 39 dX9_item_33 (by decide) (by rw [erf0]; exact refZ_r) (fun c33 => ?_) (fun c33 => ?_)
      · have hz := refZ_0 (show 0 ≤ refZ (M 105) (M 106) s lane i 1 by omega)
        have hz2 := hg s.toNat (by omega)
        refine AW.aload_n dX9_item_39 1 rfl rfl ?_
        refine AW.getR dX9_item_40 fl_X9_50 (show sh 94 = (0, 9, [some 95, some 96, some 97, none, none, none, some 98, some 99, some 100, none, none, none, none, some 101, none, none, none, some 102, none, some 103, some 104, none, some 105, some 106, some 107, some 108]) from rfl) rfl ?_
        refine AW.bipush (z := (24)) dX9_item_43 (by decide) ?_
        refine AW.iload_n dX9_item_45 2 rfl rfl ?_
        refine AW.imul dX9_item_46 ?_
        refine AW.iload_n dX9_item_47 4 rfl rfl ?_
        refine AW.iadd dX9_item_48 ?_
        refine AW.lload dX9_item_49 5 rfl ?_
        refine AW.iload_n dX9_item_51 3 rfl rfl ?_
        refine AW.callS2lp (C9_cut Γ M _ _ hl) dX9_item_52 mc_X9_248 (fun _ => rfl) ⟨Nat.le_of_ble_eq_true rfl, Nat.le_of_ble_eq_true rfl⟩ (Nat.le_of_ble_eq_true rfl) ?_
        refine AW.lastN (24 * s.toNat + i.toNat) dX9_item_55 (show sh 107 = (2, 96, []) from rfl) (by omega) (by omega) (by decide) ?_
        refine AW.iconst dX9_item_56 ?_
        exact AW.iret rfl dX9_item_57 ⟨by rw [if_pos (by omega)], by rw [if_pos (by omega)]⟩
      · refine AW.iload dX9_item_36 0 rfl ?_
        exact AW.iret rfl dX9_item_38 ⟨by rw [if_neg (by omega)]; exact erf0, by rw [if_neg (by omega)]⟩
    · have d16 := bI0.mp c16
      have hb : ¬ 0 ≤ refZ (M 105) (M 106) s lane i 1 := fun q => by have := refZ_0 q; omega
      have hb2 : refZ (M 105) (M 106) s lane i 1 = -1 := by unfold refZ; rw [if_neg (by omega)]
      refine AW.iconst dX9_item_19 ?_
      exact AW.iret rfl dX9_item_20 ⟨by rw [if_neg hb, hb2], by rw [if_neg hb]⟩

set_option maxRecDepth 20000 in
theorem C_drop (Γ : GC) (M : Mm) (L Z T : Nat → Int) (ho : OkS M L Z T) (s : Int) (hs : R32 s) : Ct Γ uX8_drop [rf Γ 0, vi s] M (fun z M' => z = dropZ L Z s ∧ M' = if (0 ≤ s ∧ s < 4) ∧ 0 ≤ L s.toNat then up2 M (86 + 2 * s.toNat) 0 0 else M) := by
  refine Ct.of (by decide) (Nat.le_of_ble_eq_true rfl) ?_
  show AW Γ uX8_drop 0 [(0, rf Γ 0), (1, vi s)] [] M _
  refine AW.iload_n dX8_drop_0 1 rfl rfl ?_
  refine AW.callS1ip (C_isSheet Γ M _ hs) dX8_drop_1 mc_X8_262 (fun _ => rfl) ⟨Nat.le_of_ble_eq_true rfl, Nat.le_of_ble_eq_true rfl⟩ (Nat.le_of_ble_eq_true rfl) ?_
  refine AW.if_ne 9 dX8_drop_4 (by decide) (bI_r _) (fun c4 => ?_) (fun c4 => ?_)
  · have d4 := bI1.mp c4
    have hr := ho s.toNat (by omega)
    unfold paRel at hr
    refine AW.aload_n dX8_drop_9 0 rfl rfl ?_
    refine AW.getR dX8_drop_10 fl_X8_73 (show sh 0 = (0, 8, [some 1, some 5, some 31, some 35, none, some 61, some 65, some 71, some 76, some 79, some 83, some 85]) from rfl) rfl ?_
    refine AW.iload_n dX8_drop_13 1 rfl rfl ?_
    refine AW.aald3 (r := 86 + 2 * s.toNat) dX8_drop_14 (show sh 85 = (3, 3, [some 86, some 88, some 90, some 92]) from rfl) (by omega) (by simp; omega) (Nat.le_of_ble_eq_true rfl) (pp_at s.toNat (by omega)) ?_
    refine AW.getI dX8_drop_15 fl_X8_272 (pp s.toNat (by omega)).1 rfl ?_
    refine AW.if_ne 24 dX8_drop_18 (by decide) (by omega) (fun c18 => ?_) (fun c18 => ?_)
    · refine AW.aload_n dX8_drop_24 0 rfl rfl ?_
      refine AW.getR dX8_drop_25 fl_X8_73 (show sh 0 = (0, 8, [some 1, some 5, some 31, some 35, none, some 61, some 65, some 71, some 76, some 79, some 83, some 85]) from rfl) rfl ?_
      refine AW.iload_n dX8_drop_28 1 rfl rfl ?_
      refine AW.aald3 (r := 86 + 2 * s.toNat) dX8_drop_29 (show sh 85 = (3, 3, [some 86, some 88, some 90, some 92]) from rfl) (by omega) (by simp; omega) (Nat.le_of_ble_eq_true rfl) (pp_at s.toNat (by omega)) ?_
      refine AW.iconst dX8_drop_30 ?_
      refine AW.putZ dX8_drop_31 fp_X8_272 (pp s.toNat (by omega)).1 rfl (Or.inl rfl) ?_
      refine AW.aload_n dX8_drop_34 0 rfl rfl ?_
      refine AW.getR dX8_drop_35 fl_X8_73 (show sh 0 = (0, 8, [some 1, some 5, some 31, some 35, none, some 61, some 65, some 71, some 76, some 79, some 83, some 85]) from rfl) rfl ?_
      refine AW.iload_n dX8_drop_38 1 rfl rfl ?_
      refine AW.aald3 (r := 86 + 2 * s.toNat) dX8_drop_39 (show sh 85 = (3, 3, [some 86, some 88, some 90, some 92]) from rfl) (by omega) (by simp; omega) (Nat.le_of_ble_eq_true rfl) (pp_at s.toNat (by omega)) ?_
      refine AW.getI dX8_drop_40 fl_X8_275 (pp s.toNat (by omega)).1 rfl ?_
      rw [up2_i (by decide)]
      exact AW.iret rfl dX8_drop_43 ⟨by unfold dropZ; rw [if_pos (by omega), if_neg (by omega)]; omega, by rw [if_pos (by omega)]⟩
    · refine AW.bipush (z := (-11)) dX8_drop_21 (by decide) ?_
      exact AW.iret rfl dX8_drop_23 ⟨by unfold dropZ; rw [if_pos (by omega), if_pos (by omega)], by rw [if_neg (by omega)]⟩
  · have d4 := bI0.mp c4
    refine AW.iconst dX8_drop_7 ?_
    exact AW.iret rfl dX8_drop_8 ⟨by unfold dropZ; rw [if_neg (by omega)], by rw [if_neg (by omega)]⟩

set_option maxRecDepth 20000 in
theorem C9_drop (Γ : GC) (M : Mm) (hg : OkG (M 105) (M 106)) (s : Int) (hs : R32 s) : Ct Γ uX9_drop [rf Γ 94, vi s] M (fun z M' => z = dropZ (M 105) (M 106) s ∧ M' = if (0 ≤ s ∧ s < 4) ∧ 0 ≤ M 105 s.toNat then up2 M 105 s.toNat (-1) else M) := by
  refine Ct.of (by decide) (Nat.le_of_ble_eq_true rfl) ?_
  show AW Γ uX9_drop 0 [(0, rf Γ 94), (1, vi s)] [] M _
  refine AW.iload_n dX9_drop_0 1 rfl rfl ?_
  refine AW.callS1ip (C9_isSheet Γ M _ hs) dX9_drop_1 mc_X9_242 (fun _ => rfl) ⟨Nat.le_of_ble_eq_true rfl, Nat.le_of_ble_eq_true rfl⟩ (Nat.le_of_ble_eq_true rfl) ?_
  refine AW.if_ne 9 dX9_drop_4 (by decide) (bI_r _) (fun c4 => ?_) (fun c4 => ?_)
  · have d4 := bI1.mp c4
    have hr := hg s.toNat (by omega)
    refine AW.aload_n dX9_drop_9 0 rfl rfl ?_
    refine AW.getR dX9_drop_10 fl_X9_44 (show sh 94 = (0, 9, [some 95, some 96, some 97, none, none, none, some 98, some 99, some 100, none, none, none, none, some 101, none, none, none, some 102, none, some 103, some 104, none, some 105, some 106, some 107, some 108]) from rfl) rfl ?_
    refine AW.iload_n dX9_drop_13 1 rfl rfl ?_
    refine AW.ialdN (s.toNat) dX9_drop_14 (show sh 105 = (1, 4, []) from rfl) (by omega) (by omega) (by decide) ?_
    refine AW.if_ge 21 dX9_drop_15 (by decide) (by omega) (fun c15 => ?_) (fun c15 => ?_)
    · refine AW.aload_n dX9_drop_21 0 rfl rfl ?_
      refine AW.getR dX9_drop_22 fl_X9_44 (show sh 94 = (0, 9, [some 95, some 96, some 97, none, none, none, some 98, some 99, some 100, none, none, none, none, some 101, none, none, none, some 102, none, some 103, some 104, none, some 105, some 106, some 107, some 108]) from rfl) rfl ?_
      refine AW.iload_n dX9_drop_25 1 rfl rfl ?_
      refine AW.iconst dX9_drop_26 ?_
      refine AW.iastN (s.toNat) dX9_drop_27 (show sh 105 = (1, 4, []) from rfl) (by omega) (by omega) (by decide) ?_
      refine AW.aload_n dX9_drop_28 0 rfl rfl ?_
      refine AW.getR dX9_drop_29 fl_X9_47 (show sh 94 = (0, 9, [some 95, some 96, some 97, none, none, none, some 98, some 99, some 100, none, none, none, none, some 101, none, none, none, some 102, none, some 103, some 104, none, some 105, some 106, some 107, some 108]) from rfl) rfl ?_
      refine AW.iload_n dX9_drop_32 1 rfl rfl ?_
      refine AW.ialdN (s.toNat) dX9_drop_33 (show sh 106 = (1, 4, []) from rfl) (by omega) (by omega) (by decide) ?_
      rw [up2_c (by decide)]
      exact AW.iret rfl dX9_drop_34 ⟨by unfold dropZ; rw [if_pos (by omega), if_neg (by omega)], by rw [if_pos (by omega)]⟩
    · refine AW.bipush (z := (-11)) dX9_drop_18 (by decide) ?_
      exact AW.iret rfl dX9_drop_20 ⟨by unfold dropZ; rw [if_pos (by omega), if_pos (by omega)], by rw [if_neg (by omega)]⟩
  · have d4 := bI0.mp c4
    refine AW.iconst dX9_drop_7 ?_
    exact AW.iret rfl dX9_drop_8 ⟨by unfold dropZ; rw [if_neg (by omega)], by rw [if_neg (by omega)]⟩
