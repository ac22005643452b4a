def lsF (r : Nat → Int) (k i : Nat) : Nat → Int := fun j => if j = 1 then r 1 - 1 else if 17 + 7 * k ≤ j ∧ j < 17 + 7 * k + i then r (j + 7) else r j
theorem lsF_step (r : Nat → Int) (k i : Nat) : up1 (lsF r k i) (17 + 7 * k + i) (r (24 + 7 * k + i)) = lsF r k (i + 1) := by
  funext j; simp only [up1, lsF]
  by_cases h : j = 17 + 7 * k + i
  · rw [if_pos h, if_neg (show ¬ j = 1 by omega), if_pos (show 17 + 7 * k ≤ j ∧ j < 17 + 7 * k + (i + 1) by omega)]; congr 1; omega
  · rw [if_neg h]
    by_cases h3 : j = 1
    · rw [if_pos h3, if_pos h3]
    · rw [if_neg h3, if_neg h3]
      by_cases h2 : 17 + 7 * k ≤ j ∧ j < 17 + 7 * k + i
      · rw [if_pos h2, if_pos (show 17 + 7 * k ≤ j ∧ j < 17 + 7 * k + (i + 1) by omega)]
      · rw [if_neg h2, if_neg (show ¬ (17 + 7 * k ≤ j ∧ j < 17 + 7 * k + (i + 1)) by omega)]
theorem lsF_0 (r : Nat → Int) (k : Nat) : up1 r 1 (r 1 - 1) = lsF r k 0 := by
  funext j; simp only [up1, lsF]; split
  · rfl
  · rw [if_neg (by omega)]

set_option maxRecDepth 20000 in
theorem loses_loop (Γ : GC) (M : Mm) (ho : OkR (M 96)) (k : Int) (hk : 0 ≤ k ∧ k < M 96 1) (Q : Int → Mm → Prop) (hx : ∀ x : Int, x = 7 * k + ((7 * (M 96 1 - 1 - k).toNat) : Nat) → AW Γ uX9_loses 65 [(2, vi x), (0, rf Γ 94), (1, vi k)] [] (upM M 96 (lsF (M 96) k.toNat ((7 * (M 96 1 - 1 - k).toNat)))) Q) : ∀ (n i : Nat) (x : Int), x = 7 * k + i → i ≤ (7 * (M 96 1 - 1 - k).toNat) → (7 * (M 96 1 - 1 - k).toNat) - i < n → AW Γ uX9_loses 25 [(2, vi x), (0, rf Γ 94), (1, vi k)] [] (upM M 96 (lsF (M 96) k.toNat i)) Q := by
  obtain ⟨o0, o1, o2, o3, o4, o5, o6⟩ := id ho
  intro n
  induction n with
  | zero => intro i x g0 g1 gm; omega
  | succ n ih =>
    intro i x g0 g1 gm
    have ls1 : lsF (M 96) k.toNat i 1 = M 96 1 - 1 := by simp [lsF]
    have lsb : lsF (M 96) k.toNat i (24 + 7 * k.toNat + i) = M 96 (24 + 7 * k.toNat + i) := by simp only [lsF]; rw [if_neg (by omega), if_neg (by omega)]
    refine AW.iload_n dX9_loses_25 0 rfl rfl ?_
    refine AW.bipush (z := (7)) dX9_loses_26 (by decide) ?_
    refine AW.aload_n dX9_loses_28 1 rfl rfl ?_
    refine AW.getR dX9_loses_29 fl_X9_13 (show sh 94 = (0, 9, [some 95, some 96, some 97, none, none, none, some 98, some 99, some 100, none, none, none, none, some 101, none, none, none, some 102, none, some 103, some 104, none, some 105, some 106, some 107, some 108]) from rfl) rfl ?_
    refine AW.iconst dX9_loses_32 ?_
    refine AW.ialdN 1 dX9_loses_33 (show sh 96 = (1, 59, []) from rfl) rfl (by decide) (by decide) ?_
    rw [upM_s, ls1]
    refine AW.imul dX9_loses_34 ?_
    refine AW.icmp_ge 65 dX9_loses_35 (by decide) (by omega) (by omega) (fun c35 => ?_) (fun c35 => ?_)
    · refine AW.sub [0, 1, 2] rfl ?_
      rw [show i = (7 * (M 96 1 - 1 - k).toNat) by omega]
      exact hx x (by omega)
    · refine AW.aload_n dX9_loses_38 1 rfl rfl ?_
      refine AW.getR dX9_loses_39 fl_X9_13 (show sh 94 = (0, 9, [some 95, some 96, some 97, none, none, none, some 98, some 99, some 100, none, none, none, none, some 101, none, none, none, some 102, none, some 103, some 104, none, some 105, some 106, some 107, some 108]) from rfl) rfl ?_
      refine AW.bipush (z := (17)) dX9_loses_42 (by decide) ?_
      refine AW.iload_n dX9_loses_44 0 rfl rfl ?_
      refine AW.iadd dX9_loses_45 ?_
      refine AW.aload_n dX9_loses_46 1 rfl rfl ?_
      refine AW.getR dX9_loses_47 fl_X9_13 (show sh 94 = (0, 9, [some 95, some 96, some 97, none, none, none, some 98, some 99, some 100, none, none, none, none, some 101, none, none, none, some 102, none, some 103, some 104, none, some 105, some 106, some 107, some 108]) from rfl) rfl ?_
      refine AW.bipush (z := (17)) dX9_loses_50 (by decide) ?_
      refine AW.iload_n dX9_loses_52 0 rfl rfl ?_
      refine AW.iadd dX9_loses_53 ?_
      refine AW.bipush (z := (7)) dX9_loses_54 (by decide) ?_
      refine AW.iadd dX9_loses_56 ?_
      refine AW.ialdN (24 + 7 * k.toNat + i) dX9_loses_57 (show sh 96 = (1, 59, []) from rfl) (by omega) (by omega) (by decide) ?_
      rw [upM_s, lsb]
      refine AW.iastN (17 + 7 * k.toNat + i) dX9_loses_58 (show sh 96 = (1, 59, []) from rfl) (by omega) (by omega) (by decide) ?_
      obtain ⟨x59, ex59⟩ : ∃ z : Int, x + 1 = z := ⟨_, rfl⟩
      refine AW.iinc [(2, vi x59), (0, rf Γ 94), (1, vi k)] dX9_loses_59 0 rfl (by decide) x59 ex59 rfl ?_
      refine AW.goto 25 dX9_loses_62 (by decide) ?_
      refine AW.sub [0, 1, 2] rfl ?_
      refine AW.toM (show _ = (upM M 96 (lsF (M 96) k.toNat (i + 1))) from ?_) (ih (i + 1) x59 (by omega) (by omega) (by omega))
      rw [upM_up2, lsF_step]

set_option maxRecDepth 20000 in
theorem C9_loses (Γ : GC) (M : Mm) (ho : OkR (M 96)) (k : Int) (hk : R32 k) : Ct Γ uX9_loses [rf Γ 94, vi k] M (fun z M' => z = loseZ (M 96) k ∧ M' = upM M 96 (loseR (M 96) k)) := by
  refine Ct.of (by decide) (Nat.le_of_ble_eq_true rfl) ?_
  show AW Γ uX9_loses 0 [(0, rf Γ 94), (1, vi k)] [] M _
  obtain ⟨o0, o1, o2, o3, o4, o5, o6⟩ := id ho
  refine AW.aload_n dX9_loses_0 0 rfl rfl ?_
  refine AW.iload_n dX9_loses_1 1 rfl rfl ?_
  refine AW.callV1ip (C9_isWord Γ M _ hk (by omega)) dX9_loses_2 mc_X9_96 (show sh 94 = (0, 9, [some 95, some 96, some 97, none, none, none, some 98, some 99, some 100, none, none, none, none, some 101, none, none, none, some 102, none, some 103, some 104, none, some 105, some 106, some 107, some 108]) from rfl) (fun _ => rfl) ⟨Nat.le_of_ble_eq_true rfl, Nat.le_of_ble_eq_true rfl⟩ (Nat.le_of_ble_eq_true rfl) ?_
  refine AW.if_ne 10 dX9_loses_5 (by decide) (bI_r _) (fun c5 => ?_) (fun c5 => ?_)
  · have d5 := bI1.mp c5
    refine AW.aload_n dX9_loses_10 0 rfl rfl ?_
    refine AW.getR dX9_loses_11 fl_X9_13 (show sh 94 = (0, 9, [some 95, some 96, some 97, none, none, none, some 98, some 99, some 100, none, none, none, none, some 101, none, none, none, some 102, none, some 103, some 104, none, some 105, some 106, some 107, some 108]) from rfl) rfl ?_
    refine AW.iconst dX9_loses_14 ?_
    refine AW.dup2 dX9_loses_15 rfl rfl ?_
    refine AW.ialdN 1 dX9_loses_16 (show sh 96 = (1, 59, []) from rfl) rfl (by decide) (by decide) ?_
    refine AW.iconst dX9_loses_17 ?_
    refine AW.isub dX9_loses_18 ?_
    refine AW.iastN 1 dX9_loses_19 (show sh 96 = (1, 59, []) from rfl) rfl (by decide) (by decide) ?_
    refine AW.bipush (z := (7)) dX9_loses_20 (by decide) ?_
    refine AW.iload_n dX9_loses_22 1 rfl rfl ?_
    refine AW.imul dX9_loses_23 ?_
    refine AW.top (fun x24 ex24 => ?_)
    refine AW.istore_n [(2, vi x24), (0, rf Γ 94), (1, vi k)] dX9_loses_24 rfl (by decide) rfl ?_
    refine AW.sub [0, 1, 2] rfl ?_
    refine AW.toM (M' := upM M 96 (lsF (M 96) k.toNat 0)) (congrArg (upM M 96) (lsF_0 _ _)) (loses_loop Γ M ho k (by omega) _ (fun x hx6 => ?_) (7 * (M 96 1 - 1 - k).toNat + 1) 0 x24 (by omega) (by omega) (by omega))
    refine AW.aload_n dX9_loses_65 1 rfl rfl ?_
    refine AW.getR dX9_loses_66 fl_X9_13 (show sh 94 = (0, 9, [some 95, some 96, some 97, none, none, none, some 98, some 99, some 100, none, none, none, none, some 101, none, none, none, some 102, none, some 103, some 104, none, some 105, some 106, some 107, some 108]) from rfl) rfl ?_
    refine AW.iconst dX9_loses_69 ?_
    refine AW.ialdN 1 dX9_loses_70 (show sh 96 = (1, 59, []) from rfl) rfl (by decide) (by decide) ?_
    rw [upM_s]
    exact AW.iret rfl dX9_loses_71 ⟨by unfold loseZ; rw [if_pos (by omega)]; simp [lsF], by unfold loseR; rw [if_pos (by omega)]; congr 1; funext j; simp only [lsF]; rw [show 17 + 7 * k.toNat + 7 * (M 96 1 - 1 - k).toNat = 17 + 7 * (M 96 1 - 1).toNat by omega]⟩
  · have d5 := bI0.mp c5
    refine AW.iconst dX9_loses_8 ?_
    exact AW.iret rfl dX9_loses_9 ⟨by unfold loseZ; rw [if_neg (by omega)], by unfold loseR; rw [if_neg (by omega), upM_id]⟩

def clF (r : Nat → Int) (k i : Nat) : Nat → Int := fun j => if j = 0 then r 0 + i else if 5 + (r 0).toNat ≤ j ∧ j < 5 + (r 0).toNat + i then r (18 + 7 * k + (j - (5 + (r 0).toNat))) else r j
theorem clF_step (r : Nat → Int) (k i : Nat) : up1 (up1 (clF r k i) (5 + (r 0).toNat + i) (r (18 + 7 * k + i))) 0 (r 0 + i + 1) = clF r k (i + 1) := by
  funext j; simp only [up1, clF]
  by_cases h3 : j = 0
  · rw [if_pos h3, if_pos h3]; omega
  · simp only [if_neg h3]
    by_cases h : j = 5 + (r 0).toNat + i
    · rw [if_pos h, if_pos (show 5 + (r 0).toNat ≤ j ∧ j < 5 + (r 0).toNat + (i + 1) by omega)]; exact congrArg r (by omega)
    · rw [if_neg h]
      by_cases h2 : 5 + (r 0).toNat ≤ j ∧ j < 5 + (r 0).toNat + i
      · rw [if_pos h2, if_pos (show 5 + (r 0).toNat ≤ j ∧ j < 5 + (r 0).toNat + (i + 1) by omega)]
      · rw [if_neg h2, if_neg (show ¬ (5 + (r 0).toNat ≤ j ∧ j < 5 + (r 0).toNat + (i + 1)) by omega)]
theorem clF_0 (r : Nat → Int) (k : Nat) : r = clF r k 0 := by
  funext j; simp only [clF]; split
  · rename_i h; subst h; omega
  · rw [if_neg (by omega)]

set_option maxRecDepth 20000 in
theorem calls_loop (Γ : GC) (M : Mm) (ho : OkR (M 96)) (k nn : Int) (hk : 0 ≤ k ∧ k < M 96 1) (hn : nn = M 96 (17 + 7 * k.toNat)) (h12 : M 96 0 + nn ≤ 12) (Q : Int → Mm → Prop) (hx : ∀ x : Int, x = 0 + ((M 96 (17 + 7 * k.toNat)).toNat : Nat) → AW Γ uX9_calls 78 [(3, vi x), (2, vi nn), (0, rf Γ 94), (1, vi k)] [] (upM M 96 (clF (M 96) k.toNat ((M 96 (17 + 7 * k.toNat)).toNat))) Q) : ∀ (n i : Nat) (x : Int), x = 0 + i → i ≤ (M 96 (17 + 7 * k.toNat)).toNat → (M 96 (17 + 7 * k.toNat)).toNat - i < n → AW Γ uX9_calls 38 [(3, vi x), (2, vi nn), (0, rf Γ 94), (1, vi k)] [] (upM M 96 (clF (M 96) k.toNat i)) Q := by
  obtain ⟨o0, o1, o2, o3, o4, o5, o6⟩ := id ho
  have hkx := (o6 k.toNat (by omega)).1
  intro n
  induction n with
  | zero => intro i x g0 g1 gm; omega
  | succ n ih =>
    intro i x g0 g1 gm
    have hkk := (o6 k.toNat (by omega)).1
    have cl0 : clF (M 96) k.toNat i 0 = M 96 0 + i := by simp [clF]
    have clb : clF (M 96) k.toNat i (18 + 7 * k.toNat + i) = M 96 (18 + 7 * k.toNat + i) := by simp only [clF]; rw [if_neg (by omega), if_neg (by omega)]
    refine AW.iload_n dX9_calls_38 0 rfl rfl ?_
    refine AW.iload_n dX9_calls_39 1 rfl rfl ?_
    refine AW.icmp_ge 78 dX9_calls_40 (by decide) (by omega) (by omega) (fun c40 => ?_) (fun c40 => ?_)
    · refine AW.sub [0, 1, 2, 3] rfl ?_
      rw [show i = (M 96 (17 + 7 * k.toNat)).toNat by omega]
      exact hx x (by omega)
    · refine AW.aload_n dX9_calls_43 2 rfl rfl ?_
      refine AW.getR dX9_calls_44 fl_X9_13 (show sh 94 = (0, 9, [some 95, some 96, some 97, none, none, none, some 98, some 99, some 100, none, none, none, none, some 101, none, none, none, some 102, none, some 103, some 104, none, some 105, some 106, some 107, some 108]) from rfl) rfl ?_
      refine AW.iconst dX9_calls_47 ?_
      refine AW.aload_n dX9_calls_48 2 rfl rfl ?_
      refine AW.getR dX9_calls_49 fl_X9_13 (show sh 94 = (0, 9, [some 95, some 96, some 97, none, none, none, some 98, some 99, some 100, none, none, none, none, some 101, none, none, none, some 102, none, some 103, some 104, none, some 105, some 106, some 107, some 108]) from rfl) rfl ?_
      refine AW.iconst dX9_calls_52 ?_
      refine AW.ialdN 0 dX9_calls_53 (show sh 96 = (1, 59, []) from rfl) rfl (by decide) (by decide) ?_
      rw [upM_s, cl0]
      refine AW.iadd dX9_calls_54 ?_
      refine AW.aload_n dX9_calls_55 2 rfl rfl ?_
      refine AW.iload_n dX9_calls_56 3 rfl rfl ?_
      refine AW.iload_n dX9_calls_57 0 rfl rfl ?_
      refine AW.callV2ip (C9_ofWord Γ _ _ _ k.toNat i (by omega) (by omega) (by omega) (by omega)) dX9_calls_58 mc_X9_103 (show sh 94 = (0, 9, [some 95, some 96, some 97, none, none, none, some 98, some 99, some 100, none, none, none, none, some 101, none, none, none, some 102, none, some 103, some 104, none, some 105, some 106, some 107, some 108]) from rfl) (fun _ => rfl) ⟨Nat.le_of_ble_eq_true rfl, Nat.le_of_ble_eq_true rfl⟩ (Nat.le_of_ble_eq_true rfl) ?_
      rw [upM_s, clb]
      refine AW.iastN (5 + (M 96 0).toNat + i) dX9_calls_61 (show sh 96 = (1, 59, []) from rfl) (by omega) (by omega) (by decide) ?_
      refine AW.aload_n dX9_calls_62 2 rfl rfl ?_
      refine AW.getR dX9_calls_63 fl_X9_13 (show sh 94 = (0, 9, [some 95, some 96, some 97, none, none, none, some 98, some 99, some 100, none, none, none, none, some 101, none, none, none, some 102, none, some 103, some 104, none, some 105, some 106, some 107, some 108]) from rfl) rfl ?_
      refine AW.iconst dX9_calls_66 ?_
      refine AW.dup2 dX9_calls_67 rfl rfl ?_
      refine AW.ialdN 0 dX9_calls_68 (show sh 96 = (1, 59, []) from rfl) rfl (by decide) (by decide) ?_
      rw [up2_i (by omega), upM_s, cl0]
      refine AW.iconst dX9_calls_69 ?_
      refine AW.iadd dX9_calls_70 ?_
      refine AW.iastN 0 dX9_calls_71 (show sh 96 = (1, 59, []) from rfl) rfl (by decide) (by decide) ?_
      obtain ⟨x72, ex72⟩ : ∃ z : Int, x + 1 = z := ⟨_, rfl⟩
      refine AW.iinc [(3, vi x72), (2, vi nn), (0, rf Γ 94), (1, vi k)] dX9_calls_72 0 rfl (by decide) x72 ex72 rfl ?_
      refine AW.goto 38 dX9_calls_75 (by decide) ?_
      refine AW.sub [0, 1, 2, 3] rfl ?_
      refine AW.toM (show _ = (upM M 96 (clF (M 96) k.toNat (i + 1))) from ?_) (ih (i + 1) x72 (by omega) (by omega) (by omega))
      rw [upM_up2, upM_up2, clF_step]

set_option maxRecDepth 20000 in
theorem C9_calls (Γ : GC) (M : Mm) (ho : OkR (M 96)) (k : Int) (hk : R32 k) : Ct Γ uX9_calls [rf Γ 94, vi k] M (fun z M' => z = callZ (M 96) k ∧ M' = upM M 96 (callR (M 96) k)) := by
  refine Ct.of (by decide) (Nat.le_of_ble_eq_true rfl) ?_
  show AW Γ uX9_calls 0 [(0, rf Γ 94), (1, vi k)] [] M _
  obtain ⟨o0, o1, o2, o3, o4, o5, o6⟩ := id ho
  refine AW.aload_n dX9_calls_0 0 rfl rfl ?_
  refine AW.iload_n dX9_calls_1 1 rfl rfl ?_
  refine AW.callV1ip (C9_isWord Γ M _ hk (by omega)) dX9_calls_2 mc_X9_96 (show sh 94 = (0, 9, [some 95, some 96, some 97, none, none, none, some 98, some 99, some 100, none, none, none, none, some 101, none, none, none, some 102, none, some 103, some 104, none, some 105, some 106, some 107, some 108]) from rfl) (fun _ => rfl) ⟨Nat.le_of_ble_eq_true rfl, Nat.le_of_ble_eq_true rfl⟩ (Nat.le_of_ble_eq_true rfl) ?_
  refine AW.if_ne 10 dX9_calls_5 (by decide) (bI_r _) (fun c5 => ?_) (fun c5 => ?_)
  · have d5 := bI1.mp c5
    have d6 := (o6 k.toNat (by omega)).1
    refine AW.aload_n dX9_calls_10 0 rfl rfl ?_
    refine AW.getR dX9_calls_11 fl_X9_13 (show sh 94 = (0, 9, [some 95, some 96, some 97, none, none, none, some 98, some 99, some 100, none, none, none, none, some 101, none, none, none, some 102, none, some 103, some 104, none, some 105, some 106, some 107, some 108]) from rfl) rfl ?_
    refine AW.iconst dX9_calls_14 ?_
    refine AW.ialdN 0 dX9_calls_15 (show sh 96 = (1, 59, []) from rfl) rfl (by decide) (by decide) ?_
    refine AW.aload_n dX9_calls_16 0 rfl rfl ?_
    refine AW.iload_n dX9_calls_17 1 rfl rfl ?_
    refine AW.callV1ip (C9_sizeOf Γ M _ k.toNat (by omega) (by omega)) dX9_calls_18 mc_X9_100 (show sh 94 = (0, 9, [some 95, some 96, some 97, none, none, none, some 98, some 99, some 100, none, none, none, none, some 101, none, none, none, some 102, none, some 103, some 104, none, some 105, some 106, some 107, some 108]) from rfl) (fun _ => rfl) ⟨Nat.le_of_ble_eq_true rfl, Nat.le_of_ble_eq_true rfl⟩ (Nat.le_of_ble_eq_true rfl) ?_
    refine AW.iadd dX9_calls_21 ?_
    refine AW.bipush (z := (12)) dX9_calls_22 (by decide) ?_
    refine AW.icmp_le 30 dX9_calls_24 (by decide) (by omega) (by omega) (fun c24 => ?_) (fun c24 => ?_)
    · refine AW.aload_n dX9_calls_30 0 rfl rfl ?_
      refine AW.iload_n dX9_calls_31 1 rfl rfl ?_
      refine AW.callV1ip (C9_sizeOf Γ M _ k.toNat (by omega) (by omega)) dX9_calls_32 mc_X9_100 (show sh 94 = (0, 9, [some 95, some 96, some 97, none, none, none, some 98, some 99, some 100, none, none, none, none, some 101, none, none, none, some 102, none, some 103, some 104, none, some 105, some 106, some 107, some 108]) from rfl) (fun _ => rfl) ⟨Nat.le_of_ble_eq_true rfl, Nat.le_of_ble_eq_true rfl⟩ (Nat.le_of_ble_eq_true rfl) ?_
      refine AW.top (fun nn enn => ?_)
      refine AW.istore_n [(2, vi nn), (0, rf Γ 94), (1, vi k)] dX9_calls_35 rfl (by decide) rfl ?_
      refine AW.iconst dX9_calls_36 ?_
      refine AW.top (fun x37 ex37 => ?_)
      refine AW.istore_n [(3, vi x37), (2, vi nn), (0, rf Γ 94), (1, vi k)] dX9_calls_37 rfl (by decide) rfl ?_
      refine AW.sub [0, 1, 2, 3] rfl ?_
      refine AW.toM (M' := upM M 96 (clF (M 96) k.toNat 0)) (by rw [← clF_0, upM_id]) (calls_loop Γ M ho k nn (by omega) enn (by omega) _ (fun x hx6 => ?_) ((M 96 (17 + 7 * k.toNat)).toNat + 1) 0 x37 (by omega) (by omega) (by omega))
      refine AW.aload_n dX9_calls_78 2 rfl rfl ?_
      refine AW.getR dX9_calls_79 fl_X9_13 (show sh 94 = (0, 9, [some 95, some 96, some 97, none, none, none, some 98, some 99, some 100, none, none, none, none, some 101, none, none, none, some 102, none, some 103, some 104, none, some 105, some 106, some 107, some 108]) from rfl) rfl ?_
      refine AW.iconst dX9_calls_82 ?_
      refine AW.ialdN 0 dX9_calls_83 (show sh 96 = (1, 59, []) from rfl) rfl (by decide) (by decide) ?_
      rw [upM_s]
      exact AW.iret rfl dX9_calls_84 ⟨by unfold callZ; rw [if_pos (by omega), if_neg (by omega)]; simp [clF]; omega, by unfold callR; rw [if_pos (by omega)]; congr 1; funext j; simp only [clF]; rw [show 5 + (M 96 0).toNat + (M 96 (17 + 7 * k.toNat)).toNat = 5 + (M 96 0 + M 96 (17 + 7 * k.toNat)).toNat by omega, show M 96 0 + ((M 96 (17 + 7 * k.toNat)).toNat : Int) = M 96 0 + M 96 (17 + 7 * k.toNat) by omega]⟩
    · refine AW.bipush (z := (-3)) dX9_calls_27 (by decide) ?_
      exact AW.iret rfl dX9_calls_29 ⟨by unfold callZ; rw [if_pos (by omega), if_pos (by omega)], by unfold callR; rw [if_neg (by omega), upM_id]⟩
  · have d5 := bI0.mp c5
    refine AW.iconst dX9_calls_8 ?_
    exact AW.iret rfl dX9_calls_9 ⟨by unfold callZ; rw [if_neg (by omega)], by unfold callR; rw [if_neg (by omega), upM_id]⟩

set_option maxRecDepth 20000 in
theorem holds_loop (Γ : GC) (M : Mm)  (Q : Int → Mm → Prop) (hx : ∀ x : Int, x = 0 + (59 : Nat) → AW Γ uX9_holds 26 [(1, vi x), (0, rf Γ 94)] [] (upM M 97 (va_cpy (M 96) (M 97) 0 0 59)) Q) : ∀ (n i : Nat) (x : Int), x = 0 + i → i ≤ 59 → 59 - i < n → AW Γ uX9_holds 2 [(1, vi x), (0, rf Γ 94)] [] (upM M 97 (va_cpy (M 96) (M 97) 0 0 i)) Q := by
  intro n
  induction n with
  | zero => intro i x g0 g1 gm; omega
  | succ n ih =>
    intro i x g0 g1 gm
    refine AW.iload_n dX9_holds_2 0 rfl rfl ?_
    refine AW.bipush (z := (59)) dX9_holds_3 (by decide) ?_
    refine AW.icmp_ge 26 dX9_holds_5 (by decide) (by omega) (by omega) (fun c5 => ?_) (fun c5 => ?_)
    · refine AW.sub [0, 1] rfl ?_
      rw [show i = 59 by omega]
      exact hx x (by omega)
    · refine AW.aload_n dX9_holds_8 1 rfl rfl ?_
      refine AW.getR dX9_holds_9 fl_X9_16 (show sh 94 = (0, 9, [some 95, some 96, some 97, none, none, none, some 98, some 99, some 100, none, none, none, none, some 101, none, none, none, some 102, none, some 103, some 104, none, some 105, some 106, some 107, some 108]) from rfl) rfl ?_
      refine AW.iload_n dX9_holds_12 0 rfl rfl ?_
      refine AW.aload_n dX9_holds_13 1 rfl rfl ?_
      refine AW.getR dX9_holds_14 fl_X9_13 (show sh 94 = (0, 9, [some 95, some 96, some 97, none, none, none, some 98, some 99, some 100, none, none, none, none, some 101, none, none, none, some 102, none, some 103, some 104, none, some 105, some 106, some 107, some 108]) from rfl) rfl ?_
      refine AW.iload_n dX9_holds_17 0 rfl rfl ?_
      refine AW.ialdN i dX9_holds_18 (show sh 96 = (1, 59, []) from rfl) (by omega) (by omega) (by decide) ?_
      rw [upM_n (by decide)]
      refine AW.iastN i dX9_holds_19 (show sh 97 = (1, 59, []) from rfl) (by omega) (by omega) (by decide) ?_
      obtain ⟨x20, ex20⟩ : ∃ z : Int, x + 1 = z := ⟨_, rfl⟩
      refine AW.iinc [(1, vi x20), (0, rf Γ 94)] dX9_holds_20 0 rfl (by decide) x20 ex20 rfl ?_
      refine AW.goto 2 dX9_holds_23 (by decide) ?_
      refine AW.sub [0, 1] rfl ?_
      refine AW.toM (show _ = (upM M 97 (va_cpy (M 96) (M 97) 0 0 (i + 1))) from ?_) (ih (i + 1) x20 (by omega) (by omega) (by omega))
      rw [upM_up2, ← cpy_step]
      simp only [Nat.zero_add]

set_option maxRecDepth 20000 in
theorem C9_holds (Γ : GC) (M : Mm)  : Ct Γ uX9_holds [rf Γ 94] M (fun _ M' => M' = upM M 97 (va_cpy (M 96) (M 97) 0 0 59)) := by
  refine Ct.of (by decide) (Nat.le_of_ble_eq_true rfl) ?_
  show AW Γ uX9_holds 0 [(0, rf Γ 94)] [] M _
  refine AW.iconst dX9_holds_0 ?_
  refine AW.top (fun x1 ex1 => ?_)
  refine AW.istore_n [(1, vi x1), (0, rf Γ 94)] dX9_holds_1 rfl (by decide) rfl ?_
  refine AW.sub [0, 1] rfl ?_
  refine AW.toM (cpy_zero M 97 (M 96) 0 0).symm (holds_loop Γ M _ (fun x hx => ?_) 60 0 x1 (by omega) (by omega) (by omega))
  exact AW.vret rfl dX9_holds_26 rfl
