/-! the reference's deeds, on its row -/
theorem upM_up2 (M : Mm) (k i : Nat) (f : Nat → Int) (z : Int) : up2 (upM M k f) k i z = upM M k (up1 f i z) := by
  funext a; by_cases h : a = k
  · subst h; simp [up2, upM]
  · simp [up2, upM, h]
theorem up2_up (M : Mm) (k i : Nat) (z : Int) : up2 M k i z = upM M k (up1 (M k) i z) := rfl
theorem upM_id (M : Mm) (k : Nat) : upM M k (M k) = M := by
  funext a; by_cases h : a = k
  · subst h; simp [upM]
  · simp [upM, h]
theorem cpy_step {f g : Nat → Int} {sp dp i : Nat} : up1 (va_cpy f g sp dp i) (dp + i) (f (sp + i)) = va_cpy f g sp dp (i + 1) := by
  funext j; simp only [up1, va_cpy]
  by_cases h : j = dp + i
  · subst h; rw [if_pos rfl, if_pos (by omega)]; congr 1; omega
  · rw [if_neg h]
    by_cases h2 : dp ≤ j ∧ j < dp + i
    · rw [if_pos h2, if_pos (by omega)]
    · rw [if_neg h2, if_neg (by omega)]
theorem cpy_zero (M : Mm) (d : Nat) (f : Nat → Int) (sp dp : Nat) : upM M d (va_cpy f (M d) sp dp 0) = M := by
  rw [show va_cpy f (M d) sp dp 0 = M d from by funext j; simp only [va_cpy]; rw [if_neg (by omega)]]
  exact upM_id M d

set_option maxRecDepth 20000 in
theorem C9_at (Γ : GC) (M : Mm) (x : Int) (i : Nat) (hx : x = i) (h : i < 54) : Ct Γ uX9_at [rf Γ 94, vi x] M (Pu (M 96 (5 + i)) M) := by
  refine Ct.of (by decide) (Nat.le_of_ble_eq_true rfl) ?_
  show AW Γ uX9_at 0 [(0, rf Γ 94), (1, vi x)] [] M _
  refine AW.aload_n dX9_at_0 0 rfl rfl ?_
  refine AW.getR dX9_at_1 fl_X9_13 (show sh 94 = (0, 9, [some 95, some 96, some 97, none, none, none, some 98, some 99, some 100, none, none, none, none, some 101, none, none, none, some 102, none, some 103, some 104, none, some 105, some 106, some 107, some 108]) from rfl) rfl ?_
  refine AW.iconst dX9_at_4 ?_
  refine AW.iload_n dX9_at_5 1 rfl rfl ?_
  refine AW.iadd dX9_at_6 ?_
  refine AW.ialdN (5 + i) dX9_at_7 (show sh 96 = (1, 59, []) from rfl) (by omega) (by omega) (by decide) ?_
  exact AW.iret rfl dX9_at_8 ⟨rfl, rfl⟩

set_option maxRecDepth 20000 in
theorem C9_sizeOf (Γ : GC) (M : Mm) (x : Int) (k : Nat) (hx : x = k) (h : k < 6) : Ct Γ uX9_sizeOf [rf Γ 94, vi x] M (Pu (M 96 (17 + 7 * k)) M) := by
  refine Ct.of (by decide) (Nat.le_of_ble_eq_true rfl) ?_
  show AW Γ uX9_sizeOf 0 [(0, rf Γ 94), (1, vi x)] [] M _
  refine AW.aload_n dX9_sizeOf_0 0 rfl rfl ?_
  refine AW.getR dX9_sizeOf_1 fl_X9_13 (show sh 94 = (0, 9, [some 95, some 96, some 97, none, none, none, some 98, some 99, some 100, none, none, none, none, some 101, none, none, none, some 102, none, some 103, some 104, none, some 105, some 106, some 107, some 108]) from rfl) rfl ?_
  refine AW.bipush (z := (17)) dX9_sizeOf_4 (by decide) ?_
  refine AW.bipush (z := (7)) dX9_sizeOf_6 (by decide) ?_
  refine AW.iload_n dX9_sizeOf_8 1 rfl rfl ?_
  refine AW.imul dX9_sizeOf_9 ?_
  refine AW.iadd dX9_sizeOf_10 ?_
  refine AW.ialdN (17 + 7 * k) dX9_sizeOf_11 (show sh 96 = (1, 59, []) from rfl) (by omega) (by omega) (by decide) ?_
  exact AW.iret rfl dX9_sizeOf_12 ⟨rfl, rfl⟩

set_option maxRecDepth 20000 in
theorem C9_ofWord (Γ : GC) (M : Mm) (x y : Int) (k i : Nat) (hx : x = k) (hy : y = i) (h : k < 6) (hi : i < 6) : Ct Γ uX9_ofWord [rf Γ 94, vi x, vi y] M (Pu (M 96 (18 + 7 * k + i)) M) := by
  refine Ct.of (by decide) (Nat.le_of_ble_eq_true rfl) ?_
  show AW Γ uX9_ofWord 0 [(0, rf Γ 94), (1, vi x), (2, vi y)] [] M _
  refine AW.aload_n dX9_ofWord_0 0 rfl rfl ?_
  refine AW.getR dX9_ofWord_1 fl_X9_13 (show sh 94 = (0, 9, [some 95, some 96, some 97, none, none, none, some 98, some 99, some 100, none, none, none, none, some 101, none, none, none, some 102, none, some 103, some 104, none, some 105, some 106, some 107, some 108]) from rfl) rfl ?_
  refine AW.bipush (z := (17)) dX9_ofWord_4 (by decide) ?_
  refine AW.bipush (z := (7)) dX9_ofWord_6 (by decide) ?_
  refine AW.iload_n dX9_ofWord_8 1 rfl rfl ?_
  refine AW.imul dX9_ofWord_9 ?_
  refine AW.iadd dX9_ofWord_10 ?_
  refine AW.iconst dX9_ofWord_11 ?_
  refine AW.iadd dX9_ofWord_12 ?_
  refine AW.iload_n dX9_ofWord_13 2 rfl rfl ?_
  refine AW.iadd dX9_ofWord_14 ?_
  refine AW.ialdN (18 + 7 * k + i) dX9_ofWord_15 (show sh 96 = (1, 59, []) from rfl) (by omega) (by omega) (by decide) ?_
  exact AW.iret rfl dX9_ofWord_16 ⟨rfl, rfl⟩

set_option maxRecDepth 20000 in
theorem C9_isWord (Γ : GC) (M : Mm) (k : Int) (hk : R32 k) (h : 0 ≤ M 96 1 ∧ M 96 1 ≤ 6) : Ct Γ uX9_isWord [rf Γ 94, vi k] M (Pu (bI (decide (0 ≤ k ∧ k < M 96 1))) M) := by
  refine Ct.of (by decide) (Nat.le_of_ble_eq_true rfl) ?_
  show AW Γ uX9_isWord 0 [(0, rf Γ 94), (1, vi k)] [] M _
  refine AW.iload_n dX9_isWord_0 1 rfl rfl ?_
  refine AW.i2l dX9_isWord_1 (by omega) ?_
  refine AW.lconst (z := (0)) dX9_isWord_2 rfl ?_
  refine AW.aload_n dX9_isWord_3 0 rfl rfl ?_
  refine AW.getR dX9_isWord_4 fl_X9_13 (show sh 94 = (0, 9, [some 95, some 96, some 97, none, none, none, some 98, some 99, some 100, none, none, none, none, some 101, none, none, none, some 102, none, some 103, some 104, none, some 105, some 106, some 107, some 108]) from rfl) rfl ?_
  refine AW.iconst dX9_isWord_7 ?_
  refine AW.ialdN 1 dX9_isWord_8 (show sh 96 = (1, 59, []) from rfl) rfl (by decide) (by decide) ?_
  refine AW.iconst dX9_isWord_9 ?_
  refine AW.isub dX9_isWord_10 ?_
  refine AW.i2l dX9_isWord_11 (by omega) ?_
  refine AW.callS3ip (C9_in Γ M _ _ _ (by omega) (by decide) (by omega)) dX9_isWord_12 mc_X9_76 (fun _ => rfl) ⟨Nat.le_of_ble_eq_true rfl, Nat.le_of_ble_eq_true rfl⟩ (Nat.le_of_ble_eq_true rfl) ?_
  exact AW.zret rfl dX9_isWord_15 (bI_01 _) ⟨by simp only [bI, decide_eq_true_eq]; split <;> split <;> omega, rfl⟩

set_option maxRecDepth 20000 in
theorem C9_says (Γ : GC) (M : Mm) (ho : OkR (M 96)) (c : Int) (hc : R32 c) : Ct Γ uX9_says [rf Γ 94, vi c] M (fun z M' => z = sayZ (M 96) c ∧ M' = upM M 96 (sayR (M 96) c)) := by
  refine Ct.of (by decide) (Nat.le_of_ble_eq_true rfl) ?_
  show AW Γ uX9_says 0 [(0, rf Γ 94), (1, vi c)] [] M _
  obtain ⟨o0, o1, o2, o3, o4, o5, o6⟩ := id ho
  refine AW.iload_n dX9_says_0 1 rfl rfl ?_
  refine AW.i2l dX9_says_1 (by omega) ?_
  refine AW.lconst (z := (0)) dX9_says_2 rfl ?_
  refine AW.ldc2 (z := 25) dX9_says_3 kl_X9_74 (by decide +kernel) ?_
  refine AW.callS3ip (C9_in Γ M _ _ _ (by omega) (by decide) (by decide)) dX9_says_6 mc_X9_76 (fun _ => rfl) ⟨Nat.le_of_ble_eq_true rfl, Nat.le_of_ble_eq_true rfl⟩ (Nat.le_of_ble_eq_true rfl) ?_
  refine AW.if_ne 14 dX9_says_9 (by decide) (bI_r _) (fun c9 => ?_) (fun c9 => ?_)
  · have d9 := bI1.mp c9
    refine AW.aload_n dX9_says_14 0 rfl rfl ?_
    refine AW.getR dX9_says_15 fl_X9_13 (show sh 94 = (0, 9, [some 95, some 96, some 97, none, none, none, some 98, some 99, some 100, none, none, none, none, some 101, none, none, none, some 102, none, some 103, some 104, none, some 105, some 106, some 107, some 108]) from rfl) rfl ?_
    refine AW.iconst dX9_says_18 ?_
    refine AW.ialdN 0 dX9_says_19 (show sh 96 = (1, 59, []) from rfl) rfl (by decide) (by decide) ?_
    refine AW.bipush (z := (12)) dX9_says_20 (by decide) ?_
    refine AW.icmp_ne 28 dX9_says_22 (by decide) (by omega) (by omega) (fun c22 => ?_) (fun c22 => ?_)
    · refine AW.aload_n dX9_says_28 0 rfl rfl ?_
      refine AW.getR dX9_says_29 fl_X9_13 (show sh 94 = (0, 9, [some 95, some 96, some 97, none, none, none, some 98, some 99, some 100, none, none, none, none, some 101, none, none, none, some 102, none, some 103, some 104, none, some 105, some 106, some 107, some 108]) from rfl) rfl ?_
      refine AW.iconst dX9_says_32 ?_
      refine AW.aload_n dX9_says_33 0 rfl rfl ?_
      refine AW.getR dX9_says_34 fl_X9_13 (show sh 94 = (0, 9, [some 95, some 96, some 97, none, none, none, some 98, some 99, some 100, none, none, none, none, some 101, none, none, none, some 102, none, some 103, some 104, none, some 105, some 106, some 107, some 108]) from rfl) rfl ?_
      refine AW.iconst dX9_says_37 ?_
      refine AW.ialdN 0 dX9_says_38 (show sh 96 = (1, 59, []) from rfl) rfl (by decide) (by decide) ?_
      refine AW.iadd dX9_says_39 ?_
      refine AW.iload_n dX9_says_40 1 rfl rfl ?_
      refine AW.iastN (5 + (M 96 0).toNat) dX9_says_41 (show sh 96 = (1, 59, []) from rfl) (by omega) (by omega) (by decide) ?_
      refine AW.aload_n dX9_says_42 0 rfl rfl ?_
      refine AW.getR dX9_says_43 fl_X9_13 (show sh 94 = (0, 9, [some 95, some 96, some 97, none, none, none, some 98, some 99, some 100, none, none, none, none, some 101, none, none, none, some 102, none, some 103, some 104, none, some 105, some 106, some 107, some 108]) from rfl) rfl ?_
      refine AW.iconst dX9_says_46 ?_
      refine AW.dup2 dX9_says_47 rfl rfl ?_
      refine AW.ialdN 0 dX9_says_48 (show sh 96 = (1, 59, []) from rfl) rfl (by decide) (by decide) ?_
      rw [up2_i (by omega)]
      refine AW.iconst dX9_says_49 ?_
      refine AW.iadd dX9_says_50 ?_
      refine AW.iastN 0 dX9_says_51 (show sh 96 = (1, 59, []) from rfl) rfl (by decide) (by decide) ?_
      refine AW.aload_n dX9_says_52 0 rfl rfl ?_
      refine AW.getR dX9_says_53 fl_X9_13 (show sh 94 = (0, 9, [some 95, some 96, some 97, none, none, none, some 98, some 99, some 100, none, none, none, none, some 101, none, none, none, some 102, none, some 103, some 104, none, some 105, some 106, some 107, some 108]) from rfl) rfl ?_
      refine AW.iconst dX9_says_56 ?_
      refine AW.ialdN 0 dX9_says_57 (show sh 96 = (1, 59, []) from rfl) rfl (by decide) (by decide) ?_
      rw [up2_s]
      exact AW.iret rfl dX9_says_58 ⟨by unfold sayZ; rw [if_pos (by omega), if_neg c22], by unfold sayR; rw [if_pos ⟨by omega, c22⟩, up2_up M, upM_up2]⟩
    · refine AW.bipush (z := (-3)) dX9_says_25 (by decide) ?_
      exact AW.iret rfl dX9_says_27 ⟨by unfold sayZ; rw [if_pos (by omega), if_pos c22], by unfold sayR; rw [if_neg (fun q => q.2 c22), upM_id]⟩
  · have d9 := bI0.mp c9
    refine AW.iconst dX9_says_12 ?_
    exact AW.iret rfl dX9_says_13 ⟨by unfold sayZ; rw [if_neg (by omega)], by unfold sayR; rw [if_neg (by omega), upM_id]⟩

set_option maxRecDepth 20000 in
theorem C9_takesBack (Γ : GC) (M : Mm) (ho : OkR (M 96)) : Ct Γ uX9_takesBack [rf Γ 94] M (fun z M' => z = backZ (M 96) ∧ M' = upM M 96 (backR (M 96))) := by
  refine Ct.of (by decide) (Nat.le_of_ble_eq_true rfl) ?_
  show AW Γ uX9_takesBack 0 [(0, rf Γ 94)] [] M _
  obtain ⟨o0, o1, o2, o3, o4, o5, o6⟩ := id ho
  refine AW.aload_n dX9_takesBack_0 0 rfl rfl ?_
  refine AW.getR dX9_takesBack_1 fl_X9_13 (show sh 94 = (0, 9, [some 95, some 96, some 97, none, none, none, some 98, some 99, some 100, none, none, none, none, some 101, none, none, none, some 102, none, some 103, some 104, none, some 105, some 106, some 107, some 108]) from rfl) rfl ?_
  refine AW.iconst dX9_takesBack_4 ?_
  refine AW.ialdN 0 dX9_takesBack_5 (show sh 96 = (1, 59, []) from rfl) rfl (by decide) (by decide) ?_
  refine AW.if_ne 12 dX9_takesBack_6 (by decide) (by omega) (fun c6 => ?_) (fun c6 => ?_)
  · refine AW.aload_n dX9_takesBack_12 0 rfl rfl ?_
    refine AW.getR dX9_takesBack_13 fl_X9_13 (show sh 94 = (0, 9, [some 95, some 96, some 97, none, none, none, some 98, some 99, some 100, none, none, none, none, some 101, none, none, none, some 102, none, some 103, some 104, none, some 105, some 106, some 107, some 108]) from rfl) rfl ?_
    refine AW.iconst dX9_takesBack_16 ?_
    refine AW.dup2 dX9_takesBack_17 rfl rfl ?_
    refine AW.ialdN 0 dX9_takesBack_18 (show sh 96 = (1, 59, []) from rfl) rfl (by decide) (by decide) ?_
    refine AW.iconst dX9_takesBack_19 ?_
    refine AW.isub dX9_takesBack_20 ?_
    refine AW.iastN 0 dX9_takesBack_21 (show sh 96 = (1, 59, []) from rfl) rfl (by decide) (by decide) ?_
    refine AW.aload_n dX9_takesBack_22 0 rfl rfl ?_
    refine AW.aload_n dX9_takesBack_23 0 rfl rfl ?_
    refine AW.getR dX9_takesBack_24 fl_X9_13 (show sh 94 = (0, 9, [some 95, some 96, some 97, none, none, none, some 98, some 99, some 100, none, none, none, none, some 101, none, none, none, some 102, none, some 103, some 104, none, some 105, some 106, some 107, some 108]) from rfl) rfl ?_
    refine AW.iconst dX9_takesBack_27 ?_
    refine AW.ialdN 0 dX9_takesBack_28 (show sh 96 = (1, 59, []) from rfl) rfl (by decide) (by decide) ?_
    rw [up2_s]
    refine AW.callV1ip (C9_at Γ _ _ (M 96 0 - 1).toNat (by omega) (by omega)) dX9_takesBack_29 mc_X9_91 (show sh 94 = (0, 9, [some 95, some 96, some 97, none, none, none, some 98, some 99, some 100, none, none, none, none, some 101, none, none, none, some 102, none, some 103, some 104, none, some 105, some 106, some 107, some 108]) from rfl) (fun _ => rfl) ⟨Nat.le_of_ble_eq_true rfl, Nat.le_of_ble_eq_true rfl⟩ (Nat.le_of_ble_eq_true rfl) ?_
    exact AW.iret rfl dX9_takesBack_32 ⟨by unfold backZ; rw [if_neg c6, up2_i (by omega)], by unfold backR; rw [if_neg c6, up2_up]⟩
  · refine AW.bipush (z := (-4)) dX9_takesBack_9 (by decide) ?_
    exact AW.iret rfl dX9_takesBack_11 ⟨by unfold backZ; rw [if_pos c6], by unfold backR; rw [if_pos c6, upM_id]⟩

set_option maxRecDepth 20000 in
theorem C9_tells (Γ : GC) (M : Mm) (ho : OkR (M 96)) (a v : Int) (ha : R32 a) (hv : R32 v) : Ct Γ uX9_tells [rf Γ 94, vi a, vi v] M (fun z M' => z = tellZ (M 96) a v ∧ M' = upM M 96 (tellR (M 96) a v)) := by
  refine Ct.of (by decide) (Nat.le_of_ble_eq_true rfl) ?_
  show AW Γ uX9_tells 0 [(0, rf Γ 94), (1, vi a), (2, vi v)] [] M _
  obtain ⟨o0, o1, o2, o3, o4, o5, o6⟩ := id ho
  refine AW.iload_n dX9_tells_0 1 rfl rfl ?_
  refine AW.i2l dX9_tells_1 (by omega) ?_
  refine AW.lconst (z := (0)) dX9_tells_2 rfl ?_
  refine AW.lconst (z := (1)) dX9_tells_3 rfl ?_
  refine AW.callS3ip (C9_in Γ M _ _ _ (by omega) (by decide) (by decide)) dX9_tells_4 mc_X9_76 (fun _ => rfl) ⟨Nat.le_of_ble_eq_true rfl, Nat.le_of_ble_eq_true rfl⟩ (Nat.le_of_ble_eq_true rfl) ?_
  refine AW.if_eq 22 dX9_tells_7 (by decide) (bI_r _) (fun c7 => ?_) (fun c7 => ?_)
  · have d7 := bI0.mp c7
    refine AW.iconst dX9_tells_22 ?_
    exact AW.iret rfl dX9_tells_23 ⟨by unfold tellZ; rw [if_neg (by omega)], by unfold tellR; rw [if_neg (by omega), upM_id]⟩
  · have d7 := bI1.mp c7
    refine AW.iload_n dX9_tells_10 2 rfl rfl ?_
    refine AW.i2l dX9_tells_11 (by omega) ?_
    refine AW.lconst (z := (1)) dX9_tells_12 rfl ?_
    refine AW.ldc2 (z := 4) dX9_tells_13 kl_X9_106 (by decide +kernel) ?_
    refine AW.callS3ip (C9_in Γ M _ _ _ (by omega) (by decide) (by decide)) dX9_tells_16 mc_X9_76 (fun _ => rfl) ⟨Nat.le_of_ble_eq_true rfl, Nat.le_of_ble_eq_true rfl⟩ (Nat.le_of_ble_eq_true rfl) ?_
    refine AW.if_ne 24 dX9_tells_19 (by decide) (bI_r _) (fun c19 => ?_) (fun c19 => ?_)
    · have d19 := bI1.mp c19
      have e3 : 1 ≤ M 96 (2 + a.toNat) ∧ M 96 (2 + a.toNat) ≤ 4 := by rcases (show a = 0 ∨ a = 1 by omega) with rfl | rfl <;> assumption
      refine AW.aload_n dX9_tells_24 0 rfl rfl ?_
      refine AW.getR dX9_tells_25 fl_X9_13 (show sh 94 = (0, 9, [some 95, some 96, some 97, none, none, none, some 98, some 99, some 100, none, none, none, none, some 101, none, none, none, some 102, none, some 103, some 104, none, some 105, some 106, some 107, some 108]) from rfl) rfl ?_
      refine AW.iconst dX9_tells_28 ?_
      refine AW.iload_n dX9_tells_29 1 rfl rfl ?_
      refine AW.iadd dX9_tells_30 ?_
      refine AW.ialdN (2 + a.toNat) dX9_tells_31 (show sh 96 = (1, 59, []) from rfl) (by omega) (by omega) (by decide) ?_
      refine AW.top (fun was ewas => ?_)
      refine AW.istore_n [(3, vi was), (0, rf Γ 94), (1, vi a), (2, vi v)] dX9_tells_32 rfl (by decide) rfl ?_
      refine AW.iload_n dX9_tells_33 0 rfl rfl ?_
      refine AW.iload_n dX9_tells_34 3 rfl rfl ?_
      refine AW.icmp_ne 41 dX9_tells_35 (by decide) (by omega) (by omega) (fun c35 => ?_) (fun c35 => ?_)
      · refine AW.aload_n dX9_tells_41 1 rfl rfl ?_
        refine AW.getR dX9_tells_42 fl_X9_13 (show sh 94 = (0, 9, [some 95, some 96, some 97, none, none, none, some 98, some 99, some 100, none, none, none, none, some 101, none, none, none, some 102, none, some 103, some 104, none, some 105, some 106, some 107, some 108]) from rfl) rfl ?_
        refine AW.iconst dX9_tells_45 ?_
        refine AW.iload_n dX9_tells_46 2 rfl rfl ?_
        refine AW.iadd dX9_tells_47 ?_
        refine AW.iload_n dX9_tells_48 3 rfl rfl ?_
        refine AW.iastN (2 + a.toNat) dX9_tells_49 (show sh 96 = (1, 59, []) from rfl) (by omega) (by omega) (by decide) ?_
        refine AW.iload_n dX9_tells_50 0 rfl rfl ?_
        exact AW.iret rfl dX9_tells_51 ⟨by unfold tellZ; rw [if_pos (by omega), if_neg (by omega)]; omega, by unfold tellR; rw [if_pos (by omega), up2_up]⟩
      · refine AW.bipush (z := (-2)) dX9_tells_38 (by decide) ?_
        exact AW.iret rfl dX9_tells_40 ⟨by unfold tellZ; rw [if_pos (by omega), if_pos (by omega)], by unfold tellR; rw [if_neg (by omega), upM_id]⟩
    · have d19 := bI0.mp c19
      refine AW.iconst dX9_tells_22 ?_
      exact AW.iret rfl dX9_tells_23 ⟨by unfold tellZ; rw [if_neg (by omega)], by unfold tellR; rw [if_neg (by omega), upM_id]⟩

def kpF (r : Nat → Int) (i : Nat) : Nat → Int := fun j => if j = 17 + 7 * (r 1).toNat then r 0 else if 18 + 7 * (r 1).toNat ≤ j ∧ j < 18 + 7 * (r 1).toNat + i then (if ((j - (18 + 7 * (r 1).toNat) : Nat) : Int) < r 0 then r (5 + (j - (18 + 7 * (r 1).toNat))) else 0) else r j
theorem kpF_step (r : Nat → Int) (i : Nat) : up1 (kpF r i) (18 + 7 * (r 1).toNat + i) (if (i : Int) < r 0 then r (5 + i) else 0) = kpF r (i + 1) := by
  funext j; simp only [up1, kpF]
  by_cases h : j = 18 + 7 * (r 1).toNat + i
  · rw [if_pos h, if_neg (show ¬ j = 17 + 7 * (r 1).toNat by omega), if_pos (show 18 + 7 * (r 1).toNat ≤ j ∧ j < 18 + 7 * (r 1).toNat + (i + 1) by omega), show j - (18 + 7 * (r 1).toNat) = i by omega]
  · rw [if_neg h]
    by_cases h3 : j = 17 + 7 * (r 1).toNat
    · rw [if_pos h3, if_pos h3]
    · rw [if_neg h3, if_neg h3]
      by_cases h2 : 18 + 7 * (r 1).toNat ≤ j ∧ j < 18 + 7 * (r 1).toNat + i
      · rw [if_pos h2, if_pos (show 18 + 7 * (r 1).toNat ≤ j ∧ j < 18 + 7 * (r 1).toNat + (i + 1) by omega)]
      · rw [if_neg h2, if_neg (show ¬ (18 + 7 * (r 1).toNat ≤ j ∧ j < 18 + 7 * (r 1).toNat + (i + 1)) by omega)]
theorem kpF_end (r : Nat → Int) (h : (1 ≤ r 0 ∧ r 0 ≤ 6) ∧ ¬ r 1 = 6) (h1 : 0 ≤ r 1) : up1 (kpF r 6) 1 (r 1 + 1) = keepR r := by
  unfold keepR; rw [if_pos h]
  funext j; simp only [up1, kpF]
  rw [show 18 + 7 * (r 1).toNat + 6 = 24 + 7 * (r 1).toNat by omega]
theorem kpF_0 (r : Nat → Int) : up1 r (17 + 7 * (r 1).toNat) (r 0) = kpF r 0 := by
  funext j; simp only [up1, kpF]; split
  · rfl
  · rw [if_neg (by omega)]

theorem keeps_loop (Γ : GC) (M : Mm) (ho : OkR (M 96)) (to : Int) (hto : to = 17 + 7 * M 96 1) (h16 : M 96 1 < 6) (Q : Int → Mm → Prop) (hx : ∀ x : Int, x = 6 → AW Γ uX9_keeps 102 [(2, vi x), (1, vi to), (0, rf Γ 94)] [] (upM M 96 (kpF (M 96) 6)) Q) : ∀ (n i : Nat) (x : Int), x = i → i ≤ 6 → 6 - i < n → AW Γ uX9_keeps 61 [(2, vi x), (1, vi to), (0, rf Γ 94)] [] (upM M 96 (kpF (M 96) i)) Q := by
  obtain ⟨o0, o1, o2, o3, o4, o5, o6⟩ := id ho
  have kpFi : ∀ (i j : Nat), j < 17 → kpF (M 96) i j = M 96 j := fun i j hj => by simp only [kpF]; rw [if_neg (by omega), if_neg (by omega)]
  intro n
  induction n with
  | zero => intro i x g0 g1 gm; omega
  | succ n ih =>
    intro i x g0 g1 gm
    have kpF0 : kpF (M 96) i 0 = M 96 0 := kpFi i 0 (by omega)
    refine AW.iload_n dX9_keeps_61 0 rfl rfl ?_
    refine AW.bipush (z := (6)) dX9_keeps_62 (by decide) ?_
    refine AW.icmp_ge 102 dX9_keeps_64 (by decide) (by omega) (by omega) (fun c64 => ?_) (fun c64 => ?_)
    · refine AW.sub [0, 1, 2] rfl ?_
      rw [show i = 6 by omega]
      exact hx x (by omega)
    · refine AW.aload_n dX9_keeps_67 2 rfl rfl ?_
      refine AW.getR dX9_keeps_68 fl_X9_13 (show sh 94 = (0, 9, [some 95, some 96, some 97, none, none, none, some 98, some 99, some 100, none, none, none, none, some 101, none, none, none, some 102, none, some 103, some 104, none, some 105, some 106, some 107, some 108]) from rfl) rfl ?_
      refine AW.iload_n dX9_keeps_71 1 rfl rfl ?_
      refine AW.iconst dX9_keeps_72 ?_
      refine AW.iadd dX9_keeps_73 ?_
      refine AW.iload_n dX9_keeps_74 0 rfl rfl ?_
      refine AW.iadd dX9_keeps_75 ?_
      refine AW.iload_n dX9_keeps_76 0 rfl rfl ?_
      refine AW.aload_n dX9_keeps_77 2 rfl rfl ?_
      refine AW.getR dX9_keeps_78 fl_X9_13 (show sh 94 = (0, 9, [some 95, some 96, some 97, none, none, none, some 98, some 99, some 100, none, none, none, none, some 101, none, none, none, some 102, none, some 103, some 104, none, some 105, some 106, some 107, some 108]) from rfl) rfl ?_
      refine AW.iconst dX9_keeps_81 ?_
      refine AW.ialdN 0 dX9_keeps_82 (show sh 96 = (1, 59, []) from rfl) rfl (by decide) (by decide) ?_
      rw [upM_s, kpF0]
      refine AW.icmp_ge 94 dX9_keeps_83 (by decide) (by omega) (by omega) (fun c83 => ?_) (fun c83 => ?_)
      · refine AW.iconst dX9_keeps_94 ?_
        refine AW.iastN (18 + 7 * (M 96 1).toNat + i) dX9_keeps_95 (show sh 96 = (1, 59, []) from rfl) (by omega) (by omega) (by decide) ?_
        obtain ⟨x96, ex96⟩ : ∃ z : Int, x + 1 = z := ⟨_, rfl⟩
        refine AW.iinc [(2, vi x96), (1, vi to), (0, rf Γ 94)] dX9_keeps_96 0 rfl (by decide) x96 ex96 rfl ?_
        refine AW.goto 61 dX9_keeps_99 (by decide) ?_
        refine AW.sub [0, 1, 2] rfl ?_
        refine AW.toM ((upM_up2 _ _ _ _ _).trans (congrArg (upM M 96) (show _ = kpF (M 96) (i + 1) from ?_))) (ih (i + 1) x96 (by omega) (by omega) (by omega))
        rw [← kpF_step]
        congr 1
        first | (rw [if_pos (by omega), upM_s, kpFi _ _ (by omega)]; done) | (rw [if_neg (by omega)]; done)
      · refine AW.aload_n dX9_keeps_86 2 rfl rfl ?_
        refine AW.iload_n dX9_keeps_87 0 rfl rfl ?_
        refine AW.callV1ip (C9_at Γ _ _ i (by omega) (by omega)) dX9_keeps_88 mc_X9_91 (show sh 94 = (0, 9, [some 95, some 96, some 97, none, none, none, some 98, some 99, some 100, none, none, none, none, some 101, none, none, none, some 102, none, some 103, some 104, none, some 105, some 106, some 107, some 108]) from rfl) (fun _ => rfl) ⟨Nat.le_of_ble_eq_true rfl, Nat.le_of_ble_eq_true rfl⟩ (Nat.le_of_ble_eq_true rfl) ?_
        refine AW.goto 95 dX9_keeps_91 (by decide) ?_
        refine AW.iastN (18 + 7 * (M 96 1).toNat + i) dX9_keeps_95 (show sh 96 = (1, 59, []) from rfl) (by omega) (by omega) (by decide) ?_
        obtain ⟨x96, ex96⟩ : ∃ z : Int, x + 1 = z := ⟨_, rfl⟩
        refine AW.iinc [(2, vi x96), (1, vi to), (0, rf Γ 94)] dX9_keeps_96 0 rfl (by decide) x96 ex96 rfl ?_
        refine AW.goto 61 dX9_keeps_99 (by decide) ?_
        refine AW.sub [0, 1, 2] rfl ?_
        refine AW.toM ((upM_up2 _ _ _ _ _).trans (congrArg (upM M 96) (show _ = kpF (M 96) (i + 1) from ?_))) (ih (i + 1) x96 (by omega) (by omega) (by omega))
        rw [← kpF_step]
        congr 1
        first | (rw [if_pos (by omega), upM_s, kpFi _ _ (by omega)]; done) | (rw [if_neg (by omega)]; done)

set_option maxRecDepth 20000 in
theorem C9_keeps (Γ : GC) (M : Mm) (ho : OkR (M 96)) : Ct Γ uX9_keeps [rf Γ 94] M (fun z M' => z = keepZ (M 96) ∧ M' = upM M 96 (keepR (M 96))) := by
  refine Ct.of (by decide) (Nat.le_of_ble_eq_true rfl) ?_
  show AW Γ uX9_keeps 0 [(0, rf Γ 94)] [] M _
  obtain ⟨o0, o1, o2, o3, o4, o5, o6⟩ := id ho
  have kpF1 : kpF (M 96) 6 1 = M 96 1 := by simp only [kpF]; rw [if_neg (by omega), if_neg (by omega)]
  refine AW.aload_n dX9_keeps_0 0 rfl rfl ?_
  refine AW.getR dX9_keeps_1 fl_X9_13 (show sh 94 = (0, 9, [some 95, some 96, some 97, none, none, none, some 98, some 99, some 100, none, none, none, none, some 101, none, none, none, some 102, none, some 103, some 104, none, some 105, some 106, some 107, some 108]) from rfl) rfl ?_
  refine AW.iconst dX9_keeps_4 ?_
  refine AW.ialdN 0 dX9_keeps_5 (show sh 96 = (1, 59, []) from rfl) rfl (by decide) (by decide) ?_
  refine AW.i2l dX9_keeps_6 (by omega) ?_
  refine AW.lconst (z := (1)) dX9_keeps_7 rfl ?_
  refine AW.ldc2 (z := 6) dX9_keeps_8 kl_X9_94 (by decide +kernel) ?_
  refine AW.callS3ip (C9_in Γ M _ _ _ (by omega) (by decide) (by decide)) dX9_keeps_11 mc_X9_76 (fun _ => rfl) ⟨Nat.le_of_ble_eq_true rfl, Nat.le_of_ble_eq_true rfl⟩ (Nat.le_of_ble_eq_true rfl) ?_
  refine AW.if_ne 20 dX9_keeps_14 (by decide) (bI_r _) (fun c14 => ?_) (fun c14 => ?_)
  · have d14 := bI1.mp c14
    refine AW.aload_n dX9_keeps_20 0 rfl rfl ?_
    refine AW.getR dX9_keeps_21 fl_X9_13 (show sh 94 = (0, 9, [some 95, some 96, some 97, none, none, none, some 98, some 99, some 100, none, none, none, none, some 101, none, none, none, some 102, none, some 103, some 104, none, some 105, some 106, some 107, some 108]) from rfl) rfl ?_
    refine AW.iconst dX9_keeps_24 ?_
    refine AW.ialdN 1 dX9_keeps_25 (show sh 96 = (1, 59, []) from rfl) rfl (by decide) (by decide) ?_
    refine AW.bipush (z := (6)) dX9_keeps_26 (by decide) ?_
    refine AW.icmp_ne 34 dX9_keeps_28 (by decide) (by omega) (by omega) (fun c28 => ?_) (fun c28 => ?_)
    · refine AW.bipush (z := (17)) dX9_keeps_34 (by decide) ?_
      refine AW.bipush (z := (7)) dX9_keeps_36 (by decide) ?_
      refine AW.aload_n dX9_keeps_38 0 rfl rfl ?_
      refine AW.getR dX9_keeps_39 fl_X9_13 (show sh 94 = (0, 9, [some 95, some 96, some 97, none, none, none, some 98, some 99, some 100, none, none, none, none, some 101, none, none, none, some 102, none, some 103, some 104, none, some 105, some 106, some 107, some 108]) from rfl) rfl ?_
      refine AW.iconst dX9_keeps_42 ?_
      refine AW.ialdN 1 dX9_keeps_43 (show sh 96 = (1, 59, []) from rfl) rfl (by decide) (by decide) ?_
      refine AW.imul dX9_keeps_44 ?_
      refine AW.iadd dX9_keeps_45 ?_
      refine AW.top (fun to eto => ?_)
      refine AW.istore_n [(1, vi to), (0, rf Γ 94)] dX9_keeps_46 rfl (by decide) rfl ?_
      refine AW.aload_n dX9_keeps_47 1 rfl rfl ?_
      refine AW.getR dX9_keeps_48 fl_X9_13 (show sh 94 = (0, 9, [some 95, some 96, some 97, none, none, none, some 98, some 99, some 100, none, none, none, none, some 101, none, none, none, some 102, none, some 103, some 104, none, some 105, some 106, some 107, some 108]) from rfl) rfl ?_
      refine AW.iload_n dX9_keeps_51 0 rfl rfl ?_
      refine AW.aload_n dX9_keeps_52 1 rfl rfl ?_
      refine AW.getR dX9_keeps_53 fl_X9_13 (show sh 94 = (0, 9, [some 95, some 96, some 97, none, none, none, some 98, some 99, some 100, none, none, none, none, some 101, none, none, none, some 102, none, some 103, some 104, none, some 105, some 106, some 107, some 108]) from rfl) rfl ?_
      refine AW.iconst dX9_keeps_56 ?_
      refine AW.ialdN 0 dX9_keeps_57 (show sh 96 = (1, 59, []) from rfl) rfl (by decide) (by decide) ?_
      refine AW.iastN (17 + 7 * (M 96 1).toNat) dX9_keeps_58 (show sh 96 = (1, 59, []) from rfl) (by omega) (by omega) (by decide) ?_
      refine AW.iconst dX9_keeps_59 ?_
      refine AW.top (fun x60 ex60 => ?_)
      refine AW.istore_n [(2, vi x60), (1, vi to), (0, rf Γ 94)] dX9_keeps_60 rfl (by decide) rfl ?_
      refine AW.sub [0, 1, 2] rfl ?_
      refine AW.toM (M' := upM M 96 (kpF (M 96) 0)) (congrArg (upM M 96) (kpF_0 _)) (keeps_loop Γ M ho to eto (by omega) _ (fun x hx6 => ?_) 7 0 x60 (by omega) (by omega) (by omega))
      refine AW.aload_n dX9_keeps_102 2 rfl rfl ?_
      refine AW.getR dX9_keeps_103 fl_X9_13 (show sh 94 = (0, 9, [some 95, some 96, some 97, none, none, none, some 98, some 99, some 100, none, none, none, none, some 101, none, none, none, some 102, none, some 103, some 104, none, some 105, some 106, some 107, some 108]) from rfl) rfl ?_
      refine AW.iconst dX9_keeps_106 ?_
      refine AW.dup2 dX9_keeps_107 rfl rfl ?_
      refine AW.ialdN 1 dX9_keeps_108 (show sh 96 = (1, 59, []) from rfl) rfl (by decide) (by decide) ?_
      rw [upM_s, kpF1]
      refine AW.iconst dX9_keeps_109 ?_
      refine AW.iadd dX9_keeps_110 ?_
      refine AW.iastN 1 dX9_keeps_111 (show sh 96 = (1, 59, []) from rfl) rfl (by decide) (by decide) ?_
      refine AW.aload_n dX9_keeps_112 2 rfl rfl ?_
      refine AW.getR dX9_keeps_113 fl_X9_13 (show sh 94 = (0, 9, [some 95, some 96, some 97, none, none, none, some 98, some 99, some 100, none, none, none, none, some 101, none, none, none, some 102, none, some 103, some 104, none, some 105, some 106, some 107, some 108]) from rfl) rfl ?_
      refine AW.iconst dX9_keeps_116 ?_
      refine AW.ialdN 1 dX9_keeps_117 (show sh 96 = (1, 59, []) from rfl) rfl (by decide) (by decide) ?_
      rw [up2_s]
      refine AW.iconst dX9_keeps_118 ?_
      refine AW.isub dX9_keeps_119 ?_
      exact AW.iret rfl dX9_keeps_120 ⟨by unfold keepZ; rw [if_pos (by omega), if_neg (by omega)]; omega, by rw [upM_up2, kpF_end _ ⟨by omega, by omega⟩ (by omega)]⟩
    · refine AW.bipush (z := (-3)) dX9_keeps_31 (by decide) ?_
      exact AW.iret rfl dX9_keeps_33 ⟨by unfold keepZ; rw [if_pos (by omega), if_pos (by omega)], by unfold keepR; rw [if_neg (by omega), upM_id]⟩
  · have d14 := bI0.mp c14
    refine AW.bipush (z := (-2)) dX9_keeps_17 (by decide) ?_
    exact AW.iret rfl dX9_keeps_19 ⟨by unfold keepZ; rw [if_neg (by omega)], by unfold keepR; rw [if_neg (by omega), upM_id]⟩
