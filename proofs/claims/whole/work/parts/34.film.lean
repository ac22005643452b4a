/-! least and arm of the reference; film of both -/
theorem gt_kf {M N : Mm} (hg : gtP M N (EF (M 96) (M 96 0).toNat (M 96 0).toNat 0, WF (M 96) (M 96 0).toNat (M 96 0).toNat 0, KF (M 96) (M 96 0).toNat (M 96 0).toNat 0)) : N 94 5 = (KF (M 96) (M 96 0).toNat (M 96 0).toNat 0 : Nat) := hg.1.2.2
theorem KF_12 {r : Nat → Int} (ho : OkR r) : KF r (r 0).toNat (r 0).toNat 0 < 4096 :=
  Nat.lt_of_lt_of_le (KF_lt r (r 0).toNat (r 0).toNat 0) (Nat.pow_le_pow_right (show 2 > 0 by decide) (show (r 0).toNat ≤ 12 by have := ho.1; omega))
def offG (M M' : Mm) : Prop := (∀ j : Nat, j ≠ 3 → j ≠ 4 → j ≠ 5 → M' 94 j = M 94 j) ∧ ∀ a : Nat, a ≠ 94 → M' a = M a

set_option maxRecDepth 20000 in
theorem C9_least (Γ : GC) (M : Mm) (hsg : SG M) (ho : OkR (M 96)) (c : Int) (hc0 : R32 c) : Ct Γ uX9_least [rf Γ 94, vi c] M (fun z M' => z = leastS (M 96) c ∧ offG M M') := by
  refine Ct.of (by decide) (Nat.le_of_ble_eq_true rfl) ?_
  show AW Γ uX9_least 0 [(0, rf Γ 94), (1, vi c)] [] M _
  refine AW.iload_n dX9_least_0 1 rfl rfl ?_
  refine AW.i2l dX9_least_1 (by omega) ?_
  refine AW.lconst (z := (0)) dX9_least_2 rfl ?_
  refine AW.ldc2 (z := 3) dX9_least_3 kl_X9_158 (by decide +kernel) ?_
  refine AW.callS3ip (C9_in Γ M _ _ _ (by omega) (by decide) (by decide)) dX9_least_6 mc_X9_76 (fun _ => rfl) ⟨Nat.le_of_ble_eq_true rfl, Nat.le_of_ble_eq_true rfl⟩ (Nat.le_of_ble_eq_true rfl) ?_
  refine AW.if_ne 14 dX9_least_9 (by decide) (bI_r _) (fun c9 => ?_) (fun c9 => ?_)
  · have d9 := bI1.mp c9
    refine AW.aload_n dX9_least_14 0 rfl rfl ?_
    refine AW.callV0v (C9_goes Γ M hsg ho) dX9_least_15 mc_X9_160 (show sh 94 = (0, 9, [some 95, some 96, some 97, none, none, none, some 98, some 99, some 100, none, none, none, none, some 101, none, none, none, some 102, none, some 103, some 104, none, some 105, some 106, some 107, some 108]) from rfl) (fun _ => rfl) ⟨Nat.le_of_ble_eq_true rfl, Nat.le_of_ble_eq_true rfl⟩ (Nat.le_of_ble_eq_true rfl) (fun z15 M15 h15 => ?_)
    have e96 : M15 96 = M 96 := h15.2.2 96 (by decide)
    have sgN : SG M15 := fun j hj => by rw [h15.2.2 95 (by decide)]; exact hsg j hj
    have hk5 := gt_kf h15
    have hk12 := KF_12 ho
    have sdq := bsF_sd (r := M 96) (M 96 0).toNat
    refine AW.iload_n dX9_least_18 1 rfl rfl ?_
    refine AW.if_ne 29 dX9_least_19 (by decide) (by omega) (fun c19 => ?_) (fun c19 => ?_)
    · refine AW.iload_n dX9_least_29 1 rfl rfl ?_
      refine AW.iconst dX9_least_30 ?_
      refine AW.icmp_ne 41 dX9_least_31 (by decide) (by omega) (by omega) (fun c31 => ?_) (fun c31 => ?_)
      · refine AW.aload_n dX9_least_41 0 rfl rfl ?_
        refine AW.aload_n dX9_least_42 0 rfl rfl ?_
        refine AW.getI dX9_least_43 fl_X9_151 (show sh 94 = (0, 9, [some 95, some 96, some 97, none, none, none, some 98, some 99, some 100, none, none, none, none, some 101, none, none, none, some 102, none, some 103, some 104, none, some 105, some 106, some 107, some 108]) from rfl) rfl ?_
        refine AW.iload_n dX9_least_46 1 rfl rfl ?_
        refine AW.iconst dX9_least_47 ?_
        refine AW.icmp_ne 55 dX9_least_48 (by decide) (by omega) (by omega) (fun c48 => ?_) (fun c48 => ?_)
        · refine AW.iconst dX9_least_55 ?_
          refine AW.callV2ip (C9_stepsR Γ M15 sgN (by rw [e96]; exact ho) _ _ _ hk5 hk12 rfl) dX9_least_56 mc_X9_154 (show sh 94 = (0, 9, [some 95, some 96, some 97, none, none, none, some 98, some 99, some 100, none, none, none, none, some 101, none, none, none, some 102, none, some 103, some 104, none, some 105, some 106, some 107, some 108]) from rfl) (fun _ => rfl) ⟨Nat.le_of_ble_eq_true rfl, Nat.le_of_ble_eq_true rfl⟩ (Nat.le_of_ble_eq_true rfl) ?_
          exact AW.iret rfl dX9_least_59 ⟨by unfold leastS; first | (rw [if_pos (by omega)]; exact h15.1.1) | (rw [if_neg (by omega), if_pos (by omega)]; exact h15.1.2.1) | (rw [if_neg (by omega), if_neg (by omega), if_pos (by omega), e96]; exact stF_congr _ _ (fun p hp => sdq p hp)) | (rw [if_neg (by omega), if_neg (by omega), if_neg (by omega), if_pos (by omega), e96]; exact stF_congr _ _ (fun p hp => by rw [sdq p hp])), h15.2⟩
        · refine AW.iconst dX9_least_51 ?_
          refine AW.goto 56 dX9_least_52 (by decide) ?_
          refine AW.callV2ip (C9_stepsL Γ M15 sgN (by rw [e96]; exact ho) _ _ _ hk5 hk12 rfl) dX9_least_56 mc_X9_154 (show sh 94 = (0, 9, [some 95, some 96, some 97, none, none, none, some 98, some 99, some 100, none, none, none, none, some 101, none, none, none, some 102, none, some 103, some 104, none, some 105, some 106, some 107, some 108]) from rfl) (fun _ => rfl) ⟨Nat.le_of_ble_eq_true rfl, Nat.le_of_ble_eq_true rfl⟩ (Nat.le_of_ble_eq_true rfl) ?_
          exact AW.iret rfl dX9_least_59 ⟨by unfold leastS; first | (rw [if_pos (by omega)]; exact h15.1.1) | (rw [if_neg (by omega), if_pos (by omega)]; exact h15.1.2.1) | (rw [if_neg (by omega), if_neg (by omega), if_pos (by omega), e96]; exact stF_congr _ _ (fun p hp => sdq p hp)) | (rw [if_neg (by omega), if_neg (by omega), if_neg (by omega), if_pos (by omega), e96]; exact stF_congr _ _ (fun p hp => by rw [sdq p hp])), h15.2⟩
      · refine AW.aload_n dX9_least_34 0 rfl rfl ?_
        refine AW.getI dX9_least_35 fl_X9_148 (show sh 94 = (0, 9, [some 95, some 96, some 97, none, none, none, some 98, some 99, some 100, none, none, none, none, some 101, none, none, none, some 102, none, some 103, some 104, none, some 105, some 106, some 107, some 108]) from rfl) rfl ?_
        refine AW.goto 59 dX9_least_38 (by decide) ?_
        exact AW.iret rfl dX9_least_59 ⟨by unfold leastS; first | (rw [if_pos (by omega)]; exact h15.1.1) | (rw [if_neg (by omega), if_pos (by omega)]; exact h15.1.2.1) | (rw [if_neg (by omega), if_neg (by omega), if_pos (by omega), e96]; exact stF_congr _ _ (fun p hp => sdq p hp)) | (rw [if_neg (by omega), if_neg (by omega), if_neg (by omega), if_pos (by omega), e96]; exact stF_congr _ _ (fun p hp => by rw [sdq p hp])), h15.2⟩
    · refine AW.aload_n dX9_least_22 0 rfl rfl ?_
      refine AW.getI dX9_least_23 fl_X9_145 (show sh 94 = (0, 9, [some 95, some 96, some 97, none, none, none, some 98, some 99, some 100, none, none, none, none, some 101, none, none, none, some 102, none, some 103, some 104, none, some 105, some 106, some 107, some 108]) from rfl) rfl ?_
      refine AW.goto 59 dX9_least_26 (by decide) ?_
      exact AW.iret rfl dX9_least_59 ⟨by unfold leastS; first | (rw [if_pos (by omega)]; exact h15.1.1) | (rw [if_neg (by omega), if_pos (by omega)]; exact h15.1.2.1) | (rw [if_neg (by omega), if_neg (by omega), if_pos (by omega), e96]; exact stF_congr _ _ (fun p hp => sdq p hp)) | (rw [if_neg (by omega), if_neg (by omega), if_neg (by omega), if_pos (by omega), e96]; exact stF_congr _ _ (fun p hp => by rw [sdq p hp])), h15.2⟩
  · have d9 := bI0.mp c9
    refine AW.iconst dX9_least_12 ?_
    exact AW.iret rfl dX9_least_13 ⟨by unfold leastS; rw [if_neg (by omega), if_neg (by omega), if_neg (by omega), if_neg (by omega)], fun _ _ _ _ => rfl, fun _ _ => rfl⟩

set_option maxRecDepth 20000 in
theorem C9_arm (Γ : GC) (M : Mm) (hsg : SG M) (ho : OkR (M 96)) (i c : Int) (hi : R32 i) (hc0 : R32 c) : Ct Γ uX9_arm [rf Γ 94, vi i, vi c] M (fun z M' => z = armS (M 96) i c ∧ offG M M') := by
  refine Ct.of (by decide) (Nat.le_of_ble_eq_true rfl) ?_
  show AW Γ uX9_arm 0 [(0, rf Γ 94), (1, vi i), (2, vi c)] [] M _
  have o0 := ho.1
  refine AW.iload_n dX9_arm_0 1 rfl rfl ?_
  refine AW.i2l dX9_arm_1 (by omega) ?_
  refine AW.lconst (z := (0)) dX9_arm_2 rfl ?_
  refine AW.aload_n dX9_arm_3 0 rfl rfl ?_
  refine AW.getR dX9_arm_4 fl_X9_13 (show sh 94 = (0, 9, [some 95, some 96, some 97, none, none, none, some 98, some 99, some 100, none, none, none, none, some 101, none, none, none, some 102, none, some 103, some 104, none, some 105, some 106, some 107, some 108]) from rfl) rfl ?_
  refine AW.iconst dX9_arm_7 ?_
  refine AW.ialdN 0 dX9_arm_8 (show sh 96 = (1, 59, []) from rfl) rfl (by decide) (by decide) ?_
  refine AW.iconst dX9_arm_9 ?_
  refine AW.isub dX9_arm_10 ?_
  refine AW.i2l dX9_arm_11 (by omega) ?_
  refine AW.callS3ip (C9_in Γ M _ _ _ (by omega) (by omega) (by omega)) dX9_arm_12 mc_X9_76 (fun _ => rfl) ⟨Nat.le_of_ble_eq_true rfl, Nat.le_of_ble_eq_true rfl⟩ (Nat.le_of_ble_eq_true rfl) ?_
  refine AW.if_eq 28 dX9_arm_15 (by decide) (bI_r _) (fun c15 => ?_) (fun c15 => ?_)
  · have d15 := bI0.mp c15
    refine AW.iconst dX9_arm_28 ?_
    exact AW.iret rfl dX9_arm_29 ⟨by unfold armS; rw [if_neg (by omega)], fun _ _ _ _ => rfl, fun _ _ => rfl⟩
  · have d15 := bI1.mp c15
    refine AW.iload_n dX9_arm_18 2 rfl rfl ?_
    refine AW.i2l dX9_arm_19 (by omega) ?_
    refine AW.lconst (z := (0)) dX9_arm_20 rfl ?_
    refine AW.lconst (z := (1)) dX9_arm_21 rfl ?_
    refine AW.callS3ip (C9_in Γ M _ _ _ (by omega) (by omega) (by omega)) dX9_arm_22 mc_X9_76 (fun _ => rfl) ⟨Nat.le_of_ble_eq_true rfl, Nat.le_of_ble_eq_true rfl⟩ (Nat.le_of_ble_eq_true rfl) ?_
    refine AW.if_ne 30 dX9_arm_25 (by decide) (bI_r _) (fun c25 => ?_) (fun c25 => ?_)
    · have d25 := bI1.mp c25
      refine AW.aload_n dX9_arm_30 0 rfl rfl ?_
      refine AW.callV0v (C9_goes Γ M hsg ho) dX9_arm_31 mc_X9_160 (show sh 94 = (0, 9, [some 95, some 96, some 97, none, none, none, some 98, some 99, some 100, none, none, none, none, some 101, none, none, none, some 102, none, some 103, some 104, none, some 105, some 106, some 107, some 108]) from rfl) (fun _ => rfl) ⟨Nat.le_of_ble_eq_true rfl, Nat.le_of_ble_eq_true rfl⟩ (Nat.le_of_ble_eq_true rfl) (fun z31 M31 h31 => ?_)
      have e96 : M31 96 = M 96 := h31.2.2 96 (by decide)
      have sgN : SG M31 := fun j hj => by rw [h31.2.2 95 (by decide)]; exact hsg j hj
      have hk5 := gt_kf h31
      have hk12 := KF_12 ho
      have sdq := bsF_sd (r := M 96) (M 96 0).toNat
      refine AW.iload_n dX9_arm_34 2 rfl rfl ?_
      refine AW.if_ne 50 dX9_arm_35 (by decide) (by omega) (fun c35 => ?_) (fun c35 => ?_)
      · refine AW.aload_n dX9_arm_50 0 rfl rfl ?_
        refine AW.aload_n dX9_arm_51 0 rfl rfl ?_
        refine AW.getI dX9_arm_52 fl_X9_151 (show sh 94 = (0, 9, [some 95, some 96, some 97, none, none, none, some 98, some 99, some 100, none, none, none, none, some 101, none, none, none, some 102, none, some 103, some 104, none, some 105, some 106, some 107, some 108]) from rfl) rfl ?_
        refine AW.iload_n dX9_arm_55 1 rfl rfl ?_
        refine AW.callV2ip (C9_rightAt Γ M31 sgN (by rw [e96]; exact ho) _ _ _ i.toNat hk5 (by omega) hk12 (by rw [e96]; omega)) dX9_arm_56 mc_X9_142 (show sh 94 = (0, 9, [some 95, some 96, some 97, none, none, none, some 98, some 99, some 100, none, none, none, none, some 101, none, none, none, some 102, none, some 103, some 104, none, some 105, some 106, some 107, some 108]) from rfl) (fun _ => rfl) ⟨Nat.le_of_ble_eq_true rfl, Nat.le_of_ble_eq_true rfl⟩ (Nat.le_of_ble_eq_true rfl) ?_
        exact AW.iret rfl dX9_arm_59 ⟨by unfold armS; rw [if_pos (by omega), e96, sdq (i.toNat + 1) (by omega)]; first | (rw [if_pos (by omega)]; done) | (rw [if_neg (by omega)]; done), h31.2⟩
      · refine AW.aload_n dX9_arm_38 0 rfl rfl ?_
        refine AW.aload_n dX9_arm_39 0 rfl rfl ?_
        refine AW.getI dX9_arm_40 fl_X9_151 (show sh 94 = (0, 9, [some 95, some 96, some 97, none, none, none, some 98, some 99, some 100, none, none, none, none, some 101, none, none, none, some 102, none, some 103, some 104, none, some 105, some 106, some 107, some 108]) from rfl) rfl ?_
        refine AW.iload_n dX9_arm_43 1 rfl rfl ?_
        refine AW.callV2ip (C9_leftAt Γ M31 sgN (by rw [e96]; exact ho) _ _ _ i.toNat hk5 (by omega) hk12 (by rw [e96]; omega)) dX9_arm_44 mc_X9_139 (show sh 94 = (0, 9, [some 95, some 96, some 97, none, none, none, some 98, some 99, some 100, none, none, none, none, some 101, none, none, none, some 102, none, some 103, some 104, none, some 105, some 106, some 107, some 108]) from rfl) (fun _ => rfl) ⟨Nat.le_of_ble_eq_true rfl, Nat.le_of_ble_eq_true rfl⟩ (Nat.le_of_ble_eq_true rfl) ?_
        refine AW.goto 59 dX9_arm_47 (by decide) ?_
        exact AW.iret rfl dX9_arm_59 ⟨by unfold armS; rw [if_pos (by omega), e96, sdq (i.toNat + 1) (by omega)]; first | (rw [if_pos (by omega)]; done) | (rw [if_neg (by omega)]; done), h31.2⟩
    · have d25 := bI0.mp c25
      refine AW.iconst dX9_arm_28 ?_
      exact AW.iret rfl dX9_arm_29 ⟨by unfold armS; rw [if_neg (by omega)], fun _ _ _ _ => rfl, fun _ _ => rfl⟩

def flm (r : Nat → Int) (f : Nat → Int) (b : Nat) : Nat → Nat → Int
  | 0 => f
  | k + 1 => up1 (up1 (flm r f b k) (b + 2 * k) (dirP r (k + 1) (sdF r (r 0).toNat (k + 1)))) (b + 2 * k + 1) (dirP r (k + 1) (1 - sdF r (r 0).toNat (k + 1)))
theorem flm_out (r f : Nat → Int) (b : Nat) : ∀ (k j : Nat), (j < b ∨ b + 2 * k ≤ j) → flm r f b k j = f j
  | 0, _, _ => rfl
  | k + 1, j, h => by simp only [flm]; rw [up1_n (by omega), up1_n (by omega)]; exact flm_out r f b k j (by omega)
theorem flm_d (r f : Nat → Int) (b : Nat) : ∀ (k j : Nat), b ≤ j → j < b + 2 * k → D8 (flm r f b k j)
  | 0, _, _, _ => by omega
  | k + 1, j, h1, h2 => by
    simp only [flm]
    by_cases q1 : j = b + 2 * k + 1
    · rw [q1, up1_s]; exact dirP_d _ _ _
    · rw [up1_n q1]
      by_cases q2 : j = b + 2 * k
      · rw [q2, up1_s]; exact dirP_d _ _ _
      · rw [up1_n q2]; exact flm_d r f b k j h1 (by omega)
theorem flm_eq (r f g : Nat → Int) (b c : Nat) (j : Nat) (h : f j = g (c + j)) : ∀ k : Nat, flm r f b k j = flm r g (c + b) k (c + j)
  | 0 => h
  | k + 1 => by
    simp only [flm]
    by_cases q1 : j = b + 2 * k + 1
    · rw [q1, up1_s, show c + (b + 2 * k + 1) = c + b + 2 * k + 1 by omega, up1_s]
    · rw [up1_n q1, up1_n (show c + j ≠ c + b + 2 * k + 1 by omega)]
      by_cases q2 : j = b + 2 * k
      · rw [q2, up1_s, show c + (b + 2 * k) = c + b + 2 * k by omega, up1_s]
      · rw [up1_n q2, up1_n (show c + j ≠ c + b + 2 * k by omega)]; exact flm_eq r f g b c j h k
def filmZ (L Z r : Nat → Int) (s lane i : Int) : Int := if 0 ≤ refZ L Z s lane i (2 * r 0) then 2 * r 0 else refZ L Z s lane i (2 * r 0)
theorem wayF.frame {M M' : Mm} {r : Nat → Int} (h : wayF M r) (hf : ∀ a : Nat, 65 ≤ a → a ≤ 70 → M' a = M a) : wayF M' r := by
  unfold wayF wayD wEW at *
  rw [hf 65 (by decide) (by decide), hf 66 (by decide) (by decide), hf 67 (by decide) (by decide), hf 68 (by decide) (by decide), hf 69 (by decide) (by decide), hf 70 (by decide) (by decide)]
  exact h

theorem R32.of8 {z : Int} (h : D8 z) : R32 z := by unfold D8 at h; omega
theorem R64.of8 {z : Int} (h : D8 z) : R64 z := by unfold D8 at h; omega
set_option maxRecDepth 20000 in
theorem film_loop (Γ : GC) (M : Mm) (r : Nat → Int) (ho : OkR r) (hr : stRel M 1 r) (hw : wayF M r) (s l a rf0 it : Int) (hs : 0 ≤ s ∧ s < 4) (ha : 0 ≤ a) (hra : a + 2 * r 0 ≤ 24) (Q : Int → Mm → Prop) (hx : ∀ x : Int, x = 0 + ((r 0).toNat : Nat) → AW Γ uX8_film 120 [(6, vi x), (5, vi rf0), (4, vi it), (0, rf Γ 0), (1, vi s), (2, vi l), (3, vi a)] [] (upM M (86 + 2 * s.toNat + 1) (flm r (M (86 + 2 * s.toNat + 1)) a.toNat ((r 0).toNat))) Q) : ∀ (n i : Nat) (x : Int), x = 0 + i → i ≤ (r 0).toNat → (r 0).toNat - i < n → AW Γ uX8_film 44 [(6, vi x), (5, vi rf0), (4, vi it), (0, rf Γ 0), (1, vi s), (2, vi l), (3, vi a)] [] (upM M (86 + 2 * s.toNat + 1) (flm r (M (86 + 2 * s.toNat + 1)) a.toNat i)) Q := by
  have o0 := ho.1
  have h1 := (st1u hr).1
  intro n
  induction n with
  | zero => intro i x g0 g1 gm; omega
  | succ n ih =>
    intro i x g0 g1 gm
    refine AW.iload dX8_film_44 0 rfl ?_
    refine AW.aload_n dX8_film_46 3 rfl rfl ?_
    refine AW.getR dX8_film_47 fl_X8_10 (show sh 0 = (0, 8, [some 1, some 5, some 31, some 35, none, some 61, some 65, some 71, some 76, some 79, some 83, some 85]) from rfl) rfl ?_
    refine AW.getI dX8_film_50 fl_X8_137 (show sh 1 = (0, 5, [some 2, none, some 3, some 4, none, none, none, none]) from rfl) rfl ?_
    rw [upM_n (by omega), h1]
    refine AW.icmp_ge 120 dX8_film_53 (by decide) (by omega) (by omega) (fun c53 => ?_) (fun c53 => ?_)
    · refine AW.sub [0, 1, 2, 3, 4, 5, 6] rfl ?_
      rw [show i = (r 0).toNat by omega]
      exact hx x (by omega)
    · refine AW.aload_n dX8_film_56 3 rfl rfl ?_
      refine AW.getR dX8_film_57 fl_X8_73 (show sh 0 = (0, 8, [some 1, some 5, some 31, some 35, none, some 61, some 65, some 71, some 76, some 79, some 83, some 85]) from rfl) rfl ?_
      refine AW.iload_n dX8_film_60 4 rfl rfl ?_
      refine AW.aald3 (r := 86 + 2 * s.toNat) dX8_film_61 (show sh 85 = (3, 3, [some 86, some 88, some 90, some 92]) from rfl) (by omega) (by simp; omega) (Nat.le_of_ble_eq_true rfl) (pp_at s.toNat (by omega)) ?_
      refine AW.getR dX8_film_62 fl_X8_258 (pp s.toNat (by omega)).1 rfl ?_
      refine AW.iload_n dX8_film_65 6 rfl rfl ?_
      refine AW.iconst dX8_film_66 ?_
      refine AW.iload dX8_film_67 0 rfl ?_
      refine AW.imul dX8_film_69 ?_
      refine AW.iadd dX8_film_70 ?_
      refine AW.aload_n dX8_film_71 3 rfl rfl ?_
      refine AW.getR dX8_film_72 fl_X8_39 (show sh 0 = (0, 8, [some 1, some 5, some 31, some 35, none, some 61, some 65, some 71, some 76, some 79, some 83, some 85]) from rfl) rfl ?_
      refine AW.iload dX8_film_75 0 rfl ?_
      refine AW.iconst dX8_film_77 ?_
      refine AW.iadd dX8_film_78 ?_
      refine AW.callV1ip (C_leftAt Γ _ r ho (hw.frame (fun q q1 q2 => upM_n (by omega))) _ (i + 1) (by omega) (by omega)) dX8_film_79 mc_X8_180 (show sh 65 = (0, 7, [some 66, some 67, some 68, some 69, some 70, none]) from rfl) (fun _ => rfl) ⟨Nat.le_of_ble_eq_true rfl, Nat.le_of_ble_eq_true rfl⟩ (Nat.le_of_ble_eq_true rfl) ?_
      refine AW.i2l dX8_film_82 (R32.of8 (dirP_d _ _ _)) ?_
      refine AW.lastN (a.toNat + 2 * i) dX8_film_83 (pp s.toNat (by omega)).2 (by omega) (by omega) (by decide) ?_
      refine AW.aload_n dX8_film_84 3 rfl rfl ?_
      refine AW.getR dX8_film_85 fl_X8_73 (show sh 0 = (0, 8, [some 1, some 5, some 31, some 35, none, some 61, some 65, some 71, some 76, some 79, some 83, some 85]) from rfl) rfl ?_
      refine AW.iload_n dX8_film_88 4 rfl rfl ?_
      refine AW.aald3 (r := 86 + 2 * s.toNat) dX8_film_89 (show sh 85 = (3, 3, [some 86, some 88, some 90, some 92]) from rfl) (by omega) (by simp; omega) (Nat.le_of_ble_eq_true rfl) (pp_at s.toNat (by omega)) ?_
      refine AW.getR dX8_film_90 fl_X8_258 (pp s.toNat (by omega)).1 rfl ?_
      refine AW.iload_n dX8_film_93 6 rfl rfl ?_
      refine AW.iconst dX8_film_94 ?_
      refine AW.iload dX8_film_95 0 rfl ?_
      refine AW.imul dX8_film_97 ?_
      refine AW.iadd dX8_film_98 ?_
      refine AW.iconst dX8_film_99 ?_
      refine AW.iadd dX8_film_100 ?_
      refine AW.aload_n dX8_film_101 3 rfl rfl ?_
      refine AW.getR dX8_film_102 fl_X8_39 (show sh 0 = (0, 8, [some 1, some 5, some 31, some 35, none, some 61, some 65, some 71, some 76, some 79, some 83, some 85]) from rfl) rfl ?_
      refine AW.iload dX8_film_105 0 rfl ?_
      refine AW.iconst dX8_film_107 ?_
      refine AW.iadd dX8_film_108 ?_
      refine AW.callV1ip (C_rightAt Γ _ r ho (hw.frame (fun q q1 q2 => by rw [up2_c (by omega), upM_n (by omega)])) _ (i + 1) (by omega) (by omega)) dX8_film_109 mc_X8_183 (show sh 65 = (0, 7, [some 66, some 67, some 68, some 69, some 70, none]) from rfl) (fun _ => rfl) ⟨Nat.le_of_ble_eq_true rfl, Nat.le_of_ble_eq_true rfl⟩ (Nat.le_of_ble_eq_true rfl) ?_
      refine AW.i2l dX8_film_112 (R32.of8 (dirP_d _ _ _)) ?_
      refine AW.lastN (a.toNat + 2 * i + 1) dX8_film_113 (pp s.toNat (by omega)).2 (by omega) (by omega) (by decide) ?_
      obtain ⟨x114, ex114⟩ : ∃ z : Int, x + 1 = z := ⟨_, rfl⟩
      refine AW.iinc [(6, vi x114), (5, vi rf0), (4, vi it), (0, rf Γ 0), (1, vi s), (2, vi l), (3, vi a)] dX8_film_114 0 rfl (by decide) x114 ex114 rfl ?_
      refine AW.goto 44 dX8_film_117 (by decide) ?_
      refine AW.sub [0, 1, 2, 3, 4, 5, 6] rfl ?_
      refine AW.toM (show _ = (upM M (86 + 2 * s.toNat + 1) (flm r (M (86 + 2 * s.toNat + 1)) a.toNat (i + 1))) from ?_) (ih (i + 1) x114 (by omega) (by omega) (by omega))
      rw [upM_up2, upM_up2]; rfl

set_option maxRecDepth 20000 in
theorem C_film (Γ : GC) (M : Mm) (L Z T r : Nat → Int) (hS : OkS M L Z T) (ho : OkR r) (hr : stRel M 1 r) (h0 : M 66 0 = 0 ∧ M 67 0 = 0) (s l a : Int) (hs : R32 s) (hl : R32 l) (ha : R32 a) : Ct Γ uX8_film [rf Γ 0, vi s, vi l, vi a] M (fun z M' => z = filmZ L Z r s l a ∧ ((0 ≤ refZ L Z s l a (2 * r 0) ∧ M' (86 + 2 * s.toNat + 1) = flm r (M (86 + 2 * s.toNat + 1)) a.toNat (r 0).toNat ∧ ∀ q : Nat, (q < 65 ∨ 70 < q) → q ≠ (86 + 2 * s.toNat + 1) → M' q = M q) ∨ (refZ L Z s l a (2 * r 0) < 0 ∧ M' = M)) ∧ (M' 66 0 = 0 ∧ M' 67 0 = 0)) := by
  refine Ct.of (by decide) (Nat.le_of_ble_eq_true rfl) ?_
  show AW Γ uX8_film 0 [(0, rf Γ 0), (1, vi s), (2, vi l), (3, vi a)] [] M _
  have h1 := (st1u hr).1; have o0 := ho.1
  refine AW.iconst dX8_film_0 ?_
  refine AW.aload_n dX8_film_1 0 rfl rfl ?_
  refine AW.getR dX8_film_2 fl_X8_10 (show sh 0 = (0, 8, [some 1, some 5, some 31, some 35, none, some 61, some 65, some 71, some 76, some 79, some 83, some 85]) from rfl) rfl ?_
  refine AW.getI dX8_film_5 fl_X8_137 (show sh 1 = (0, 5, [some 2, none, some 3, some 4, none, none, none, none]) from rfl) rfl ?_
  refine AW.imul dX8_film_8 ?_
  rw [h1]
  refine AW.top (fun it eit => ?_)
  refine AW.istore [(4, vi it), (0, rf Γ 0), (1, vi s), (2, vi l), (3, vi a)] dX8_film_9 (by decide) rfl ?_
  refine AW.aload_n dX8_film_11 1 rfl rfl ?_
  refine AW.iload_n dX8_film_12 2 rfl rfl ?_
  refine AW.iload_n dX8_film_13 3 rfl rfl ?_
  refine AW.iload_n dX8_film_14 4 rfl rfl ?_
  refine AW.iload dX8_film_15 0 rfl ?_
  refine AW.callV4ip (C_refusal Γ M L Z T hS s l a it hs hl ha (by omega)) dX8_film_17 mc_X8_251 (show sh 0 = (0, 8, [some 1, some 5, some 31, some 35, none, some 61, some 65, some 71, some 76, some 79, some 83, some 85]) from rfl) (fun _ => rfl) ⟨Nat.le_of_ble_eq_true rfl, Nat.le_of_ble_eq_true rfl⟩ (Nat.le_of_ble_eq_true rfl) ?_
  refine AW.top (fun rf0 erf0 => ?_)
  refine AW.istore [(5, vi rf0), (4, vi it), (0, rf Γ 0), (1, vi s), (2, vi l), (3, vi a)] dX8_film_20 (by decide) rfl ?_
  refine AW.iload dX8_film_22 0 rfl ?_
  refine AW.if_ge 30 dX8_film_24 (by decide) (by rw [erf0]; exact refZ_r) (fun c24 => ?_) (fun c24 => ?_)
  · rw [eit] at erf0
    have hz := refZ_0 (show 0 ≤ refZ L Z s l a (2 * r 0) by omega)
    have hz2 := hS s.toNat (by omega)
    unfold paRel at hz2
    refine AW.aload_n dX8_film_30 2 rfl rfl ?_
    refine AW.getR dX8_film_31 fl_X8_39 (show sh 0 = (0, 8, [some 1, some 5, some 31, some 35, none, some 61, some 65, some 71, some 76, some 79, some 83, some 85]) from rfl) rfl ?_
    refine AW.aload_n dX8_film_34 2 rfl rfl ?_
    refine AW.getR dX8_film_35 fl_X8_10 (show sh 0 = (0, 8, [some 1, some 5, some 31, some 35, none, some 61, some 65, some 71, some 76, some 79, some 83, some 85]) from rfl) rfl ?_
    refine AW.callV1v (C_find Γ M r ho hr h0) dX8_film_38 mc_X8_165 (show sh 65 = (0, 7, [some 66, some 67, some 68, some 69, some 70, none]) from rfl) (fun _ => rfl) ⟨Nat.le_of_ble_eq_true rfl, Nat.le_of_ble_eq_true rfl⟩ (Nat.le_of_ble_eq_true rfl) (fun z38 M38 h38 => ?_)
    obtain ⟨wf, of⟩ := h38
    have z0 : M38 66 0 = 0 ∧ M38 67 0 = 0 := wf.1.2 0 (by have := ho.1; omega)
    have sr : stRel M38 1 r := hr.frame (of _ (by decide)) (of _ (by decide)) (of _ (by decide)) (of _ (by decide))
    refine AW.iconst dX8_film_41 ?_
    refine AW.top (fun x42 ex42 => ?_)
    refine AW.istore [(6, vi x42), (5, vi rf0), (4, vi it), (0, rf Γ 0), (1, vi s), (2, vi l), (3, vi a)] dX8_film_42 (by decide) rfl ?_
    refine AW.sub [0, 1, 2, 3, 4, 5, 6] rfl ?_
    refine AW.toM (show M38 = upM M38 (86 + 2 * s.toNat + 1) (flm r (M38 (86 + 2 * s.toNat + 1)) a.toNat 0) from (upM_id _ _).symm) (film_loop Γ M38 r ho sr wf s l a rf0 it (by omega) (by omega) (by omega) _ (fun x hx => ?_) 14 0 x42 (by omega) (by omega) (by omega))
    refine AW.iload dX8_film_120 2 rfl ?_
    exact AW.iret rfl dX8_film_122 ⟨by unfold filmZ; rw [if_pos (by omega)]; exact eit, Or.inl ⟨by omega, by rw [upM_s, of (86 + 2 * s.toNat + 1) (by omega)], fun q q1 q2 => by rw [upM_n q2, of q q1]⟩, by rw [upM_n (by omega), upM_n (by omega)]; exact z0⟩
  · rw [eit] at erf0
    refine AW.iload dX8_film_27 0 rfl ?_
    exact AW.iret rfl dX8_film_29 ⟨by unfold filmZ; rw [if_neg (by omega)]; exact erf0, Or.inr ⟨by omega, rfl⟩, h0⟩

set_option maxRecDepth 20000 in
theorem film9_loop (Γ : GC) (M : Mm) (r : Nat → Int) (er : M 96 = r) (hsg : SG M) (ho : OkR r) (k : Nat) (hk5 : M 94 5 = k) (hk12 : k < 4096) (hkf : ∀ p : Nat, p ≤ (r 0).toNat → bsF (r 0).toNat k p = sdF r (r 0).toNat p) (s l a rf0 : Int) (hs : 0 ≤ s ∧ s < 4) (ha : 0 ≤ a) (hra : a + 2 * r 0 ≤ 24) (Q : Int → Mm → Prop) (hx : ∀ x : Int, x = 0 + ((r 0).toNat : Nat) → AW Γ uX9_film 126 [(5, vi x), (4, vi rf0), (0, rf Γ 94), (1, vi s), (2, vi l), (3, vi a)] [] (upM M 107 (flm r (M 107) (24 * s.toNat + a.toNat) ((r 0).toNat))) Q) : ∀ (n i : Nat) (x : Int), x = 0 + i → i ≤ (r 0).toNat → (r 0).toNat - i < n → AW Γ uX9_film 53 [(5, vi x), (4, vi rf0), (0, rf Γ 94), (1, vi s), (2, vi l), (3, vi a)] [] (upM M 107 (flm r (M 107) (24 * s.toNat + a.toNat) i)) Q := by
  have o0 := ho.1
  intro n
  induction n with
  | zero => intro i x g0 g1 gm; omega
  | succ n ih =>
    intro i x g0 g1 gm
    refine AW.iload dX9_film_53 0 rfl ?_
    refine AW.aload_n dX9_film_55 2 rfl rfl ?_
    refine AW.getR dX9_film_56 fl_X9_13 (show sh 94 = (0, 9, [some 95, some 96, some 97, none, none, none, some 98, some 99, some 100, none, none, none, none, some 101, none, none, none, some 102, none, some 103, some 104, none, some 105, some 106, some 107, some 108]) from rfl) rfl ?_
    refine AW.iconst dX9_film_59 ?_
    refine AW.ialdN 0 dX9_film_60 (show sh 96 = (1, 59, []) from rfl) rfl (by decide) (by decide) ?_
    rw [upM_n (show 96 ≠ 107 by decide), er]
    refine AW.icmp_ge 126 dX9_film_61 (by decide) (by omega) (by omega) (fun c61 => ?_) (fun c61 => ?_)
    · refine AW.sub [0, 1, 2, 3, 4, 5] rfl ?_
      rw [show i = (r 0).toNat by omega]
      exact hx x (by omega)
    · refine AW.aload_n dX9_film_64 2 rfl rfl ?_
      refine AW.getR dX9_film_65 fl_X9_50 (show sh 94 = (0, 9, [some 95, some 96, some 97, none, none, none, some 98, some 99, some 100, none, none, none, none, some 101, none, none, none, some 102, none, some 103, some 104, none, some 105, some 106, some 107, some 108]) from rfl) rfl ?_
      refine AW.bipush (z := (24)) dX9_film_68 (by decide) ?_
      refine AW.iload_n dX9_film_70 3 rfl rfl ?_
      refine AW.imul dX9_film_71 ?_
      refine AW.iload_n dX9_film_72 5 rfl rfl ?_
      refine AW.iadd dX9_film_73 ?_
      refine AW.iconst dX9_film_74 ?_
      refine AW.iload dX9_film_75 0 rfl ?_
      refine AW.imul dX9_film_77 ?_
      refine AW.iadd dX9_film_78 ?_
      refine AW.aload_n dX9_film_79 2 rfl rfl ?_
      refine AW.aload_n dX9_film_80 2 rfl rfl ?_
      refine AW.getI dX9_film_81 fl_X9_151 (show sh 94 = (0, 9, [some 95, some 96, some 97, none, none, none, some 98, some 99, some 100, none, none, none, none, some 101, none, none, none, some 102, none, some 103, some 104, none, some 105, some 106, some 107, some 108]) from rfl) rfl ?_
      refine AW.iload dX9_film_84 0 rfl ?_
      refine AW.callV2ip (C9_leftAt Γ _ (fun j hj => by rw [upM_n (by decide)]; exact hsg j hj) (by rw [upM_n (by decide), er]; exact ho) _ _ k i (by rw [upM_n (by decide)]; exact hk5) (by omega) hk12 (by rw [upM_n (by decide), er]; omega)) dX9_film_86 mc_X9_139 (show sh 94 = (0, 9, [some 95, some 96, some 97, none, none, none, some 98, some 99, some 100, none, none, none, none, some 101, none, none, none, some 102, none, some 103, some 104, none, some 105, some 106, some 107, some 108]) from rfl) (fun _ => rfl) ⟨Nat.le_of_ble_eq_true rfl, Nat.le_of_ble_eq_true rfl⟩ (Nat.le_of_ble_eq_true rfl) ?_
      rw [upM_n (show 96 ≠ 107 by decide), er, hkf (i + 1) (by omega)]
      refine AW.i2l dX9_film_89 (R32.of8 (dirP_d _ _ _)) ?_
      refine AW.lastN (24 * s.toNat + a.toNat + 2 * i) dX9_film_90 (show sh 107 = (2, 96, []) from rfl) (by omega) (by omega) (by decide) ?_
      refine AW.aload_n dX9_film_91 2 rfl rfl ?_
      refine AW.getR dX9_film_92 fl_X9_50 (show sh 94 = (0, 9, [some 95, some 96, some 97, none, none, none, some 98, some 99, some 100, none, none, none, none, some 101, none, none, none, some 102, none, some 103, some 104, none, some 105, some 106, some 107, some 108]) from rfl) rfl ?_
      refine AW.bipush (z := (24)) dX9_film_95 (by decide) ?_
      refine AW.iload_n dX9_film_97 3 rfl rfl ?_
      refine AW.imul dX9_film_98 ?_
      refine AW.iload_n dX9_film_99 5 rfl rfl ?_
      refine AW.iadd dX9_film_100 ?_
      refine AW.iconst dX9_film_101 ?_
      refine AW.iload dX9_film_102 0 rfl ?_
      refine AW.imul dX9_film_104 ?_
      refine AW.iadd dX9_film_105 ?_
      refine AW.iconst dX9_film_106 ?_
      refine AW.iadd dX9_film_107 ?_
      refine AW.aload_n dX9_film_108 2 rfl rfl ?_
      refine AW.aload_n dX9_film_109 2 rfl rfl ?_
      refine AW.getI dX9_film_110 fl_X9_151 (show sh 94 = (0, 9, [some 95, some 96, some 97, none, none, none, some 98, some 99, some 100, none, none, none, none, some 101, none, none, none, some 102, none, some 103, some 104, none, some 105, some 106, some 107, some 108]) from rfl) rfl ?_
      refine AW.iload dX9_film_113 0 rfl ?_
      refine AW.callV2ip (C9_rightAt Γ _ (fun j hj => by rw [up2_c (by decide), upM_n (by decide)]; exact hsg j hj) (by rw [up2_c (by decide), upM_n (by decide), er]; exact ho) _ _ k i (by rw [up2_c (by decide), upM_n (by decide)]; exact hk5) (by omega) hk12 (by rw [up2_c (by decide), upM_n (by decide), er]; omega)) dX9_film_115 mc_X9_142 (show sh 94 = (0, 9, [some 95, some 96, some 97, none, none, none, some 98, some 99, some 100, none, none, none, none, some 101, none, none, none, some 102, none, some 103, some 104, none, some 105, some 106, some 107, some 108]) from rfl) (fun _ => rfl) ⟨Nat.le_of_ble_eq_true rfl, Nat.le_of_ble_eq_true rfl⟩ (Nat.le_of_ble_eq_true rfl) ?_
      rw [up2_c (show 96 ≠ 107 by decide), upM_n (show 96 ≠ 107 by decide), er, hkf (i + 1) (by omega)]
      refine AW.i2l dX9_film_118 (R32.of8 (dirP_d _ _ _)) ?_
      refine AW.lastN (24 * s.toNat + a.toNat + 2 * i + 1) dX9_film_119 (show sh 107 = (2, 96, []) from rfl) (by omega) (by omega) (by decide) ?_
      obtain ⟨x120, ex120⟩ : ∃ z : Int, x + 1 = z := ⟨_, rfl⟩
      refine AW.iinc [(5, vi x120), (4, vi rf0), (0, rf Γ 94), (1, vi s), (2, vi l), (3, vi a)] dX9_film_120 0 rfl (by decide) x120 ex120 rfl ?_
      refine AW.goto 53 dX9_film_123 (by decide) ?_
      refine AW.sub [0, 1, 2, 3, 4, 5] rfl ?_
      refine AW.toM (show _ = (upM M 107 (flm r (M 107) (24 * s.toNat + a.toNat) (i + 1))) from ?_) (ih (i + 1) x120 (by omega) (by omega) (by omega))
      rw [upM_up2, upM_up2]; rfl

set_option maxRecDepth 20000 in
theorem C9_film (Γ : GC) (M : Mm) (hsg : SG M) (ho : OkR (M 96)) (hg : OkG (M 105) (M 106)) (s l a : Int) (hs : R32 s) (hl : R32 l) (ha : R32 a) : Ct Γ uX9_film [rf Γ 94, vi s, vi l, vi a] M (fun z M' => z = filmZ (M 105) (M 106) (M 96) s l a ∧ ((0 ≤ refZ (M 105) (M 106) s l a (2 * M 96 0) ∧ M' 107 = flm (M 96) (M 107) (24 * s.toNat + a.toNat) (M 96 0).toNat ∧ (∀ j : Nat, j ≠ 3 → j ≠ 4 → j ≠ 5 → M' 94 j = M 94 j) ∧ ∀ q : Nat, q ≠ 94 → q ≠ 107 → M' q = M q) ∨ (refZ (M 105) (M 106) s l a (2 * M 96 0) < 0 ∧ M' = M))) := by
  refine Ct.of (by decide) (Nat.le_of_ble_eq_true rfl) ?_
  show AW Γ uX9_film 0 [(0, rf Γ 94), (1, vi s), (2, vi l), (3, vi a)] [] M _
  have o0 := ho.1
  refine AW.iload_n dX9_film_0 1 rfl rfl ?_
  refine AW.callS1ip (C9_isSheet Γ M _ hs) dX9_film_1 mc_X9_242 (fun _ => rfl) ⟨Nat.le_of_ble_eq_true rfl, Nat.le_of_ble_eq_true rfl⟩ (Nat.le_of_ble_eq_true rfl) ?_
  refine AW.if_eq 19 dX9_film_4 (by decide) (bI_r _) (fun c4 => ?_) (fun c4 => ?_)
  · have d4 := bI0.mp c4
    have hb : refZ (M 105) (M 106) s l a (2 * M 96 0) = -1 := by unfold refZ; rw [if_neg (by omega)]
    refine AW.iconst dX9_film_19 ?_
    exact AW.iret rfl dX9_film_20 ⟨by unfold filmZ; rw [if_neg (by omega)]; exact hb.symm, Or.inr ⟨by omega, rfl⟩⟩
  · have d4 := bI1.mp c4
    refine AW.iload_n dX9_film_7 2 rfl rfl ?_
    refine AW.i2l dX9_film_8 (by omega) ?_
    refine AW.lconst (z := (0)) dX9_film_9 rfl ?_
    refine AW.ldc2 (z := 3) dX9_film_10 kl_X9_158 (by decide +kernel) ?_
    refine AW.callS3ip (C9_in Γ M _ _ _ (by omega) (by decide) (by decide)) dX9_film_13 mc_X9_76 (fun _ => rfl) ⟨Nat.le_of_ble_eq_true rfl, Nat.le_of_ble_eq_true rfl⟩ (Nat.le_of_ble_eq_true rfl) ?_
    refine AW.if_ne 21 dX9_film_16 (by decide) (bI_r _) (fun c16 => ?_) (fun c16 => ?_)
    · have d16 := bI1.mp c16
      refine AW.aload_n dX9_film_21 0 rfl rfl ?_
      refine AW.iload_n dX9_film_22 1 rfl rfl ?_
      refine AW.iload_n dX9_film_23 2 rfl rfl ?_
      refine AW.iload_n dX9_film_24 3 rfl rfl ?_
      refine AW.iconst dX9_film_25 ?_
      refine AW.aload_n dX9_film_26 0 rfl rfl ?_
      refine AW.getR dX9_film_27 fl_X9_13 (show sh 94 = (0, 9, [some 95, some 96, some 97, none, none, none, some 98, some 99, some 100, none, none, none, none, some 101, none, none, none, some 102, none, some 103, some 104, none, some 105, some 106, some 107, some 108]) from rfl) rfl ?_
      refine AW.iconst dX9_film_30 ?_
      refine AW.ialdN 0 dX9_film_31 (show sh 96 = (1, 59, []) from rfl) rfl (by decide) (by decide) ?_
      refine AW.imul dX9_film_32 ?_
      refine AW.callV4ip (C9_why Γ M hg s l a (2 * M 96 0) (by omega) (by omega) ha (by omega)) dX9_film_33 mc_X9_245 (show sh 94 = (0, 9, [some 95, some 96, some 97, none, none, none, some 98, some 99, some 100, none, none, none, none, some 101, none, none, none, some 102, none, some 103, some 104, none, some 105, some 106, some 107, some 108]) from rfl) (fun _ => rfl) ⟨Nat.le_of_ble_eq_true rfl, Nat.le_of_ble_eq_true rfl⟩ (Nat.le_of_ble_eq_true rfl) ?_
      refine AW.top (fun rf0 erf0 => ?_)
      refine AW.istore [(4, vi rf0), (0, rf Γ 94), (1, vi s), (2, vi l), (3, vi a)] dX9_film_36 (by decide) rfl ?_
      refine AW.iload dX9_film_38 0 rfl ?_
      refine AW.if_ge 46 dX9_film_40 (by decide) (by rw [erf0]; exact refZ_r) (fun c40 => ?_) (fun c40 => ?_)
      · have hz := refZ_0 (show 0 ≤ refZ (M 105) (M 106) s l a (2 * M 96 0) by omega)
        have hz2 := hg s.toNat (by omega)
        refine AW.aload_n dX9_film_46 1 rfl rfl ?_
        refine AW.callV0v (C9_goes Γ M hsg ho) dX9_film_47 mc_X9_160 (show sh 94 = (0, 9, [some 95, some 96, some 97, none, none, none, some 98, some 99, some 100, none, none, none, none, some 101, none, none, none, some 102, none, some 103, some 104, none, some 105, some 106, some 107, some 108]) from rfl) (fun _ => rfl) ⟨Nat.le_of_ble_eq_true rfl, Nat.le_of_ble_eq_true rfl⟩ (Nat.le_of_ble_eq_true rfl) (fun z47 M47 h47 => ?_)
        have e96 : M47 96 = M 96 := h47.2.2 96 (by decide)
        have sgN : SG M47 := fun j hj => by rw [h47.2.2 95 (by decide)]; exact hsg j hj
        have hk5 := gt_kf h47
        have hk12 := KF_12 ho
        have sdq := bsF_sd (r := M 96) (M 96 0).toNat
        refine AW.iconst dX9_film_50 ?_
        refine AW.top (fun x51 ex51 => ?_)
        refine AW.istore [(5, vi x51), (4, vi rf0), (0, rf Γ 94), (1, vi s), (2, vi l), (3, vi a)] dX9_film_51 (by decide) rfl ?_
        refine AW.sub [0, 1, 2, 3, 4, 5] rfl ?_
        refine AW.toM (show M47 = upM M47 107 (flm (M 96) (M47 107) (24 * s.toNat + a.toNat) 0) from (upM_id _ _).symm) (film9_loop Γ M47 (M 96) e96 sgN ho _ hk5 hk12 (fun p hp => sdq p hp) s l a rf0 (by omega) (by omega) (by omega) _ (fun x hx => ?_) 14 0 x51 (by omega) (by omega) (by omega))
        refine AW.iconst dX9_film_126 ?_
        refine AW.aload_n dX9_film_127 2 rfl rfl ?_
        refine AW.getR dX9_film_128 fl_X9_13 (show sh 94 = (0, 9, [some 95, some 96, some 97, none, none, none, some 98, some 99, some 100, none, none, none, none, some 101, none, none, none, some 102, none, some 103, some 104, none, some 105, some 106, some 107, some 108]) from rfl) rfl ?_
        refine AW.iconst dX9_film_131 ?_
        refine AW.ialdN 0 dX9_film_132 (show sh 96 = (1, 59, []) from rfl) rfl (by decide) (by decide) ?_
        rw [upM_n (show 96 ≠ 107 by decide), e96]
        refine AW.imul dX9_film_133 ?_
        exact AW.iret rfl dX9_film_134 ⟨by unfold filmZ; rw [if_pos (by omega)], Or.inl ⟨by omega, by rw [upM_s, h47.2.2 107 (by decide)], fun j q1 q2 q3 => by rw [upM_n (by decide)]; exact h47.2.1 j q1 q2 q3, fun q q1 q2 => by rw [upM_n q2, h47.2.2 q q1]⟩⟩
      · refine AW.iload dX9_film_43 0 rfl ?_
        exact AW.iret rfl dX9_film_45 ⟨by unfold filmZ; rw [if_neg (by omega)]; exact erf0, Or.inr ⟨by omega, rfl⟩⟩
    · have d16 := bI0.mp c16
      have hb : refZ (M 105) (M 106) s l a (2 * M 96 0) = -1 := by unfold refZ; rw [if_neg (by omega)]
      refine AW.iconst dX9_film_19 ?_
      exact AW.iret rfl dX9_film_20 ⟨by unfold filmZ; rw [if_neg (by omega)]; exact hb.symm, Or.inr ⟨by omega, rfl⟩⟩
