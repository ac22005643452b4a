/-! sheet, copy -/
set_option maxRecDepth 20000 in
theorem C_sheet (Γ : GC) (M : Mm) (s lane n : Int) (hs : R32 s) (hl : R32 lane) (hn : R32 n) : Ct Γ uX8_sheet [rf Γ 0, vi s, vi lane, vi n] M (fun z M' => z = sheetZ s lane n ∧ ((((0 ≤ s ∧ s < 4) ∧ (0 ≤ lane ∧ lane < 4) ∧ n ≤ 24 ∧ 0 ≤ n) ∧ M' = upM (up2 (up2 (up2 M (86 + 2 * s.toNat) 0 1) (86 + 2 * s.toNat) 1 lane) (86 + 2 * s.toNat) 2 n) (86 + 2 * s.toNat + 1) (flFl ((up2 (up2 (up2 M (86 + 2 * s.toNat) 0 1) (86 + 2 * s.toNat) 1 lane) (86 + 2 * s.toNat) 2 n) (86 + 2 * s.toNat + 1)) 0 24)) ∨ (¬ ((0 ≤ s ∧ s < 4) ∧ (0 ≤ lane ∧ lane < 4) ∧ n ≤ 24 ∧ 0 ≤ n) ∧ M' = M))) := by
  refine Ct.of (by decide) (Nat.le_of_ble_eq_true rfl) ?_
  show AW Γ uX8_sheet 0 [(0, rf Γ 0), (1, vi s), (2, vi lane), (3, vi n)] [] M _
  refine AW.iload_n dX8_sheet_0 1 rfl rfl ?_
  refine AW.callS1ip (C_isSheet Γ M _ hs) dX8_sheet_1 mc_X8_262 (fun _ => rfl) ⟨Nat.le_of_ble_eq_true rfl, Nat.le_of_ble_eq_true rfl⟩ (Nat.le_of_ble_eq_true rfl) ?_
  refine AW.if_eq 20 dX8_sheet_4 (by decide) (bI_r _) (fun c4 => ?_) (fun c4 => ?_)
  · have d4 := bI0.mp c4
    refine AW.iconst dX8_sheet_20 ?_
    exact AW.iret rfl dX8_sheet_21 ⟨by unfold sheetZ; rw [if_neg (by omega)], Or.inr ⟨by omega, rfl⟩⟩
  · have d4 := bI1.mp c4
    refine AW.iload_n dX8_sheet_7 2 rfl rfl ?_
    refine AW.callS1ip (C_isLane Γ M _ hl) dX8_sheet_8 mc_X8_265 (fun _ => rfl) ⟨Nat.le_of_ble_eq_true rfl, Nat.le_of_ble_eq_true rfl⟩ (Nat.le_of_ble_eq_true rfl) ?_
    refine AW.if_eq 20 dX8_sheet_11 (by decide) (bI_r _) (fun c11 => ?_) (fun c11 => ?_)
    · have d11 := bI0.mp c11
      refine AW.iconst dX8_sheet_20 ?_
      exact AW.iret rfl dX8_sheet_21 ⟨by unfold sheetZ; rw [if_neg (by omega)], Or.inr ⟨by omega, rfl⟩⟩
    · have d11 := bI1.mp c11
      refine AW.iload_n dX8_sheet_14 3 rfl rfl ?_
      refine AW.bipush (z := (24)) dX8_sheet_15 (by decide) ?_
      refine AW.icmp_le 22 dX8_sheet_17 (by decide) (by omega) (by omega) (fun c17 => ?_) (fun c17 => ?_)
      · refine AW.iload_n dX8_sheet_22 3 rfl rfl ?_
        refine AW.if_ge 29 dX8_sheet_23 (by decide) (by omega) (fun c23 => ?_) (fun c23 => ?_)
        · refine AW.aload_n dX8_sheet_29 0 rfl rfl ?_
          refine AW.getR dX8_sheet_30 fl_X8_73 (show sh 0 = (0, 8, [some 1, some 5, some 31, some 35, none, some 61, some 65, some 71, some 76, some 79, some 83, some 85]) from rfl) rfl ?_
          refine AW.iload_n dX8_sheet_33 1 rfl rfl ?_
          refine AW.aald3 (r := 86 + 2 * s.toNat) dX8_sheet_34 (show sh 85 = (3, 3, [some 86, some 88, some 90, some 92]) from rfl) (by omega) (by simp; omega) (Nat.le_of_ble_eq_true rfl) (pp_at s.toNat (by omega)) ?_
          refine AW.iload_n dX8_sheet_35 2 rfl rfl ?_
          refine AW.iload_n dX8_sheet_36 3 rfl rfl ?_
          refine AW.callV2v (C_begin Γ M _ (pp s.toNat (by omega)) _ _) dX8_sheet_37 mc_X8_268 (pp s.toNat (by omega)).1 (fun _ => rfl) ⟨Nat.le_of_ble_eq_true rfl, Nat.le_of_ble_eq_true rfl⟩ (Nat.le_of_ble_eq_true rfl) (fun z37 M37 h37 => ?_)
          refine AW.iload_n dX8_sheet_40 3 rfl rfl ?_
          exact AW.iret rfl dX8_sheet_41 ⟨by unfold sheetZ; rw [if_pos (by omega), if_pos (by omega)], Or.inl ⟨by omega, h37⟩⟩
        · refine AW.bipush (z := (-14)) dX8_sheet_26 (by decide) ?_
          exact AW.iret rfl dX8_sheet_28 ⟨by unfold sheetZ; rw [if_pos (by omega), if_neg (by omega)], Or.inr ⟨by omega, rfl⟩⟩
      · refine AW.iconst dX8_sheet_20 ?_
        exact AW.iret rfl dX8_sheet_21 ⟨by unfold sheetZ; rw [if_neg (by omega)], Or.inr ⟨by omega, rfl⟩⟩

def zrF (f : Nat → Int) (b i : Nat) : Nat → Int := fun j => if b ≤ j ∧ j < b + i then 0 else f j
theorem zrF_step (f : Nat → Int) (b i : Nat) : up1 (zrF f b i) (b + i) 0 = zrF f b (i + 1) := by
  funext j; simp only [up1, zrF]
  by_cases h : j = b + i
  · rw [if_pos h, if_pos (by omega)]
  · rw [if_neg h]
    by_cases h2 : b ≤ j ∧ j < b + i
    · rw [if_pos h2, if_pos (by omega)]
    · rw [if_neg h2, if_neg (by omega)]
theorem zrF_0 (M : Mm) (k b : Nat) : M = upM M k (zrF (M k) b 0) := by
  rw [show zrF (M k) b 0 = M k from by funext j; simp only [zrF]; rw [if_neg (by omega)], upM_id]

set_option maxRecDepth 20000 in
theorem sheet9_loop (Γ : GC) (M : Mm) (s lane nn : Int) (hs : 0 ≤ s ∧ s < 4) (Q : Int → Mm → Prop) (hx : ∀ x : Int, x = 0 + (24 : Nat) → AW Γ uX9_sheet 77 [(4, vi x), (0, rf Γ 94), (1, vi s), (2, vi lane), (3, vi nn)] [] (upM M 107 (zrF (M 107) (24 * s.toNat) 24)) Q) : ∀ (n i : Nat) (x : Int), x = 0 + i → i ≤ 24 → 24 - i < n → AW Γ uX9_sheet 51 [(4, vi x), (0, rf Γ 94), (1, vi s), (2, vi lane), (3, vi nn)] [] (upM M 107 (zrF (M 107) (24 * s.toNat) i)) Q := by
  intro n
  induction n with
  | zero => intro i x g0 g1 gm; omega
  | succ n ih =>
    intro i x g0 g1 gm
    refine AW.iload dX9_sheet_51 0 rfl ?_
    refine AW.bipush (z := (24)) dX9_sheet_53 (by decide) ?_
    refine AW.icmp_ge 77 dX9_sheet_55 (by decide) (by omega) (by omega) (fun c55 => ?_) (fun c55 => ?_)
    · refine AW.sub [0, 1, 2, 3, 4] rfl ?_
      rw [show i = 24 by omega]
      exact hx x (by omega)
    · refine AW.aload_n dX9_sheet_58 1 rfl rfl ?_
      refine AW.getR dX9_sheet_59 fl_X9_50 (show sh 94 = (0, 9, [some 95, some 96, some 97, none, none, none, some 98, some 99, some 100, none, none, none, none, some 101, none, none, none, some 102, none, some 103, some 104, none, some 105, some 106, some 107, some 108]) from rfl) rfl ?_
      refine AW.bipush (z := (24)) dX9_sheet_62 (by decide) ?_
      refine AW.iload_n dX9_sheet_64 2 rfl rfl ?_
      refine AW.imul dX9_sheet_65 ?_
      refine AW.iload dX9_sheet_66 0 rfl ?_
      refine AW.iadd dX9_sheet_68 ?_
      refine AW.lconst (z := (0)) dX9_sheet_69 rfl ?_
      refine AW.lastN (24 * s.toNat + i) dX9_sheet_70 (show sh 107 = (2, 96, []) from rfl) (by omega) (by omega) (by decide) ?_
      obtain ⟨x71, ex71⟩ : ∃ z : Int, x + 1 = z := ⟨_, rfl⟩
      refine AW.iinc [(4, vi x71), (0, rf Γ 94), (1, vi s), (2, vi lane), (3, vi nn)] dX9_sheet_71 0 rfl (by decide) x71 ex71 rfl ?_
      refine AW.goto 51 dX9_sheet_74 (by decide) ?_
      refine AW.sub [0, 1, 2, 3, 4] rfl ?_
      refine AW.toM (show _ = (upM M 107 (zrF (M 107) (24 * s.toNat) (i + 1))) from ?_) (ih (i + 1) x71 (by omega) (by omega) (by omega))
      rw [upM_up2, zrF_step]

set_option maxRecDepth 20000 in
theorem C9_sheet (Γ : GC) (M : Mm) (s lane nn : Int) (hs : R32 s) (hl : R32 lane) (hn : R32 nn) : Ct Γ uX9_sheet [rf Γ 94, vi s, vi lane, vi nn] M (fun z M' => z = sheetZ s lane nn ∧ ((((0 ≤ s ∧ s < 4) ∧ (0 ≤ lane ∧ lane < 4) ∧ nn ≤ 24 ∧ 0 ≤ nn) ∧ M' = upM (up2 (up2 M 105 s.toNat lane) 106 s.toNat nn) 107 (zrF (M 107) (24 * s.toNat) 24)) ∨ (¬ ((0 ≤ s ∧ s < 4) ∧ (0 ≤ lane ∧ lane < 4) ∧ nn ≤ 24 ∧ 0 ≤ nn) ∧ M' = M))) := by
  refine Ct.of (by decide) (Nat.le_of_ble_eq_true rfl) ?_
  show AW Γ uX9_sheet 0 [(0, rf Γ 94), (1, vi s), (2, vi lane), (3, vi nn)] [] M _
  refine AW.iload_n dX9_sheet_0 1 rfl rfl ?_
  refine AW.callS1ip (C9_isSheet Γ M _ hs) dX9_sheet_1 mc_X9_242 (fun _ => rfl) ⟨Nat.le_of_ble_eq_true rfl, Nat.le_of_ble_eq_true rfl⟩ (Nat.le_of_ble_eq_true rfl) ?_
  refine AW.if_eq 25 dX9_sheet_4 (by decide) (bI_r _) (fun c4 => ?_) (fun c4 => ?_)
  · have d4 := bI0.mp c4
    refine AW.iconst dX9_sheet_25 ?_
    exact AW.iret rfl dX9_sheet_26 ⟨by unfold sheetZ; rw [if_neg (by omega)], Or.inr ⟨by omega, rfl⟩⟩
  · have d4 := bI1.mp c4
    refine AW.iload_n dX9_sheet_7 2 rfl rfl ?_
    refine AW.i2l dX9_sheet_8 (by omega) ?_
    refine AW.lconst (z := (0)) dX9_sheet_9 rfl ?_
    refine AW.ldc2 (z := 3) dX9_sheet_10 kl_X9_158 (by decide +kernel) ?_
    refine AW.callS3ip (C9_in Γ M _ _ _ (by omega) (by decide) (by decide)) dX9_sheet_13 mc_X9_76 (fun _ => rfl) ⟨Nat.le_of_ble_eq_true rfl, Nat.le_of_ble_eq_true rfl⟩ (Nat.le_of_ble_eq_true rfl) ?_
    refine AW.if_eq 25 dX9_sheet_16 (by decide) (bI_r _) (fun c16 => ?_) (fun c16 => ?_)
    · have d11 := bI0.mp c16
      refine AW.iconst dX9_sheet_25 ?_
      exact AW.iret rfl dX9_sheet_26 ⟨by unfold sheetZ; rw [if_neg (by omega)], Or.inr ⟨by omega, rfl⟩⟩
    · have d11 := bI1.mp c16
      refine AW.iload_n dX9_sheet_19 3 rfl rfl ?_
      refine AW.bipush (z := (24)) dX9_sheet_20 (by decide) ?_
      refine AW.icmp_le 27 dX9_sheet_22 (by decide) (by omega) (by omega) (fun c22 => ?_) (fun c22 => ?_)
      · refine AW.iload_n dX9_sheet_27 3 rfl rfl ?_
        refine AW.if_ge 34 dX9_sheet_28 (by decide) (by omega) (fun c28 => ?_) (fun c28 => ?_)
        · refine AW.aload_n dX9_sheet_34 0 rfl rfl ?_
          refine AW.getR dX9_sheet_35 fl_X9_44 (show sh 94 = (0, 9, [some 95, some 96, some 97, none, none, none, some 98, some 99, some 100, none, none, none, none, some 101, none, none, none, some 102, none, some 103, some 104, none, some 105, some 106, some 107, some 108]) from rfl) rfl ?_
          refine AW.iload_n dX9_sheet_38 1 rfl rfl ?_
          refine AW.iload_n dX9_sheet_39 2 rfl rfl ?_
          refine AW.iastN (s.toNat) dX9_sheet_40 (show sh 105 = (1, 4, []) from rfl) (by omega) (by omega) (by decide) ?_
          refine AW.aload_n dX9_sheet_41 0 rfl rfl ?_
          refine AW.getR dX9_sheet_42 fl_X9_47 (show sh 94 = (0, 9, [some 95, some 96, some 97, none, none, none, some 98, some 99, some 100, none, none, none, none, some 101, none, none, none, some 102, none, some 103, some 104, none, some 105, some 106, some 107, some 108]) from rfl) rfl ?_
          refine AW.iload_n dX9_sheet_45 1 rfl rfl ?_
          refine AW.iload_n dX9_sheet_46 3 rfl rfl ?_
          refine AW.iastN (s.toNat) dX9_sheet_47 (show sh 106 = (1, 4, []) from rfl) (by omega) (by omega) (by decide) ?_
          refine AW.iconst dX9_sheet_48 ?_
          refine AW.top (fun x49 ex49 => ?_)
          refine AW.istore [(4, vi x49), (0, rf Γ 94), (1, vi s), (2, vi lane), (3, vi nn)] dX9_sheet_49 (by decide) rfl ?_
          refine AW.sub [0, 1, 2, 3, 4] rfl ?_
          obtain ⟨M1, hM1⟩ : ∃ q : Mm, q = up2 (up2 M 105 s.toNat lane) 106 s.toNat nn := ⟨_, rfl⟩
          rw [← hM1]
          refine AW.toM (zrF_0 M1 107 (24 * s.toNat)) (sheet9_loop Γ M1 s lane nn (by omega) _ (fun x hx => ?_) 25 0 x49 (by omega) (by omega) (by omega))
          refine AW.iload_n dX9_sheet_77 4 rfl rfl ?_
          exact AW.iret rfl dX9_sheet_78 ⟨by unfold sheetZ; rw [if_pos (by omega), if_pos (by omega)], Or.inl ⟨by omega, by rw [hM1, up2_c (by decide), up2_c (by decide)]⟩⟩
        · refine AW.bipush (z := (-14)) dX9_sheet_31 (by decide) ?_
          exact AW.iret rfl dX9_sheet_33 ⟨by unfold sheetZ; rw [if_pos (by omega), if_neg (by omega)], Or.inr ⟨by omega, rfl⟩⟩
      · refine AW.iconst dX9_sheet_25 ?_
        exact AW.iret rfl dX9_sheet_26 ⟨by unfold sheetZ; rw [if_neg (by omega)], Or.inr ⟨by omega, rfl⟩⟩

set_option maxRecDepth 20000 in
theorem C_copy (Γ : GC) (M : Mm) (L Z T : Nat → Int) (ho : OkS M L Z T) (s i t j n : Int) (hs : R32 s) (hi : R32 i) (ht : R32 t) (hj : R32 j) (hn : R32 n) : Ct Γ uX8_copy [rf Γ 0, vi s, vi i, vi t, vi j, vi n] M (fun z M' => z = copyZ L Z s i t j n ∧ ((0 ≤ copyZ L Z s i t j n ∧ M' = upM M (86 + 2 * t.toNat + 1) (va_cpy (M (86 + 2 * s.toNat + 1)) (M (86 + 2 * t.toNat + 1)) i.toNat j.toNat n.toNat)) ∨ (copyZ L Z s i t j n < 0 ∧ M' = M))) := by
  refine Ct.of (by decide) (Nat.le_of_ble_eq_true rfl) ?_
  show AW Γ uX8_copy 0 [(0, rf Γ 0), (1, vi s), (2, vi i), (3, vi t), (4, vi j), (5, vi n)] [] M _
  refine AW.iload_n dX8_copy_0 1 rfl rfl ?_
  refine AW.callS1ip (C_isSheet Γ M _ (by omega)) dX8_copy_1 mc_X8_262 (fun _ => rfl) ⟨Nat.le_of_ble_eq_true rfl, Nat.le_of_ble_eq_true rfl⟩ (Nat.le_of_ble_eq_true rfl) ?_
  refine AW.if_eq 14 dX8_copy_4 (by decide) (bI_r _) (fun c4 => ?_) (fun c4 => ?_)
  · have d4 := bI0.mp c4
    refine AW.iconst dX8_copy_14 ?_
    exact AW.iret rfl dX8_copy_15 ⟨by unfold copyZ; rw [if_neg (by omega)], Or.inr ⟨by unfold copyZ; rw [if_neg (by omega)]; decide, rfl⟩⟩
  · have d4 := bI1.mp c4
    refine AW.iload_n dX8_copy_7 3 rfl rfl ?_
    refine AW.callS1ip (C_isSheet Γ M _ (by omega)) dX8_copy_8 mc_X8_262 (fun _ => rfl) ⟨Nat.le_of_ble_eq_true rfl, Nat.le_of_ble_eq_true rfl⟩ (Nat.le_of_ble_eq_true rfl) ?_
    refine AW.if_ne 16 dX8_copy_11 (by decide) (bI_r _) (fun c11 => ?_) (fun c11 => ?_)
    · have d11 := bI1.mp c11
      have hr := ho s.toNat (by omega)
      unfold paRel at hr
      have hr2 := ho t.toNat (by omega)
      unfold paRel at hr2
      refine AW.aload_n dX8_copy_16 0 rfl rfl ?_
      refine AW.getR dX8_copy_17 fl_X8_73 (show sh 0 = (0, 8, [some 1, some 5, some 31, some 35, none, some 61, some 65, some 71, some 76, some 79, some 83, some 85]) from rfl) rfl ?_
      refine AW.iload_n dX8_copy_20 1 rfl rfl ?_
      refine AW.aald3 (r := 86 + 2 * s.toNat) dX8_copy_21 (show sh 85 = (3, 3, [some 86, some 88, some 90, some 92]) from rfl) (by omega) (by simp; omega) (Nat.le_of_ble_eq_true rfl) (pp_at s.toNat (by omega)) ?_
      refine AW.astore [(6, rf Γ (86 + 2 * s.toNat)), (0, rf Γ 0), (1, vi s), (2, vi i), (3, vi t), (4, vi j), (5, vi n)] dX8_copy_22 (by decide) rfl ?_
      refine AW.aload_n dX8_copy_24 1 rfl rfl ?_
      refine AW.getR dX8_copy_25 fl_X8_73 (show sh 0 = (0, 8, [some 1, some 5, some 31, some 35, none, some 61, some 65, some 71, some 76, some 79, some 83, some 85]) from rfl) rfl ?_
      refine AW.iload_n dX8_copy_28 4 rfl rfl ?_
      refine AW.aald3 (r := 86 + 2 * t.toNat) dX8_copy_29 (show sh 85 = (3, 3, [some 86, some 88, some 90, some 92]) from rfl) (by omega) (by simp; omega) (Nat.le_of_ble_eq_true rfl) (pp_at t.toNat (by omega)) ?_
      refine AW.astore [(7, rf Γ (86 + 2 * t.toNat)), (6, rf Γ (86 + 2 * s.toNat)), (0, rf Γ 0), (1, vi s), (2, vi i), (3, vi t), (4, vi j), (5, vi n)] dX8_copy_30 (by decide) rfl ?_
      refine AW.aload dX8_copy_32 1 rfl ?_
      refine AW.getI dX8_copy_34 fl_X8_272 (pp s.toNat (by omega)).1 rfl ?_
      refine AW.if_eq 48 dX8_copy_37 (by decide) (by omega) (fun c37 => ?_) (fun c37 => ?_)
      · refine AW.bipush (z := (-11)) dX8_copy_48 (by decide) ?_
        exact AW.iret rfl dX8_copy_50 ⟨by unfold copyZ; rw [if_pos (by omega), if_pos (by omega)], Or.inr ⟨by unfold copyZ; rw [if_pos (by omega), if_pos (by omega)]; decide, rfl⟩⟩
      · refine AW.aload dX8_copy_40 0 rfl ?_
        refine AW.getI dX8_copy_42 fl_X8_272 (pp t.toNat (by omega)).1 rfl ?_
        refine AW.if_ne 51 dX8_copy_45 (by decide) (by omega) (fun c45 => ?_) (fun c45 => ?_)
        · refine AW.aload dX8_copy_51 1 rfl ?_
          refine AW.getI dX8_copy_53 fl_X8_280 (pp s.toNat (by omega)).1 rfl ?_
          refine AW.aload dX8_copy_56 0 rfl ?_
          refine AW.getI dX8_copy_58 fl_X8_280 (pp t.toNat (by omega)).1 rfl ?_
          refine AW.icmp_eq 67 dX8_copy_61 (by decide) (by omega) (by omega) (fun c61 => ?_) (fun c61 => ?_)
          · refine AW.aload dX8_copy_67 1 rfl ?_
            refine AW.iload_n dX8_copy_69 4 rfl rfl ?_
            refine AW.iload dX8_copy_70 7 rfl ?_
            refine AW.callV2ip (C_has Γ M _ (pp s.toNat (by omega)) _ _ hi hn (by omega)) dX8_copy_72 mc_X8_283 (pp s.toNat (by omega)).1 (fun _ => rfl) ⟨Nat.le_of_ble_eq_true rfl, Nat.le_of_ble_eq_true rfl⟩ (Nat.le_of_ble_eq_true rfl) ?_
            refine AW.if_eq 90 dX8_copy_75 (by decide) (bI_r _) (fun c75 => ?_) (fun c75 => ?_)
            · have d75 := bI0.mp c75
              refine AW.bipush (z := (-13)) dX8_copy_90 (by decide) ?_
              exact AW.iret rfl dX8_copy_92 ⟨by unfold copyZ; rw [if_pos (by omega), if_neg (by omega), if_pos (by omega), if_neg (by omega)], Or.inr ⟨by unfold copyZ; rw [if_pos (by omega), if_neg (by omega), if_pos (by omega), if_neg (by omega)]; decide, rfl⟩⟩
            · have d75 := bI1.mp c75
              refine AW.aload dX8_copy_78 0 rfl ?_
              refine AW.iload dX8_copy_80 6 rfl ?_
              refine AW.iload dX8_copy_82 7 rfl ?_
              refine AW.callV2ip (C_has Γ M _ (pp t.toNat (by omega)) _ _ hj hn (by omega)) dX8_copy_84 mc_X8_283 (pp t.toNat (by omega)).1 (fun _ => rfl) ⟨Nat.le_of_ble_eq_true rfl, Nat.le_of_ble_eq_true rfl⟩ (Nat.le_of_ble_eq_true rfl) ?_
              refine AW.if_ne 93 dX8_copy_87 (by decide) (bI_r _) (fun c87 => ?_) (fun c87 => ?_)
              · have d87 := bI1.mp c87
                refine AW.aload dX8_copy_93 1 rfl ?_
                refine AW.getR dX8_copy_95 fl_X8_258 (pp s.toNat (by omega)).1 rfl ?_
                refine AW.iload_n dX8_copy_98 4 rfl rfl ?_
                refine AW.aload dX8_copy_99 0 rfl ?_
                refine AW.getR dX8_copy_101 fl_X8_258 (pp t.toNat (by omega)).1 rfl ?_
                refine AW.iload dX8_copy_104 6 rfl ?_
                refine AW.iload dX8_copy_106 7 rfl ?_
                refine AW.copyL dX8_copy_108 mc_X8_287 (pp s.toNat (by omega)).2 (pp t.toNat (by omega)).2 (by omega) (by omega) (by omega) (by omega) (by omega) (by decide) (by decide) (Nat.le_of_ble_eq_true rfl) (Nat.le_of_ble_eq_true rfl) ?_
                refine AW.iload dX8_copy_111 7 rfl ?_
                exact AW.iret rfl dX8_copy_113 ⟨by unfold copyZ; rw [if_pos (by omega), if_neg (by omega), if_pos (by omega), if_pos (by omega)], Or.inl ⟨by unfold copyZ; rw [if_pos (by omega), if_neg (by omega), if_pos (by omega), if_pos (by omega)]; omega, rfl⟩⟩
              · have d87 := bI0.mp c87
                refine AW.bipush (z := (-13)) dX8_copy_90 (by decide) ?_
                exact AW.iret rfl dX8_copy_92 ⟨by unfold copyZ; rw [if_pos (by omega), if_neg (by omega), if_pos (by omega), if_neg (by omega)], Or.inr ⟨by unfold copyZ; rw [if_pos (by omega), if_neg (by omega), if_pos (by omega), if_neg (by omega)]; decide, rfl⟩⟩
          · refine AW.bipush (z := (-12)) dX8_copy_64 (by decide) ?_
            exact AW.iret rfl dX8_copy_66 ⟨by unfold copyZ; rw [if_pos (by omega), if_neg (by omega), if_neg (by omega)], Or.inr ⟨by unfold copyZ; rw [if_pos (by omega), if_neg (by omega), if_neg (by omega)]; decide, rfl⟩⟩
        · refine AW.bipush (z := (-11)) dX8_copy_48 (by decide) ?_
          exact AW.iret rfl dX8_copy_50 ⟨by unfold copyZ; rw [if_pos (by omega), if_pos (by omega)], Or.inr ⟨by unfold copyZ; rw [if_pos (by omega), if_pos (by omega)]; decide, rfl⟩⟩
    · have d11 := bI0.mp c11
      refine AW.iconst dX8_copy_14 ?_
      exact AW.iret rfl dX8_copy_15 ⟨by unfold copyZ; rw [if_neg (by omega)], Or.inr ⟨by unfold copyZ; rw [if_neg (by omega)]; decide, rfl⟩⟩

set_option maxRecDepth 20000 in
theorem copy9_loop1 (Γ : GC) (M : Mm) (s i t j n : Int) (hs : 0 ≤ s ∧ s < 4) (hi : 0 ≤ i) (hn : 0 ≤ n) (hin : i + n ≤ 24) (Q : Int → Mm → Prop) (hx : ∀ x : Int, x = 0 + (n.toNat : Nat) → AW Γ uX9_copy 144 [(6, vi x), (0, rf Γ 94), (1, vi s), (2, vi i), (3, vi t), (4, vi j), (5, vi n)] [] (upM M 108 (va_cpy (M 107) (M 108) (24 * s.toNat + i.toNat) 0 (n.toNat))) Q) : ∀ (fu q : Nat) (x : Int), x = 0 + q → q ≤ n.toNat → n.toNat - q < fu → AW Γ uX9_copy 110 [(6, vi x), (0, rf Γ 94), (1, vi s), (2, vi i), (3, vi t), (4, vi j), (5, vi n)] [] (upM M 108 (va_cpy (M 107) (M 108) (24 * s.toNat + i.toNat) 0 q)) Q := by
  intro fu
  induction fu with
  | zero => intro q x g0 g1 gm; omega
  | succ fu ih =>
    intro q x g0 g1 gm
    refine AW.iload dX9_copy_110 0 rfl ?_
    refine AW.iload dX9_copy_112 6 rfl ?_
    refine AW.icmp_ge 144 dX9_copy_114 (by decide) (by omega) (by omega) (fun c114 => ?_) (fun c114 => ?_)
    · refine AW.sub [0, 1, 2, 3, 4, 5, 6] rfl ?_
      rw [show q = n.toNat by omega]
      exact hx x (by omega)
    · refine AW.aload_n dX9_copy_117 1 rfl rfl ?_
      refine AW.getR dX9_copy_118 fl_X9_54 (show sh 94 = (0, 9, [some 95, some 96, some 97, none, none, none, some 98, some 99, some 100, none, none, none, none, some 101, none, none, none, some 102, none, some 103, some 104, none, some 105, some 106, some 107, some 108]) from rfl) rfl ?_
      refine AW.iload dX9_copy_121 0 rfl ?_
      refine AW.aload_n dX9_copy_123 1 rfl rfl ?_
      refine AW.getR dX9_copy_124 fl_X9_50 (show sh 94 = (0, 9, [some 95, some 96, some 97, none, none, none, some 98, some 99, some 100, none, none, none, none, some 101, none, none, none, some 102, none, some 103, some 104, none, some 105, some 106, some 107, some 108]) from rfl) rfl ?_
      refine AW.bipush (z := (24)) dX9_copy_127 (by decide) ?_
      refine AW.iload_n dX9_copy_129 2 rfl rfl ?_
      refine AW.imul dX9_copy_130 ?_
      refine AW.iload_n dX9_copy_131 3 rfl rfl ?_
      refine AW.iadd dX9_copy_132 ?_
      refine AW.iload dX9_copy_133 0 rfl ?_
      refine AW.iadd dX9_copy_135 ?_
      refine AW.laldN (24 * s.toNat + i.toNat + q) dX9_copy_136 (show sh 107 = (2, 96, []) from rfl) (by omega) (by omega) (by decide) ?_
      rw [upM_n (by decide)]
      refine AW.lastN q dX9_copy_137 (show sh 108 = (2, 24, []) from rfl) (by omega) (by omega) (by decide) ?_
      obtain ⟨x138, ex138⟩ : ∃ z : Int, x + 1 = z := ⟨_, rfl⟩
      refine AW.iinc [(6, vi x138), (0, rf Γ 94), (1, vi s), (2, vi i), (3, vi t), (4, vi j), (5, vi n)] dX9_copy_138 0 rfl (by decide) x138 ex138 rfl ?_
      refine AW.goto 110 dX9_copy_141 (by decide) ?_
      refine AW.sub [0, 1, 2, 3, 4, 5, 6] rfl ?_
      refine AW.toM (show _ = (upM M 108 (va_cpy (M 107) (M 108) (24 * s.toNat + i.toNat) 0 (q + 1))) from ?_) (ih (q + 1) x138 (by omega) (by omega) (by omega))
      rw [upM_up2, ← cpy_step]
      simp only [Nat.zero_add]

set_option maxRecDepth 20000 in
theorem copy9_loop2 (Γ : GC) (M : Mm) (s i t j n : Int) (ht : 0 ≤ t ∧ t < 4) (hj : 0 ≤ j) (hn : 0 ≤ n) (hjn : j + n ≤ 24) (Q : Int → Mm → Prop) (hx : ∀ x : Int, x = 0 + (n.toNat : Nat) → AW Γ uX9_copy 182 [(6, vi x), (0, rf Γ 94), (1, vi s), (2, vi i), (3, vi t), (4, vi j), (5, vi n)] [] (upM M 107 (va_cpy (M 108) (M 107) 0 (24 * t.toNat + j.toNat) (n.toNat))) Q) : ∀ (fu q : Nat) (x : Int), x = 0 + q → q ≤ n.toNat → n.toNat - q < fu → AW Γ uX9_copy 147 [(6, vi x), (0, rf Γ 94), (1, vi s), (2, vi i), (3, vi t), (4, vi j), (5, vi n)] [] (upM M 107 (va_cpy (M 108) (M 107) 0 (24 * t.toNat + j.toNat) q)) Q := by
  intro fu
  induction fu with
  | zero => intro q x g0 g1 gm; omega
  | succ fu ih =>
    intro q x g0 g1 gm
    refine AW.iload dX9_copy_147 0 rfl ?_
    refine AW.iload dX9_copy_149 6 rfl ?_
    refine AW.icmp_ge 182 dX9_copy_151 (by decide) (by omega) (by omega) (fun c151 => ?_) (fun c151 => ?_)
    · refine AW.sub [0, 1, 2, 3, 4, 5, 6] rfl ?_
      rw [show q = n.toNat by omega]
      exact hx x (by omega)
    · refine AW.aload_n dX9_copy_154 1 rfl rfl ?_
      refine AW.getR dX9_copy_155 fl_X9_50 (show sh 94 = (0, 9, [some 95, some 96, some 97, none, none, none, some 98, some 99, some 100, none, none, none, none, some 101, none, none, none, some 102, none, some 103, some 104, none, some 105, some 106, some 107, some 108]) from rfl) rfl ?_
      refine AW.bipush (z := (24)) dX9_copy_158 (by decide) ?_
      refine AW.iload_n dX9_copy_160 4 rfl rfl ?_
      refine AW.imul dX9_copy_161 ?_
      refine AW.iload dX9_copy_162 5 rfl ?_
      refine AW.iadd dX9_copy_164 ?_
      refine AW.iload dX9_copy_165 0 rfl ?_
      refine AW.iadd dX9_copy_167 ?_
      refine AW.aload_n dX9_copy_168 1 rfl rfl ?_
      refine AW.getR dX9_copy_169 fl_X9_54 (show sh 94 = (0, 9, [some 95, some 96, some 97, none, none, none, some 98, some 99, some 100, none, none, none, none, some 101, none, none, none, some 102, none, some 103, some 104, none, some 105, some 106, some 107, some 108]) from rfl) rfl ?_
      refine AW.iload dX9_copy_172 0 rfl ?_
      refine AW.laldN q dX9_copy_174 (show sh 108 = (2, 24, []) from rfl) (by omega) (by omega) (by decide) ?_
      rw [upM_n (by decide)]
      refine AW.lastN (24 * t.toNat + j.toNat + q) dX9_copy_175 (show sh 107 = (2, 96, []) from rfl) (by omega) (by omega) (by decide) ?_
      obtain ⟨x176, ex176⟩ : ∃ z : Int, x + 1 = z := ⟨_, rfl⟩
      refine AW.iinc [(6, vi x176), (0, rf Γ 94), (1, vi s), (2, vi i), (3, vi t), (4, vi j), (5, vi n)] dX9_copy_176 0 rfl (by decide) x176 ex176 rfl ?_
      refine AW.goto 147 dX9_copy_179 (by decide) ?_
      refine AW.sub [0, 1, 2, 3, 4, 5, 6] rfl ?_
      refine AW.toM (show _ = (upM M 107 (va_cpy (M 108) (M 107) 0 (24 * t.toNat + j.toNat) (q + 1))) from ?_) (ih (q + 1) x176 (by omega) (by omega) (by omega))
      rw [upM_up2, ← cpy_step]
      simp only [Nat.zero_add]

set_option maxRecDepth 20000 in
theorem C9_copy (Γ : GC) (M : Mm) (hg : OkG (M 105) (M 106)) (s i t j n : Int) (hs : R32 s) (hi : R32 i) (ht : R32 t) (hj : R32 j) (hn : R32 n) : Ct Γ uX9_copy [rf Γ 94, vi s, vi i, vi t, vi j, vi n] M (fun z M' => z = copyZ (M 105) (M 106) s i t j n ∧ ((0 ≤ copyZ (M 105) (M 106) s i t j n ∧ M' 107 = va_cpy (va_cpy (M 107) (M 108) (24 * s.toNat + i.toNat) 0 n.toNat) (M 107) 0 (24 * t.toNat + j.toNat) n.toNat ∧ ∀ a : Nat, a ≠ 107 → a ≠ 108 → M' a = M a) ∨ (copyZ (M 105) (M 106) s i t j n < 0 ∧ M' = M))) := by
  refine Ct.of (by decide) (Nat.le_of_ble_eq_true rfl) ?_
  show AW Γ uX9_copy 0 [(0, rf Γ 94), (1, vi s), (2, vi i), (3, vi t), (4, vi j), (5, vi n)] [] M _
  refine AW.iload_n dX9_copy_0 1 rfl rfl ?_
  refine AW.callS1ip (C9_isSheet Γ M _ (by omega)) dX9_copy_1 mc_X9_242 (fun _ => rfl) ⟨Nat.le_of_ble_eq_true rfl, Nat.le_of_ble_eq_true rfl⟩ (Nat.le_of_ble_eq_true rfl) ?_
  refine AW.if_eq 14 dX9_copy_4 (by decide) (bI_r _) (fun c4 => ?_) (fun c4 => ?_)
  · have d4 := bI0.mp c4
    refine AW.iconst dX9_copy_14 ?_
    exact AW.iret rfl dX9_copy_15 ⟨by unfold copyZ; rw [if_neg (by omega)], Or.inr ⟨by unfold copyZ; rw [if_neg (by omega)]; decide, rfl⟩⟩
  · have d4 := bI1.mp c4
    refine AW.iload_n dX9_copy_7 3 rfl rfl ?_
    refine AW.callS1ip (C9_isSheet Γ M _ (by omega)) dX9_copy_8 mc_X9_242 (fun _ => rfl) ⟨Nat.le_of_ble_eq_true rfl, Nat.le_of_ble_eq_true rfl⟩ (Nat.le_of_ble_eq_true rfl) ?_
    refine AW.if_ne 16 dX9_copy_11 (by decide) (bI_r _) (fun c11 => ?_) (fun c11 => ?_)
    · have d11 := bI1.mp c11
      have hr := hg s.toNat (by omega)
      have hr2 := hg t.toNat (by omega)
      refine AW.aload_n dX9_copy_16 0 rfl rfl ?_
      refine AW.getR dX9_copy_17 fl_X9_44 (show sh 94 = (0, 9, [some 95, some 96, some 97, none, none, none, some 98, some 99, some 100, none, none, none, none, some 101, none, none, none, some 102, none, some 103, some 104, none, some 105, some 106, some 107, some 108]) from rfl) rfl ?_
      refine AW.iload_n dX9_copy_20 1 rfl rfl ?_
      refine AW.ialdN (s.toNat) dX9_copy_21 (show sh 105 = (1, 4, []) from rfl) (by omega) (by omega) (by decide) ?_
      refine AW.if_lt 34 dX9_copy_22 (by decide) (by omega) (fun c22 => ?_) (fun c22 => ?_)
      · refine AW.bipush (z := (-11)) dX9_copy_34 (by decide) ?_
        exact AW.iret rfl dX9_copy_36 ⟨by unfold copyZ; rw [if_pos (by omega), if_pos (by omega)], Or.inr ⟨by unfold copyZ; rw [if_pos (by omega), if_pos (by omega)]; decide, rfl⟩⟩
      · refine AW.aload_n dX9_copy_25 0 rfl rfl ?_
        refine AW.getR dX9_copy_26 fl_X9_44 (show sh 94 = (0, 9, [some 95, some 96, some 97, none, none, none, some 98, some 99, some 100, none, none, none, none, some 101, none, none, none, some 102, none, some 103, some 104, none, some 105, some 106, some 107, some 108]) from rfl) rfl ?_
        refine AW.iload_n dX9_copy_29 3 rfl rfl ?_
        refine AW.ialdN (t.toNat) dX9_copy_30 (show sh 105 = (1, 4, []) from rfl) (by omega) (by omega) (by decide) ?_
        refine AW.if_ge 37 dX9_copy_31 (by decide) (by omega) (fun c31 => ?_) (fun c31 => ?_)
        · refine AW.aload_n dX9_copy_37 0 rfl rfl ?_
          refine AW.getR dX9_copy_38 fl_X9_44 (show sh 94 = (0, 9, [some 95, some 96, some 97, none, none, none, some 98, some 99, some 100, none, none, none, none, some 101, none, none, none, some 102, none, some 103, some 104, none, some 105, some 106, some 107, some 108]) from rfl) rfl ?_
          refine AW.iload_n dX9_copy_41 1 rfl rfl ?_
          refine AW.ialdN (s.toNat) dX9_copy_42 (show sh 105 = (1, 4, []) from rfl) (by omega) (by omega) (by decide) ?_
          refine AW.aload_n dX9_copy_43 0 rfl rfl ?_
          refine AW.getR dX9_copy_44 fl_X9_44 (show sh 94 = (0, 9, [some 95, some 96, some 97, none, none, none, some 98, some 99, some 100, none, none, none, none, some 101, none, none, none, some 102, none, some 103, some 104, none, some 105, some 106, some 107, some 108]) from rfl) rfl ?_
          refine AW.iload_n dX9_copy_47 3 rfl rfl ?_
          refine AW.ialdN (t.toNat) dX9_copy_48 (show sh 105 = (1, 4, []) from rfl) (by omega) (by omega) (by decide) ?_
          refine AW.icmp_eq 55 dX9_copy_49 (by decide) (by omega) (by omega) (fun c49 => ?_) (fun c49 => ?_)
          · refine AW.iload dX9_copy_55 5 rfl ?_
            refine AW.if_lt 104 dX9_copy_57 (by decide) (by omega) (fun c57 => ?_) (fun c57 => ?_)
            · refine AW.bipush (z := (-13)) dX9_copy_104 (by decide) ?_
              exact AW.iret rfl dX9_copy_106 ⟨by unfold copyZ; rw [if_pos (by omega), if_neg (by omega), if_pos (by omega), if_neg (by omega)], Or.inr ⟨by unfold copyZ; rw [if_pos (by omega), if_neg (by omega), if_pos (by omega), if_neg (by omega)]; decide, rfl⟩⟩
            · refine AW.iload_n dX9_copy_60 2 rfl rfl ?_
              refine AW.if_lt 104 dX9_copy_61 (by decide) (by omega) (fun c61 => ?_) (fun c61 => ?_)
              · refine AW.bipush (z := (-13)) dX9_copy_104 (by decide) ?_
                exact AW.iret rfl dX9_copy_106 ⟨by unfold copyZ; rw [if_pos (by omega), if_neg (by omega), if_pos (by omega), if_neg (by omega)], Or.inr ⟨by unfold copyZ; rw [if_pos (by omega), if_neg (by omega), if_pos (by omega), if_neg (by omega)]; decide, rfl⟩⟩
              · refine AW.iload dX9_copy_64 4 rfl ?_
                refine AW.if_lt 104 dX9_copy_66 (by decide) (by omega) (fun c66 => ?_) (fun c66 => ?_)
                · refine AW.bipush (z := (-13)) dX9_copy_104 (by decide) ?_
                  exact AW.iret rfl dX9_copy_106 ⟨by unfold copyZ; rw [if_pos (by omega), if_neg (by omega), if_pos (by omega), if_neg (by omega)], Or.inr ⟨by unfold copyZ; rw [if_pos (by omega), if_neg (by omega), if_pos (by omega), if_neg (by omega)]; decide, rfl⟩⟩
                · refine AW.iload_n dX9_copy_69 2 rfl rfl ?_
                  refine AW.i2l dX9_copy_70 (by omega) ?_
                  refine AW.iload dX9_copy_71 5 rfl ?_
                  refine AW.i2l dX9_copy_73 (by omega) ?_
                  refine AW.ladd dX9_copy_74 ?_
                  refine AW.aload_n dX9_copy_75 0 rfl rfl ?_
                  refine AW.getR dX9_copy_76 fl_X9_47 (show sh 94 = (0, 9, [some 95, some 96, some 97, none, none, none, some 98, some 99, some 100, none, none, none, none, some 101, none, none, none, some 102, none, some 103, some 104, none, some 105, some 106, some 107, some 108]) from rfl) rfl ?_
                  refine AW.iload_n dX9_copy_79 1 rfl rfl ?_
                  refine AW.ialdN (s.toNat) dX9_copy_80 (show sh 106 = (1, 4, []) from rfl) (by omega) (by omega) (by decide) ?_
                  refine AW.i2l dX9_copy_81 (by omega) ?_
                  refine AW.lcmp dX9_copy_82 (by omega) (by omega) ?_
                  refine AW.if_gt 104 dX9_copy_83 (by decide) (by split <;> (try split) <;> omega) (fun c83 => ?_) (fun c83 => ?_)
                  · have d83 : M 106 s.toNat < i + n := by revert c83; split <;> (try split) <;> omega
                    refine AW.bipush (z := (-13)) dX9_copy_104 (by decide) ?_
                    exact AW.iret rfl dX9_copy_106 ⟨by unfold copyZ; rw [if_pos (by omega), if_neg (by omega), if_pos (by omega), if_neg (by omega)], Or.inr ⟨by unfold copyZ; rw [if_pos (by omega), if_neg (by omega), if_pos (by omega), if_neg (by omega)]; decide, rfl⟩⟩
                  · have d83 : i + n ≤ M 106 s.toNat := by revert c83; split <;> (try split) <;> omega
                    refine AW.iload dX9_copy_86 4 rfl ?_
                    refine AW.i2l dX9_copy_88 (by omega) ?_
                    refine AW.iload dX9_copy_89 5 rfl ?_
                    refine AW.i2l dX9_copy_91 (by omega) ?_
                    refine AW.ladd dX9_copy_92 ?_
                    refine AW.aload_n dX9_copy_93 0 rfl rfl ?_
                    refine AW.getR dX9_copy_94 fl_X9_47 (show sh 94 = (0, 9, [some 95, some 96, some 97, none, none, none, some 98, some 99, some 100, none, none, none, none, some 101, none, none, none, some 102, none, some 103, some 104, none, some 105, some 106, some 107, some 108]) from rfl) rfl ?_
                    refine AW.iload_n dX9_copy_97 3 rfl rfl ?_
                    refine AW.ialdN (t.toNat) dX9_copy_98 (show sh 106 = (1, 4, []) from rfl) (by omega) (by omega) (by decide) ?_
                    refine AW.i2l dX9_copy_99 (by omega) ?_
                    refine AW.lcmp dX9_copy_100 (by omega) (by omega) ?_
                    refine AW.if_le 107 dX9_copy_101 (by decide) (by split <;> (try split) <;> omega) (fun c101 => ?_) (fun c101 => ?_)
                    · have d101 : j + n ≤ M 106 t.toNat := by revert c101; split <;> (try split) <;> omega
                      refine AW.iconst dX9_copy_107 ?_
                      refine AW.top (fun x108 ex108 => ?_)
                      refine AW.istore [(6, vi x108), (0, rf Γ 94), (1, vi s), (2, vi i), (3, vi t), (4, vi j), (5, vi n)] dX9_copy_108 (by decide) rfl ?_
                      refine AW.sub [0, 1, 2, 3, 4, 5, 6] rfl ?_
                      refine AW.toM (cpy_zero M 108 (M 107) (24 * s.toNat + i.toNat) 0).symm (copy9_loop1 Γ M s i t j n (by omega) (by omega) (by omega) (by omega) _ (fun x hx => ?_) (n.toNat + 1) 0 x108 (by omega) (by omega) (by omega))
                      refine AW.iconst dX9_copy_144 ?_
                      refine AW.top (fun x145 ex145 => ?_)
                      refine AW.istore [(6, vi x145), (0, rf Γ 94), (1, vi s), (2, vi i), (3, vi t), (4, vi j), (5, vi n)] dX9_copy_145 (by decide) rfl ?_
                      refine AW.sub [0, 1, 2, 3, 4, 5, 6] rfl ?_
                      obtain ⟨M1, hM1⟩ : ∃ q : Mm, q = upM M 108 (va_cpy (M 107) (M 108) (24 * s.toNat + i.toNat) 0 n.toNat) := ⟨_, rfl⟩
                      rw [← hM1]
                      refine AW.toM (cpy_zero M1 107 (M1 108) 0 (24 * t.toNat + j.toNat)).symm (copy9_loop2 Γ M1 s i t j n (by omega) (by omega) (by omega) (by omega) _ (fun x2 hx2 => ?_) (n.toNat + 1) 0 x145 (by omega) (by omega) (by omega))
                      refine AW.iload dX9_copy_182 6 rfl ?_
                      exact AW.iret rfl dX9_copy_184 ⟨by unfold copyZ; rw [if_pos (by omega), if_neg (by omega), if_pos (by omega), if_pos (by omega)], Or.inl ⟨by unfold copyZ; rw [if_pos (by omega), if_neg (by omega), if_pos (by omega), if_pos (by omega)]; omega, by rw [upM_s, hM1, upM_s, upM_n (by decide)], fun a h1 h2 => by rw [upM_n h1, hM1, upM_n h2]⟩⟩
                    · have d101 : M 106 t.toNat < j + n := by revert c101; split <;> (try split) <;> omega
                      refine AW.bipush (z := (-13)) dX9_copy_104 (by decide) ?_
                      exact AW.iret rfl dX9_copy_106 ⟨by unfold copyZ; rw [if_pos (by omega), if_neg (by omega), if_pos (by omega), if_neg (by omega)], Or.inr ⟨by unfold copyZ; rw [if_pos (by omega), if_neg (by omega), if_pos (by omega), if_neg (by omega)]; decide, rfl⟩⟩
          · refine AW.bipush (z := (-12)) dX9_copy_52 (by decide) ?_
            exact AW.iret rfl dX9_copy_54 ⟨by unfold copyZ; rw [if_pos (by omega), if_neg (by omega), if_neg (by omega)], Or.inr ⟨by unfold copyZ; rw [if_pos (by omega), if_neg (by omega), if_neg (by omega)]; decide, rfl⟩⟩
        · refine AW.bipush (z := (-11)) dX9_copy_34 (by decide) ?_
          exact AW.iret rfl dX9_copy_36 ⟨by unfold copyZ; rw [if_pos (by omega), if_pos (by omega)], Or.inr ⟨by unfold copyZ; rw [if_pos (by omega), if_pos (by omega)]; decide, rfl⟩⟩
    · have d11 := bI0.mp c11
      refine AW.iconst dX9_copy_14 ?_
      exact AW.iret rfl dX9_copy_15 ⟨by unfold copyZ; rw [if_neg (by omega)], Or.inr ⟨by unfold copyZ; rw [if_neg (by omega)]; decide, rfl⟩⟩
