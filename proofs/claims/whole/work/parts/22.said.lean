/-! said, count, type -/
theorem st1u {M : Mm} {r : Nat → Int} (h : stRel M 1 r) : M 1 1 = r 0 ∧ M 1 4 = r 1 ∧ M 1 5 = r 2 ∧ M 1 6 = r 3 ∧ M 1 7 = r 4 ∧ (∀ i : Nat, (i : Int) < r 0 → M 2 i = r (5 + i)) ∧ (∀ w : Nat, (w : Int) < r 1 → M 4 w = r (17 + 7 * w) ∧ ∀ i : Nat, (i : Int) < r (17 + 7 * w) → M 3 (6 * w + i) = r (18 + 7 * w + i)) := h
def saidS (r : Nat → Int) (k i : Int) : Int := if (k = -1 ∨ (0 ≤ k ∧ k < r 1)) ∧ 0 ≤ i then (if k = -1 then (if i < r 0 then r (5 + i.toNat) else -4) else (if i < r (17 + 7 * k.toNat) then r (18 + 7 * k.toNat + i.toNat) else -4)) else -1
def cnt4 (r : Nat → Int) : Nat → Int
  | 0 => 0
  | i + 1 => cnt4 r i + (if 0 ≤ trn (r (5 + i)) then 1 else 0)
def countS (r : Nat → Int) (u w : Int) : Int := if w = 0 then r 0 else if w = 1 then r 1 else if w = 2 then r 2 else if w = 3 then r 3 else if w = 4 then cnt4 r (r 0).toNat else if w = 5 then u else -1
theorem cnt4_b (r : Nat → Int) : ∀ i : Nat, 0 ≤ cnt4 r i ∧ cnt4 r i ≤ i
  | 0 => by simp [cnt4]
  | i + 1 => by have := cnt4_b r i; simp only [cnt4]; split <;> omega
theorem trn_neg {a : Int} : 0 ≤ trn a ∨ trn a = -4 := by unfold trn; split <;> omega

set_option maxRecDepth 20000 in
theorem C9_said (Γ : GC) (M : Mm) (ho : OkR (M 96)) (k i : Int) (hk : R32 k) (hi : R32 i) : Ct Γ uX9_said [rf Γ 94, vi k, vi i] M (Pu (saidS (M 96) k i) M) := by
  refine Ct.of (by decide) (Nat.le_of_ble_eq_true rfl) ?_
  show AW Γ uX9_said 0 [(0, rf Γ 94), (1, vi k), (2, vi i)] [] M _
  obtain ⟨o0, o1, o2, o3, o4, o5, o6⟩ := id ho
  refine AW.iload_n dX9_said_0 1 rfl rfl ?_
  refine AW.iconst dX9_said_1 ?_
  refine AW.icmp_eq 13 dX9_said_2 (by decide) (by omega) (by omega) (fun c2 => ?_) (fun c2 => ?_)
  · refine AW.iload_n dX9_said_13 2 rfl rfl ?_
    refine AW.if_ge 19 dX9_said_14 (by decide) (by omega) (fun c14 => ?_) (fun c14 => ?_)
    · refine AW.iload_n dX9_said_19 1 rfl rfl ?_
      refine AW.if_ge 44 dX9_said_20 (by decide) (by omega) (fun c20 => ?_) (fun c20 => ?_)
      · refine AW.iload_n dX9_said_44 2 rfl rfl ?_
        refine AW.aload_n dX9_said_45 0 rfl rfl ?_
        refine AW.iload_n dX9_said_46 1 rfl rfl ?_
        refine AW.callV1ip (C9_sizeOf Γ M _ k.toNat (by omega) (by omega)) dX9_said_47 mc_X9_100 (show sh 94 = (0, 9, [some 95, some 96, some 97, none, none, none, some 98, some 99, some 100, none, none, none, none, some 101, none, none, none, some 102, none, some 103, some 104, none, some 105, some 106, some 107, some 108]) from rfl) (fun _ => rfl) ⟨Nat.le_of_ble_eq_true rfl, Nat.le_of_ble_eq_true rfl⟩ (Nat.le_of_ble_eq_true rfl) ?_
        refine AW.icmp_ge 62 dX9_said_50 (by decide) (by omega) (by have := o6 k.toNat (by omega); omega) (fun c50 => ?_) (fun c50 => ?_)
        · refine AW.bipush (z := (-4)) dX9_said_62 (by decide) ?_
          exact AW.iret rfl dX9_said_64 ⟨by first | (exfalso; omega) | (unfold saidS; rw [if_pos (by omega), if_neg (by omega), if_pos (by omega)]; done) | (unfold saidS; rw [if_pos (by omega), if_neg (by omega), if_neg (by omega)]; done), rfl⟩
        · refine AW.aload_n dX9_said_53 0 rfl rfl ?_
          refine AW.iload_n dX9_said_54 1 rfl rfl ?_
          refine AW.iload_n dX9_said_55 2 rfl rfl ?_
          refine AW.callV2ip (C9_ofWord Γ M _ _ k.toNat i.toNat (by omega) (by omega) (by omega) (by have := o6 k.toNat (by omega); omega)) dX9_said_56 mc_X9_103 (show sh 94 = (0, 9, [some 95, some 96, some 97, none, none, none, some 98, some 99, some 100, none, none, none, none, some 101, none, none, none, some 102, none, some 103, some 104, none, some 105, some 106, some 107, some 108]) from rfl) (fun _ => rfl) ⟨Nat.le_of_ble_eq_true rfl, Nat.le_of_ble_eq_true rfl⟩ (Nat.le_of_ble_eq_true rfl) ?_
          refine AW.goto 64 dX9_said_59 (by decide) ?_
          exact AW.iret rfl dX9_said_64 ⟨by first | (exfalso; omega) | (unfold saidS; rw [if_pos (by omega), if_neg (by omega), if_pos (by omega)]; done) | (unfold saidS; rw [if_pos (by omega), if_neg (by omega), if_neg (by omega)]; done), rfl⟩
      · refine AW.iload_n dX9_said_23 2 rfl rfl ?_
        refine AW.aload_n dX9_said_24 0 rfl rfl ?_
        refine AW.getR dX9_said_25 fl_X9_13 (show sh 94 = (0, 9, [some 95, some 96, some 97, none, none, none, some 98, some 99, some 100, none, none, none, none, some 101, none, none, none, some 102, none, some 103, some 104, none, some 105, some 106, some 107, some 108]) from rfl) rfl ?_
        refine AW.iconst dX9_said_28 ?_
        refine AW.ialdN 0 dX9_said_29 (show sh 96 = (1, 59, []) from rfl) rfl (by decide) (by decide) ?_
        refine AW.icmp_ge 41 dX9_said_30 (by decide) (by omega) (by omega) (fun c30 => ?_) (fun c30 => ?_)
        · refine AW.bipush (z := (-4)) dX9_said_41 (by decide) ?_
          exact AW.iret rfl dX9_said_43 ⟨by first | (exfalso; omega) | (unfold saidS; rw [if_pos (by omega), if_pos (by omega), if_pos (by omega)]; done) | (unfold saidS; rw [if_pos (by omega), if_pos (by omega), if_neg (by omega)]; done), rfl⟩
        · refine AW.aload_n dX9_said_33 0 rfl rfl ?_
          refine AW.iload_n dX9_said_34 2 rfl rfl ?_
          refine AW.callV1ip (C9_at Γ M _ i.toNat (by omega) (by omega)) dX9_said_35 mc_X9_91 (show sh 94 = (0, 9, [some 95, some 96, some 97, none, none, none, some 98, some 99, some 100, none, none, none, none, some 101, none, none, none, some 102, none, some 103, some 104, none, some 105, some 106, some 107, some 108]) from rfl) (fun _ => rfl) ⟨Nat.le_of_ble_eq_true rfl, Nat.le_of_ble_eq_true rfl⟩ (Nat.le_of_ble_eq_true rfl) ?_
          refine AW.goto 43 dX9_said_38 (by decide) ?_
          exact AW.iret rfl dX9_said_43 ⟨by first | (exfalso; omega) | (unfold saidS; rw [if_pos (by omega), if_pos (by omega), if_pos (by omega)]; done) | (unfold saidS; rw [if_pos (by omega), if_pos (by omega), if_neg (by omega)]; done), rfl⟩
    · refine AW.iconst dX9_said_17 ?_
      exact AW.iret rfl dX9_said_18 ⟨by unfold saidS; rw [if_neg (by omega)], rfl⟩
  · refine AW.aload_n dX9_said_5 0 rfl rfl ?_
    refine AW.iload_n dX9_said_6 1 rfl rfl ?_
    refine AW.callV1ip (C9_isWord Γ M _ hk (by omega)) dX9_said_7 mc_X9_96 (show sh 94 = (0, 9, [some 95, some 96, some 97, none, none, none, some 98, some 99, some 100, none, none, none, none, some 101, none, none, none, some 102, none, some 103, some 104, none, some 105, some 106, some 107, some 108]) from rfl) (fun _ => rfl) ⟨Nat.le_of_ble_eq_true rfl, Nat.le_of_ble_eq_true rfl⟩ (Nat.le_of_ble_eq_true rfl) ?_
    refine AW.if_eq 17 dX9_said_10 (by decide) (bI_r _) (fun c10 => ?_) (fun c10 => ?_)
    · have d10 := bI0.mp c10
      refine AW.iconst dX9_said_17 ?_
      exact AW.iret rfl dX9_said_18 ⟨by unfold saidS; rw [if_neg (by omega)], rfl⟩
    · have d10 := bI1.mp c10
      refine AW.iload_n dX9_said_13 2 rfl rfl ?_
      refine AW.if_ge 19 dX9_said_14 (by decide) (by omega) (fun c14 => ?_) (fun c14 => ?_)
      · refine AW.iload_n dX9_said_19 1 rfl rfl ?_
        refine AW.if_ge 44 dX9_said_20 (by decide) (by omega) (fun c20 => ?_) (fun c20 => ?_)
        · refine AW.iload_n dX9_said_44 2 rfl rfl ?_
          refine AW.aload_n dX9_said_45 0 rfl rfl ?_
          refine AW.iload_n dX9_said_46 1 rfl rfl ?_
          refine AW.callV1ip (C9_sizeOf Γ M _ k.toNat (by omega) (by omega)) dX9_said_47 mc_X9_100 (show sh 94 = (0, 9, [some 95, some 96, some 97, none, none, none, some 98, some 99, some 100, none, none, none, none, some 101, none, none, none, some 102, none, some 103, some 104, none, some 105, some 106, some 107, some 108]) from rfl) (fun _ => rfl) ⟨Nat.le_of_ble_eq_true rfl, Nat.le_of_ble_eq_true rfl⟩ (Nat.le_of_ble_eq_true rfl) ?_
          refine AW.icmp_ge 62 dX9_said_50 (by decide) (by omega) (by have := o6 k.toNat (by omega); omega) (fun c50 => ?_) (fun c50 => ?_)
          · refine AW.bipush (z := (-4)) dX9_said_62 (by decide) ?_
            exact AW.iret rfl dX9_said_64 ⟨by first | (exfalso; omega) | (unfold saidS; rw [if_pos (by omega), if_neg (by omega), if_pos (by omega)]; done) | (unfold saidS; rw [if_pos (by omega), if_neg (by omega), if_neg (by omega)]; done), rfl⟩
          · refine AW.aload_n dX9_said_53 0 rfl rfl ?_
            refine AW.iload_n dX9_said_54 1 rfl rfl ?_
            refine AW.iload_n dX9_said_55 2 rfl rfl ?_
            refine AW.callV2ip (C9_ofWord Γ M _ _ k.toNat i.toNat (by omega) (by omega) (by omega) (by have := o6 k.toNat (by omega); omega)) dX9_said_56 mc_X9_103 (show sh 94 = (0, 9, [some 95, some 96, some 97, none, none, none, some 98, some 99, some 100, none, none, none, none, some 101, none, none, none, some 102, none, some 103, some 104, none, some 105, some 106, some 107, some 108]) from rfl) (fun _ => rfl) ⟨Nat.le_of_ble_eq_true rfl, Nat.le_of_ble_eq_true rfl⟩ (Nat.le_of_ble_eq_true rfl) ?_
            refine AW.goto 64 dX9_said_59 (by decide) ?_
            exact AW.iret rfl dX9_said_64 ⟨by first | (exfalso; omega) | (unfold saidS; rw [if_pos (by omega), if_neg (by omega), if_pos (by omega)]; done) | (unfold saidS; rw [if_pos (by omega), if_neg (by omega), if_neg (by omega)]; done), rfl⟩
        · refine AW.iload_n dX9_said_23 2 rfl rfl ?_
          refine AW.aload_n dX9_said_24 0 rfl rfl ?_
          refine AW.getR dX9_said_25 fl_X9_13 (show sh 94 = (0, 9, [some 95, some 96, some 97, none, none, none, some 98, some 99, some 100, none, none, none, none, some 101, none, none, none, some 102, none, some 103, some 104, none, some 105, some 106, some 107, some 108]) from rfl) rfl ?_
          refine AW.iconst dX9_said_28 ?_
          refine AW.ialdN 0 dX9_said_29 (show sh 96 = (1, 59, []) from rfl) rfl (by decide) (by decide) ?_
          refine AW.icmp_ge 41 dX9_said_30 (by decide) (by omega) (by omega) (fun c30 => ?_) (fun c30 => ?_)
          · refine AW.bipush (z := (-4)) dX9_said_41 (by decide) ?_
            exact AW.iret rfl dX9_said_43 ⟨by first | (exfalso; omega) | (unfold saidS; rw [if_pos (by omega), if_pos (by omega), if_pos (by omega)]; done) | (unfold saidS; rw [if_pos (by omega), if_pos (by omega), if_neg (by omega)]; done), rfl⟩
          · refine AW.aload_n dX9_said_33 0 rfl rfl ?_
            refine AW.iload_n dX9_said_34 2 rfl rfl ?_
            refine AW.callV1ip (C9_at Γ M _ i.toNat (by omega) (by omega)) dX9_said_35 mc_X9_91 (show sh 94 = (0, 9, [some 95, some 96, some 97, none, none, none, some 98, some 99, some 100, none, none, none, none, some 101, none, none, none, some 102, none, some 103, some 104, none, some 105, some 106, some 107, some 108]) from rfl) (fun _ => rfl) ⟨Nat.le_of_ble_eq_true rfl, Nat.le_of_ble_eq_true rfl⟩ (Nat.le_of_ble_eq_true rfl) ?_
            refine AW.goto 43 dX9_said_38 (by decide) ?_
            exact AW.iret rfl dX9_said_43 ⟨by first | (exfalso; omega) | (unfold saidS; rw [if_pos (by omega), if_pos (by omega), if_pos (by omega)]; done) | (unfold saidS; rw [if_pos (by omega), if_pos (by omega), if_neg (by omega)]; done), rfl⟩
      · refine AW.iconst dX9_said_17 ?_
        exact AW.iret rfl dX9_said_18 ⟨by unfold saidS; rw [if_neg (by omega)], rfl⟩

set_option maxRecDepth 20000 in
theorem C_said (Γ : GC) (M : Mm) (r : Nat → Int) (ho : OkR r) (hr : stRel M 1 r) (k i : Int) (hk : R32 k) (hi : R32 i) : Ct Γ uX8_said [rf Γ 0, vi k, vi i] M (Pu (saidS r k i) M) := by
  refine Ct.of (by decide) (Nat.le_of_ble_eq_true rfl) ?_
  show AW Γ uX8_said 0 [(0, rf Γ 0), (1, vi k), (2, vi i)] [] M _
  obtain ⟨h1, h2, h3, h4, h5, h6, h7⟩ := st1u hr
  obtain ⟨o0, o1, o2, o3, o4, o5, o6⟩ := id ho
  refine AW.iload_n dX8_said_0 2 rfl rfl ?_
  refine AW.if_lt 20 dX8_said_1 (by decide) (by omega) (fun c1 => ?_) (fun c1 => ?_)
  · refine AW.iconst dX8_said_20 ?_
    exact AW.iret rfl dX8_said_21 ⟨by unfold saidS; rw [if_neg (by omega)], rfl⟩
  · refine AW.iload_n dX8_said_4 1 rfl rfl ?_
    refine AW.iconst dX8_said_5 ?_
    refine AW.icmp_eq 22 dX8_said_6 (by decide) (by omega) (by omega) (fun c6 => ?_) (fun c6 => ?_)
    · refine AW.iload_n dX8_said_22 1 rfl rfl ?_
      refine AW.iconst dX8_said_23 ?_
      refine AW.icmp_ne 53 dX8_said_24 (by decide) (by omega) (by omega) (fun c24 => ?_) (fun c24 => ?_)
      · refine AW.iload_n dX8_said_53 2 rfl rfl ?_
        refine AW.aload_n dX8_said_54 0 rfl rfl ?_
        refine AW.getR dX8_said_55 fl_X8_10 (show sh 0 = (0, 8, [some 1, some 5, some 31, some 35, none, some 61, some 65, some 71, some 76, some 79, some 83, some 85]) from rfl) rfl ?_
        refine AW.getR dX8_said_58 fl_X8_144 (show sh 1 = (0, 5, [some 2, none, some 3, some 4, none, none, none, none]) from rfl) rfl ?_
        refine AW.iload_n dX8_said_61 1 rfl rfl ?_
        have q7 := h7 k.toNat (by omega)
        have q6 := o6 k.toNat (by omega)
        refine AW.ialdN (k.toNat) dX8_said_62 (show sh 4 = (1, 6, []) from rfl) (by omega) (by omega) (by decide) ?_
        refine AW.icmp_ge 78 dX8_said_63 (by decide) (by omega) (by omega) (fun c63 => ?_) (fun c63 => ?_)
        · refine AW.bipush (z := (-4)) dX8_said_78 (by decide) ?_
          exact AW.iret rfl dX8_said_80 ⟨by first | (exfalso; omega) | (unfold saidS; rw [if_pos (by omega), if_neg (by omega), if_pos (by omega), show (k * 6 + i).toNat = 6 * k.toNat + i.toNat by omega]; exact q7.2 _ (by omega)) | (unfold saidS; rw [if_pos (by omega), if_neg (by omega), if_neg (by omega)]; done), rfl⟩
        · refine AW.aload_n dX8_said_66 0 rfl rfl ?_
          refine AW.getR dX8_said_67 fl_X8_10 (show sh 0 = (0, 8, [some 1, some 5, some 31, some 35, none, some 61, some 65, some 71, some 76, some 79, some 83, some 85]) from rfl) rfl ?_
          refine AW.iload_n dX8_said_70 1 rfl rfl ?_
          refine AW.iload_n dX8_said_71 2 rfl rfl ?_
          refine AW.callV2ip (C_letterOf Γ M 1 st1 _ _ (by omega) (by omega)) dX8_said_72 mc_X8_147 (show sh 1 = (0, 5, [some 2, none, some 3, some 4, none, none, none, none]) from rfl) (fun _ => rfl) ⟨Nat.le_of_ble_eq_true rfl, Nat.le_of_ble_eq_true rfl⟩ (Nat.le_of_ble_eq_true rfl) ?_
          refine AW.goto 80 dX8_said_75 (by decide) ?_
          exact AW.iret rfl dX8_said_80 ⟨by first | (exfalso; omega) | (unfold saidS; rw [if_pos (by omega), if_neg (by omega), if_pos (by omega), show (k * 6 + i).toNat = 6 * k.toNat + i.toNat by omega]; exact q7.2 _ (by omega)) | (unfold saidS; rw [if_pos (by omega), if_neg (by omega), if_neg (by omega)]; done), rfl⟩
      · refine AW.iload_n dX8_said_27 2 rfl rfl ?_
        refine AW.aload_n dX8_said_28 0 rfl rfl ?_
        refine AW.getR dX8_said_29 fl_X8_10 (show sh 0 = (0, 8, [some 1, some 5, some 31, some 35, none, some 61, some 65, some 71, some 76, some 79, some 83, some 85]) from rfl) rfl ?_
        refine AW.getI dX8_said_32 fl_X8_137 (show sh 1 = (0, 5, [some 2, none, some 3, some 4, none, none, none, none]) from rfl) rfl ?_
        refine AW.icmp_ge 50 dX8_said_35 (by decide) (by omega) (by omega) (fun c35 => ?_) (fun c35 => ?_)
        · refine AW.bipush (z := (-4)) dX8_said_50 (by decide) ?_
          exact AW.iret rfl dX8_said_52 ⟨by first | (exfalso; omega) | (unfold saidS; rw [if_pos (by omega), if_pos (by omega), if_pos (by omega)]; exact h6 _ (by omega)) | (unfold saidS; rw [if_pos (by omega), if_pos (by omega), if_neg (by omega)]; done), rfl⟩
        · refine AW.aload_n dX8_said_38 0 rfl rfl ?_
          refine AW.getR dX8_said_39 fl_X8_10 (show sh 0 = (0, 8, [some 1, some 5, some 31, some 35, none, some 61, some 65, some 71, some 76, some 79, some 83, some 85]) from rfl) rfl ?_
          refine AW.getR dX8_said_42 fl_X8_141 (show sh 1 = (0, 5, [some 2, none, some 3, some 4, none, none, none, none]) from rfl) rfl ?_
          refine AW.iload_n dX8_said_45 2 rfl rfl ?_
          refine AW.ialdN (i.toNat) dX8_said_46 (show sh 2 = (1, 12, []) from rfl) (by omega) (by omega) (by decide) ?_
          refine AW.goto 52 dX8_said_47 (by decide) ?_
          exact AW.iret rfl dX8_said_52 ⟨by first | (exfalso; omega) | (unfold saidS; rw [if_pos (by omega), if_pos (by omega), if_pos (by omega)]; exact h6 _ (by omega)) | (unfold saidS; rw [if_pos (by omega), if_pos (by omega), if_neg (by omega)]; done), rfl⟩
    · refine AW.aload_n dX8_said_9 0 rfl rfl ?_
      refine AW.getR dX8_said_10 fl_X8_10 (show sh 0 = (0, 8, [some 1, some 5, some 31, some 35, none, some 61, some 65, some 71, some 76, some 79, some 83, some 85]) from rfl) rfl ?_
      refine AW.iload_n dX8_said_13 1 rfl rfl ?_
      refine AW.callV1ip (C_hasWord Γ M 1 st1 _ hk (by omega)) dX8_said_14 mc_X8_134 (show sh 1 = (0, 5, [some 2, none, some 3, some 4, none, none, none, none]) from rfl) (fun _ => rfl) ⟨Nat.le_of_ble_eq_true rfl, Nat.le_of_ble_eq_true rfl⟩ (Nat.le_of_ble_eq_true rfl) ?_
      refine AW.if_ne 22 dX8_said_17 (by decide) (bI_r _) (fun c17 => ?_) (fun c17 => ?_)
      · have d17 := bI1.mp c17
        refine AW.iload_n dX8_said_22 1 rfl rfl ?_
        refine AW.iconst dX8_said_23 ?_
        refine AW.icmp_ne 53 dX8_said_24 (by decide) (by omega) (by omega) (fun c24 => ?_) (fun c24 => ?_)
        · refine AW.iload_n dX8_said_53 2 rfl rfl ?_
          refine AW.aload_n dX8_said_54 0 rfl rfl ?_
          refine AW.getR dX8_said_55 fl_X8_10 (show sh 0 = (0, 8, [some 1, some 5, some 31, some 35, none, some 61, some 65, some 71, some 76, some 79, some 83, some 85]) from rfl) rfl ?_
          refine AW.getR dX8_said_58 fl_X8_144 (show sh 1 = (0, 5, [some 2, none, some 3, some 4, none, none, none, none]) from rfl) rfl ?_
          refine AW.iload_n dX8_said_61 1 rfl rfl ?_
          have q7 := h7 k.toNat (by omega)
          have q6 := o6 k.toNat (by omega)
          refine AW.ialdN (k.toNat) dX8_said_62 (show sh 4 = (1, 6, []) from rfl) (by omega) (by omega) (by decide) ?_
          refine AW.icmp_ge 78 dX8_said_63 (by decide) (by omega) (by omega) (fun c63 => ?_) (fun c63 => ?_)
          · refine AW.bipush (z := (-4)) dX8_said_78 (by decide) ?_
            exact AW.iret rfl dX8_said_80 ⟨by first | (exfalso; omega) | (unfold saidS; rw [if_pos (by omega), if_neg (by omega), if_pos (by omega), show (k * 6 + i).toNat = 6 * k.toNat + i.toNat by omega]; exact q7.2 _ (by omega)) | (unfold saidS; rw [if_pos (by omega), if_neg (by omega), if_neg (by omega)]; done), rfl⟩
          · refine AW.aload_n dX8_said_66 0 rfl rfl ?_
            refine AW.getR dX8_said_67 fl_X8_10 (show sh 0 = (0, 8, [some 1, some 5, some 31, some 35, none, some 61, some 65, some 71, some 76, some 79, some 83, some 85]) from rfl) rfl ?_
            refine AW.iload_n dX8_said_70 1 rfl rfl ?_
            refine AW.iload_n dX8_said_71 2 rfl rfl ?_
            refine AW.callV2ip (C_letterOf Γ M 1 st1 _ _ (by omega) (by omega)) dX8_said_72 mc_X8_147 (show sh 1 = (0, 5, [some 2, none, some 3, some 4, none, none, none, none]) from rfl) (fun _ => rfl) ⟨Nat.le_of_ble_eq_true rfl, Nat.le_of_ble_eq_true rfl⟩ (Nat.le_of_ble_eq_true rfl) ?_
            refine AW.goto 80 dX8_said_75 (by decide) ?_
            exact AW.iret rfl dX8_said_80 ⟨by first | (exfalso; omega) | (unfold saidS; rw [if_pos (by omega), if_neg (by omega), if_pos (by omega), show (k * 6 + i).toNat = 6 * k.toNat + i.toNat by omega]; exact q7.2 _ (by omega)) | (unfold saidS; rw [if_pos (by omega), if_neg (by omega), if_neg (by omega)]; done), rfl⟩
        · refine AW.iload_n dX8_said_27 2 rfl rfl ?_
          refine AW.aload_n dX8_said_28 0 rfl rfl ?_
          refine AW.getR dX8_said_29 fl_X8_10 (show sh 0 = (0, 8, [some 1, some 5, some 31, some 35, none, some 61, some 65, some 71, some 76, some 79, some 83, some 85]) from rfl) rfl ?_
          refine AW.getI dX8_said_32 fl_X8_137 (show sh 1 = (0, 5, [some 2, none, some 3, some 4, none, none, none, none]) from rfl) rfl ?_
          refine AW.icmp_ge 50 dX8_said_35 (by decide) (by omega) (by omega) (fun c35 => ?_) (fun c35 => ?_)
          · refine AW.bipush (z := (-4)) dX8_said_50 (by decide) ?_
            exact AW.iret rfl dX8_said_52 ⟨by first | (exfalso; omega) | (unfold saidS; rw [if_pos (by omega), if_pos (by omega), if_pos (by omega)]; exact h6 _ (by omega)) | (unfold saidS; rw [if_pos (by omega), if_pos (by omega), if_neg (by omega)]; done), rfl⟩
          · refine AW.aload_n dX8_said_38 0 rfl rfl ?_
            refine AW.getR dX8_said_39 fl_X8_10 (show sh 0 = (0, 8, [some 1, some 5, some 31, some 35, none, some 61, some 65, some 71, some 76, some 79, some 83, some 85]) from rfl) rfl ?_
            refine AW.getR dX8_said_42 fl_X8_141 (show sh 1 = (0, 5, [some 2, none, some 3, some 4, none, none, none, none]) from rfl) rfl ?_
            refine AW.iload_n dX8_said_45 2 rfl rfl ?_
            refine AW.ialdN (i.toNat) dX8_said_46 (show sh 2 = (1, 12, []) from rfl) (by omega) (by omega) (by decide) ?_
            refine AW.goto 52 dX8_said_47 (by decide) ?_
            exact AW.iret rfl dX8_said_52 ⟨by first | (exfalso; omega) | (unfold saidS; rw [if_pos (by omega), if_pos (by omega), if_pos (by omega)]; exact h6 _ (by omega)) | (unfold saidS; rw [if_pos (by omega), if_pos (by omega), if_neg (by omega)]; done), rfl⟩
      · have d17 := bI0.mp c17
        refine AW.iconst dX8_said_20 ?_
        exact AW.iret rfl dX8_said_21 ⟨by unfold saidS; rw [if_neg (by omega)], rfl⟩

set_option maxRecDepth 20000 in
theorem count9_loop (Γ : GC) (M : Mm) (hsg : SG M) (ho : OkR (M 96)) (c : Int) (Q : Int → Mm → Prop) (hx : ∀ x f : Int, f = cnt4 (M 96) (M 96 0).toNat → AW Γ uX9_count 40 [(3, vi x), (2, vi f), (0, rf Γ 94), (1, vi c)] [] M Q) : ∀ (n i : Nat) (x f : Int), x = i → (i : Int) ≤ M 96 0 → f = cnt4 (M 96) i → 12 - i < n → AW Γ uX9_count 4 [(3, vi x), (2, vi f), (0, rf Γ 94), (1, vi c)] [] M Q := by
  obtain ⟨o0, o1, o2, o3, o4, o5, o6⟩ := id ho
  intro n
  induction n with
  | zero => intro i x f g0 g1 g2 gm; omega
  | succ n ih =>
    intro i x f g0 g1 g2 gm
    have hcb := cnt4_b (M 96) i
    refine AW.iload_n dX9_count_4 0 rfl rfl ?_
    refine AW.aload_n dX9_count_5 2 rfl rfl ?_
    refine AW.getR dX9_count_6 fl_X9_13 (show sh 94 = (0, 9, [some 95, some 96, some 97, none, none, none, some 98, some 99, some 100, none, none, none, none, some 101, none, none, none, some 102, none, some 103, some 104, none, some 105, some 106, some 107, some 108]) from rfl) rfl ?_
    refine AW.iconst dX9_count_9 ?_
    refine AW.ialdN 0 dX9_count_10 (show sh 96 = (1, 59, []) from rfl) rfl (by decide) (by decide) ?_
    refine AW.icmp_ge 40 dX9_count_11 (by decide) (by omega) (by omega) (fun c11 => ?_) (fun c11 => ?_)
    · refine AW.sub [0, 1, 2, 3] rfl ?_
      exact hx x f (by rw [g2, show i = (M 96 0).toNat by omega])
    · refine AW.iload_n dX9_count_14 1 rfl rfl ?_
      refine AW.aload_n dX9_count_15 2 rfl rfl ?_
      refine AW.aload_n dX9_count_16 2 rfl rfl ?_
      refine AW.iload_n dX9_count_17 0 rfl rfl ?_
      refine AW.callV1ip (C9_at Γ M _ i (by omega) (by omega)) dX9_count_18 mc_X9_91 (show sh 94 = (0, 9, [some 95, some 96, some 97, none, none, none, some 98, some 99, some 100, none, none, none, none, some 101, none, none, none, some 102, none, some 103, some 104, none, some 105, some 106, some 107, some 108]) from rfl) (fun _ => rfl) ⟨Nat.le_of_ble_eq_true rfl, Nat.le_of_ble_eq_true rfl⟩ (Nat.le_of_ble_eq_true rfl) ?_
      refine AW.callV1ip (C9_turnedOf Γ M hsg _ (by have := o5 i (by omega); omega)) dX9_count_21 mc_X9_80 (show sh 94 = (0, 9, [some 95, some 96, some 97, none, none, none, some 98, some 99, some 100, none, none, none, none, some 101, none, none, none, some 102, none, some 103, some 104, none, some 105, some 106, some 107, some 108]) from rfl) (fun _ => rfl) ⟨Nat.le_of_ble_eq_true rfl, Nat.le_of_ble_eq_true rfl⟩ (Nat.le_of_ble_eq_true rfl) ?_
      refine AW.if_lt 31 dX9_count_24 (by decide) (by have := @trn_b (M 96 (5 + i)); omega) (fun c24 => ?_) (fun c24 => ?_)
      · refine AW.iconst dX9_count_31 ?_
        refine AW.iadd dX9_count_32 ?_
        refine AW.top (fun f2 ef2 => ?_)
        refine AW.istore_n [(2, vi f2), (3, vi x), (0, rf Γ 94), (1, vi c)] dX9_count_33 rfl (by decide) rfl ?_
        obtain ⟨x34, ex34⟩ : ∃ z : Int, x + 1 = z := ⟨_, rfl⟩
        refine AW.iinc [(3, vi x34), (2, vi f2), (0, rf Γ 94), (1, vi c)] dX9_count_34 1 rfl (by decide) x34 ex34 rfl ?_
        refine AW.goto 4 dX9_count_37 (by decide) ?_
        refine AW.sub [0, 1, 2, 3] rfl ?_
        exact ih (i + 1) x34 f2 (by omega) (by omega) (by simp only [cnt4]; first | (rw [if_pos (by omega)]; omega) | (rw [if_neg (by omega)]; omega)) (by omega)
      · refine AW.iconst dX9_count_27 ?_
        refine AW.goto 32 dX9_count_28 (by decide) ?_
        refine AW.iadd dX9_count_32 ?_
        refine AW.top (fun f2 ef2 => ?_)
        refine AW.istore_n [(2, vi f2), (3, vi x), (0, rf Γ 94), (1, vi c)] dX9_count_33 rfl (by decide) rfl ?_
        obtain ⟨x34, ex34⟩ : ∃ z : Int, x + 1 = z := ⟨_, rfl⟩
        refine AW.iinc [(3, vi x34), (2, vi f2), (0, rf Γ 94), (1, vi c)] dX9_count_34 1 rfl (by decide) x34 ex34 rfl ?_
        refine AW.goto 4 dX9_count_37 (by decide) ?_
        refine AW.sub [0, 1, 2, 3] rfl ?_
        exact ih (i + 1) x34 f2 (by omega) (by omega) (by simp only [cnt4]; first | (rw [if_pos (by omega)]; omega) | (rw [if_neg (by omega)]; omega)) (by omega)

set_option maxRecDepth 20000 in
theorem C9_count (Γ : GC) (M : Mm) (hsg : SG M) (ho : OkR (M 96)) (c : Int) (hc0 : R32 c) : Ct Γ uX9_count [rf Γ 94, vi c] M (Pu (countS (M 96) (M 94 18) c) M) := by
  refine Ct.of (by decide) (Nat.le_of_ble_eq_true rfl) ?_
  show AW Γ uX9_count 0 [(0, rf Γ 94), (1, vi c)] [] M _
  obtain ⟨o0, o1, o2, o3, o4, o5, o6⟩ := id ho
  refine AW.iconst dX9_count_0 ?_
  refine AW.top (fun x1 ex1 => ?_)
  refine AW.istore_n [(2, vi x1), (0, rf Γ 94), (1, vi c)] dX9_count_1 rfl (by decide) rfl ?_
  refine AW.iconst dX9_count_2 ?_
  refine AW.top (fun x3 ex3 => ?_)
  refine AW.istore_n [(3, vi x3), (2, vi x1), (0, rf Γ 94), (1, vi c)] dX9_count_3 rfl (by decide) rfl ?_
  refine AW.sub [0, 1, 2, 3] rfl ?_
  refine count9_loop Γ M hsg ho c _ (fun x f hf => ?_) 14 0 x3 x1 (by omega) (by omega) (by rw [ex1]; rfl) (by omega)
  refine AW.iload_n dX9_count_40 3 rfl rfl ?_
  rcases (show c = 0 ∨ c = 1 ∨ c = 2 ∨ c = 3 ∨ c = 4 ∨ c = 5 ∨ (c < 0 ∨ 5 < c) by omega) with hc | hc | hc | hc | hc | hc | hc
  · refine AW.tabIn 80 dX9_count_41 hc0 (by omega) (by omega) (by rw [hc]; rfl) (by decide) ?_
    refine AW.aload_n dX9_count_80 2 rfl rfl ?_
    refine AW.getR dX9_count_81 fl_X9_13 (show sh 94 = (0, 9, [some 95, some 96, some 97, none, none, none, some 98, some 99, some 100, none, none, none, none, some 101, none, none, none, some 102, none, some 103, some 104, none, some 105, some 106, some 107, some 108]) from rfl) rfl ?_
    refine AW.iconst dX9_count_84 ?_
    refine AW.ialdN 0 dX9_count_85 (show sh 96 = (1, 59, []) from rfl) rfl (by decide) (by decide) ?_
    exact AW.iret rfl dX9_count_86 ⟨by unfold countS; first | rw [if_pos (by omega)] | rw [if_neg (by omega), if_pos (by omega)] | rw [if_neg (by omega), if_neg (by omega), if_pos (by omega)] | rw [if_neg (by omega), if_neg (by omega), if_neg (by omega), if_pos (by omega)] | (rw [if_neg (by omega), if_neg (by omega), if_neg (by omega), if_neg (by omega), if_pos (by omega)]; exact hf) | rw [if_neg (by omega), if_neg (by omega), if_neg (by omega), if_neg (by omega), if_neg (by omega), if_pos (by omega)] | rw [if_neg (by omega), if_neg (by omega), if_neg (by omega), if_neg (by omega), if_neg (by omega), if_neg (by omega)], rfl⟩
  · refine AW.tabIn 87 dX9_count_41 hc0 (by omega) (by omega) (by rw [hc]; rfl) (by decide) ?_
    refine AW.aload_n dX9_count_87 2 rfl rfl ?_
    refine AW.getR dX9_count_88 fl_X9_13 (show sh 94 = (0, 9, [some 95, some 96, some 97, none, none, none, some 98, some 99, some 100, none, none, none, none, some 101, none, none, none, some 102, none, some 103, some 104, none, some 105, some 106, some 107, some 108]) from rfl) rfl ?_
    refine AW.iconst dX9_count_91 ?_
    refine AW.ialdN 1 dX9_count_92 (show sh 96 = (1, 59, []) from rfl) rfl (by decide) (by decide) ?_
    exact AW.iret rfl dX9_count_93 ⟨by unfold countS; first | rw [if_pos (by omega)] | rw [if_neg (by omega), if_pos (by omega)] | rw [if_neg (by omega), if_neg (by omega), if_pos (by omega)] | rw [if_neg (by omega), if_neg (by omega), if_neg (by omega), if_pos (by omega)] | (rw [if_neg (by omega), if_neg (by omega), if_neg (by omega), if_neg (by omega), if_pos (by omega)]; exact hf) | rw [if_neg (by omega), if_neg (by omega), if_neg (by omega), if_neg (by omega), if_neg (by omega), if_pos (by omega)] | rw [if_neg (by omega), if_neg (by omega), if_neg (by omega), if_neg (by omega), if_neg (by omega), if_neg (by omega)], rfl⟩
  · refine AW.tabIn 94 dX9_count_41 hc0 (by omega) (by omega) (by rw [hc]; rfl) (by decide) ?_
    refine AW.aload_n dX9_count_94 2 rfl rfl ?_
    refine AW.getR dX9_count_95 fl_X9_13 (show sh 94 = (0, 9, [some 95, some 96, some 97, none, none, none, some 98, some 99, some 100, none, none, none, none, some 101, none, none, none, some 102, none, some 103, some 104, none, some 105, some 106, some 107, some 108]) from rfl) rfl ?_
    refine AW.iconst dX9_count_98 ?_
    refine AW.ialdN 2 dX9_count_99 (show sh 96 = (1, 59, []) from rfl) rfl (by decide) (by decide) ?_
    exact AW.iret rfl dX9_count_100 ⟨by unfold countS; first | rw [if_pos (by omega)] | rw [if_neg (by omega), if_pos (by omega)] | rw [if_neg (by omega), if_neg (by omega), if_pos (by omega)] | rw [if_neg (by omega), if_neg (by omega), if_neg (by omega), if_pos (by omega)] | (rw [if_neg (by omega), if_neg (by omega), if_neg (by omega), if_neg (by omega), if_pos (by omega)]; exact hf) | rw [if_neg (by omega), if_neg (by omega), if_neg (by omega), if_neg (by omega), if_neg (by omega), if_pos (by omega)] | rw [if_neg (by omega), if_neg (by omega), if_neg (by omega), if_neg (by omega), if_neg (by omega), if_neg (by omega)], rfl⟩
  · refine AW.tabIn 101 dX9_count_41 hc0 (by omega) (by omega) (by rw [hc]; rfl) (by decide) ?_
    refine AW.aload_n dX9_count_101 2 rfl rfl ?_
    refine AW.getR dX9_count_102 fl_X9_13 (show sh 94 = (0, 9, [some 95, some 96, some 97, none, none, none, some 98, some 99, some 100, none, none, none, none, some 101, none, none, none, some 102, none, some 103, some 104, none, some 105, some 106, some 107, some 108]) from rfl) rfl ?_
    refine AW.iconst dX9_count_105 ?_
    refine AW.ialdN 3 dX9_count_106 (show sh 96 = (1, 59, []) from rfl) rfl (by decide) (by decide) ?_
    exact AW.iret rfl dX9_count_107 ⟨by unfold countS; first | rw [if_pos (by omega)] | rw [if_neg (by omega), if_pos (by omega)] | rw [if_neg (by omega), if_neg (by omega), if_pos (by omega)] | rw [if_neg (by omega), if_neg (by omega), if_neg (by omega), if_pos (by omega)] | (rw [if_neg (by omega), if_neg (by omega), if_neg (by omega), if_neg (by omega), if_pos (by omega)]; exact hf) | rw [if_neg (by omega), if_neg (by omega), if_neg (by omega), if_neg (by omega), if_neg (by omega), if_pos (by omega)] | rw [if_neg (by omega), if_neg (by omega), if_neg (by omega), if_neg (by omega), if_neg (by omega), if_neg (by omega)], rfl⟩
  · refine AW.tabIn 108 dX9_count_41 hc0 (by omega) (by omega) (by rw [hc]; rfl) (by decide) ?_
    refine AW.iload_n dX9_count_108 1 rfl rfl ?_
    exact AW.iret rfl dX9_count_109 ⟨by unfold countS; first | rw [if_pos (by omega)] | rw [if_neg (by omega), if_pos (by omega)] | rw [if_neg (by omega), if_neg (by omega), if_pos (by omega)] | rw [if_neg (by omega), if_neg (by omega), if_neg (by omega), if_pos (by omega)] | (rw [if_neg (by omega), if_neg (by omega), if_neg (by omega), if_neg (by omega), if_pos (by omega)]; exact hf) | rw [if_neg (by omega), if_neg (by omega), if_neg (by omega), if_neg (by omega), if_neg (by omega), if_pos (by omega)] | rw [if_neg (by omega), if_neg (by omega), if_neg (by omega), if_neg (by omega), if_neg (by omega), if_neg (by omega)], rfl⟩
  · refine AW.tabIn 110 dX9_count_41 hc0 (by omega) (by omega) (by rw [hc]; rfl) (by decide) ?_
    refine AW.aload_n dX9_count_110 2 rfl rfl ?_
    refine AW.getI dX9_count_111 fl_X9_136 (show sh 94 = (0, 9, [some 95, some 96, some 97, none, none, none, some 98, some 99, some 100, none, none, none, none, some 101, none, none, none, some 102, none, some 103, some 104, none, some 105, some 106, some 107, some 108]) from rfl) rfl ?_
    exact AW.iret rfl dX9_count_114 ⟨by unfold countS; first | rw [if_pos (by omega)] | rw [if_neg (by omega), if_pos (by omega)] | rw [if_neg (by omega), if_neg (by omega), if_pos (by omega)] | rw [if_neg (by omega), if_neg (by omega), if_neg (by omega), if_pos (by omega)] | (rw [if_neg (by omega), if_neg (by omega), if_neg (by omega), if_neg (by omega), if_pos (by omega)]; exact hf) | rw [if_neg (by omega), if_neg (by omega), if_neg (by omega), if_neg (by omega), if_neg (by omega), if_pos (by omega)] | rw [if_neg (by omega), if_neg (by omega), if_neg (by omega), if_neg (by omega), if_neg (by omega), if_neg (by omega)], rfl⟩
  · refine AW.tabOut 115 dX9_count_41 hc0 hc (by decide) ?_
    refine AW.iconst dX9_count_115 ?_
    exact AW.iret rfl dX9_count_116 ⟨by unfold countS; first | rw [if_pos (by omega)] | rw [if_neg (by omega), if_pos (by omega)] | rw [if_neg (by omega), if_neg (by omega), if_pos (by omega)] | rw [if_neg (by omega), if_neg (by omega), if_neg (by omega), if_pos (by omega)] | (rw [if_neg (by omega), if_neg (by omega), if_neg (by omega), if_neg (by omega), if_pos (by omega)]; exact hf) | rw [if_neg (by omega), if_neg (by omega), if_neg (by omega), if_neg (by omega), if_neg (by omega), if_pos (by omega)] | rw [if_neg (by omega), if_neg (by omega), if_neg (by omega), if_neg (by omega), if_neg (by omega), if_neg (by omega)], rfl⟩

set_option maxRecDepth 20000 in
theorem count_loop (Γ : GC) (M : Mm) (k : Nat) (hk : St k) (r : Nat → Int) (ho : OkR r) (hr : stRel M k r) : ∀ (n i : Nat) (x f : Int), x = i → (i : Int) ≤ r 0 → f = cnt4 r i → 12 - i < n → AW Γ uX5_lettersFromBehind 4 [(2, vi x), (1, vi f), (0, rf Γ k)] [] M (Pu (cnt4 r (r 0).toNat) M) := by
  obtain ⟨h1, h2, h3, h4, h5, h6, h7⟩ := id hr
  obtain ⟨o0, o1, o2, o3, o4, o5, o6⟩ := id ho
  intro n
  induction n with
  | zero => intro i x f g0 g1 g2 gm; omega
  | succ n ih =>
    intro i x f g0 g1 g2 gm
    have hcb := cnt4_b r i
    refine AW.iload_n dX5_lettersFromBehind_4 0 rfl rfl ?_
    refine AW.aload_n dX5_lettersFromBehind_5 2 rfl rfl ?_
    refine AW.getI dX5_lettersFromBehind_6 fl_X5_15 hk.1 rfl ?_
    refine AW.icmp_ge 35 dX5_lettersFromBehind_9 (by decide) (by omega) (by omega) (fun c9 => ?_) (fun c9 => ?_)
    · refine AW.iload_n dX5_lettersFromBehind_35 1 rfl rfl ?_
      exact AW.iret rfl dX5_lettersFromBehind_36 ⟨by rw [g2, show i = (r 0).toNat by omega], rfl⟩
    · refine AW.aload_n dX5_lettersFromBehind_12 2 rfl rfl ?_
      refine AW.getR dX5_lettersFromBehind_13 fl_X5_9 hk.1 rfl ?_
      refine AW.iload_n dX5_lettersFromBehind_16 0 rfl rfl ?_
      refine AW.ialdN i dX5_lettersFromBehind_17 hk.2.1 (by omega) (by omega) (by decide) ?_
      rw [h6 i (by omega)]
      refine AW.callN1ip (C_turnedLetter Γ M _ (by have := o5 i (by omega); omega)) dX5_lettersFromBehind_18 mc_X5_71 (fun _ => rfl) ⟨Nat.le_of_ble_eq_true rfl, Nat.le_of_ble_eq_true rfl⟩ (Nat.le_of_ble_eq_true rfl) ?_
      refine AW.bipush (z := (-4)) dX5_lettersFromBehind_21 (by decide) ?_
      refine AW.icmp_eq 29 dX5_lettersFromBehind_23 (by decide) (by have := @trn_b (r (5 + i)); omega) (by omega) (fun c23 => ?_) (fun c23 => ?_)
      · obtain ⟨x29, ex29⟩ : ∃ z : Int, x + 1 = z := ⟨_, rfl⟩
        refine AW.iinc [(2, vi x29), (1, vi f), (0, rf Γ k)] dX5_lettersFromBehind_29 0 rfl (by decide) x29 ex29 rfl ?_
        refine AW.goto 4 dX5_lettersFromBehind_32 (by decide) ?_
        refine AW.sub [0, 1, 2] rfl ?_
        exact ih (i + 1) x29 f (by omega) (by omega) (by have := @trn_neg (r (5 + i)); simp only [cnt4]; first | (rw [if_pos (by omega)]; omega) | (rw [if_neg (by omega)]; omega)) (by omega)
      · obtain ⟨x26, ex26⟩ : ∃ z : Int, f + 1 = z := ⟨_, rfl⟩
        refine AW.iinc [(1, vi x26), (2, vi x), (0, rf Γ k)] dX5_lettersFromBehind_26 1 rfl (by decide) x26 ex26 rfl ?_
        obtain ⟨x29, ex29⟩ : ∃ z : Int, x + 1 = z := ⟨_, rfl⟩
        refine AW.iinc [(2, vi x29), (1, vi x26), (0, rf Γ k)] dX5_lettersFromBehind_29 1 rfl (by decide) x29 ex29 rfl ?_
        refine AW.goto 4 dX5_lettersFromBehind_32 (by decide) ?_
        refine AW.sub [0, 1, 2] rfl ?_
        exact ih (i + 1) x29 x26 (by omega) (by omega) (by have := @trn_neg (r (5 + i)); simp only [cnt4]; first | (rw [if_pos (by omega)]; omega) | (rw [if_neg (by omega)]; omega)) (by omega)

set_option maxRecDepth 20000 in
theorem C_fromBehind4 (Γ : GC) (M : Mm) (k : Nat) (hk : St k) (r : Nat → Int) (ho : OkR r) (hr : stRel M k r) : Ct Γ uX5_lettersFromBehind [rf Γ k] M (Pu (cnt4 r (r 0).toNat) M) := by
  refine Ct.of (by decide) (Nat.le_of_ble_eq_true rfl) ?_
  show AW Γ uX5_lettersFromBehind 0 [(0, rf Γ k)] [] M _
  refine AW.iconst dX5_lettersFromBehind_0 ?_
  refine AW.top (fun x1 ex1 => ?_)
  refine AW.istore_n [(1, vi x1), (0, rf Γ k)] dX5_lettersFromBehind_1 rfl (by decide) rfl ?_
  refine AW.iconst dX5_lettersFromBehind_2 ?_
  refine AW.top (fun x3 ex3 => ?_)
  refine AW.istore_n [(2, vi x3), (1, vi x1), (0, rf Γ k)] dX5_lettersFromBehind_3 rfl (by decide) rfl ?_
  refine AW.sub [0, 1, 2] rfl ?_
  exact count_loop Γ M k hk r ho hr 14 0 x3 x1 (by omega) (by have := ho.1; omega) (by rw [ex1]; rfl) (by omega)

set_option maxRecDepth 20000 in
theorem C_count (Γ : GC) (M : Mm) (r A : Nat → Int) (u : Int) (ho : OkR r) (hr : stRel M 1 r) (hp : pastRel M 5 u A) (c : Int) (hc0 : R32 c) : Ct Γ uX8_count [rf Γ 0, vi c] M (Pu (countS r u c) M) := by
  refine Ct.of (by decide) (Nat.le_of_ble_eq_true rfl) ?_
  show AW Γ uX8_count 0 [(0, rf Γ 0), (1, vi c)] [] M _
  obtain ⟨h1, h2, h3, h4, h5, h6, h7⟩ := st1u hr
  obtain ⟨o0, o1, o2, o3, o4, o5, o6⟩ := id ho
  refine AW.iload_n dX8_count_0 1 rfl rfl ?_
  rcases (show c = 0 ∨ c = 1 ∨ c = 2 ∨ c = 3 ∨ c = 4 ∨ c = 5 ∨ (c < 0 ∨ 5 < c) by omega) with hc | hc | hc | hc | hc | hc | hc
  · refine AW.tabIn 40 dX8_count_1 hc0 (by omega) (by omega) (by rw [hc]; rfl) (by decide) ?_
    refine AW.aload_n dX8_count_40 0 rfl rfl ?_
    refine AW.getR dX8_count_41 fl_X8_10 (show sh 0 = (0, 8, [some 1, some 5, some 31, some 35, none, some 61, some 65, some 71, some 76, some 79, some 83, some 85]) from rfl) rfl ?_
    refine AW.getI dX8_count_44 fl_X8_137 (show sh 1 = (0, 5, [some 2, none, some 3, some 4, none, none, none, none]) from rfl) rfl ?_
    exact AW.iret rfl dX8_count_47 ⟨by unfold countS; first | (rw [if_pos (by omega)]; exact h1) | (rw [if_neg (by omega), if_pos (by omega)]; exact h2) | (rw [if_neg (by omega), if_neg (by omega), if_pos (by omega)]; exact h3) | (rw [if_neg (by omega), if_neg (by omega), if_neg (by omega), if_pos (by omega)]; exact h4) | (rw [if_neg (by omega), if_neg (by omega), if_neg (by omega), if_neg (by omega), if_pos (by omega)]) | (rw [if_neg (by omega), if_neg (by omega), if_neg (by omega), if_neg (by omega), if_neg (by omega), if_pos (by omega)]; exact hp.1) | rw [if_neg (by omega), if_neg (by omega), if_neg (by omega), if_neg (by omega), if_neg (by omega), if_neg (by omega)], rfl⟩
  · refine AW.tabIn 48 dX8_count_1 hc0 (by omega) (by omega) (by rw [hc]; rfl) (by decide) ?_
    refine AW.aload_n dX8_count_48 0 rfl rfl ?_
    refine AW.getR dX8_count_49 fl_X8_10 (show sh 0 = (0, 8, [some 1, some 5, some 31, some 35, none, some 61, some 65, some 71, some 76, some 79, some 83, some 85]) from rfl) rfl ?_
    refine AW.getI dX8_count_52 fl_X8_150 (show sh 1 = (0, 5, [some 2, none, some 3, some 4, none, none, none, none]) from rfl) rfl ?_
    exact AW.iret rfl dX8_count_55 ⟨by unfold countS; first | (rw [if_pos (by omega)]; exact h1) | (rw [if_neg (by omega), if_pos (by omega)]; exact h2) | (rw [if_neg (by omega), if_neg (by omega), if_pos (by omega)]; exact h3) | (rw [if_neg (by omega), if_neg (by omega), if_neg (by omega), if_pos (by omega)]; exact h4) | (rw [if_neg (by omega), if_neg (by omega), if_neg (by omega), if_neg (by omega), if_pos (by omega)]) | (rw [if_neg (by omega), if_neg (by omega), if_neg (by omega), if_neg (by omega), if_neg (by omega), if_pos (by omega)]; exact hp.1) | rw [if_neg (by omega), if_neg (by omega), if_neg (by omega), if_neg (by omega), if_neg (by omega), if_neg (by omega)], rfl⟩
  · refine AW.tabIn 56 dX8_count_1 hc0 (by omega) (by omega) (by rw [hc]; rfl) (by decide) ?_
    refine AW.aload_n dX8_count_56 0 rfl rfl ?_
    refine AW.getR dX8_count_57 fl_X8_10 (show sh 0 = (0, 8, [some 1, some 5, some 31, some 35, none, some 61, some 65, some 71, some 76, some 79, some 83, some 85]) from rfl) rfl ?_
    refine AW.getI dX8_count_60 fl_X8_153 (show sh 1 = (0, 5, [some 2, none, some 3, some 4, none, none, none, none]) from rfl) rfl ?_
    exact AW.iret rfl dX8_count_63 ⟨by unfold countS; first | (rw [if_pos (by omega)]; exact h1) | (rw [if_neg (by omega), if_pos (by omega)]; exact h2) | (rw [if_neg (by omega), if_neg (by omega), if_pos (by omega)]; exact h3) | (rw [if_neg (by omega), if_neg (by omega), if_neg (by omega), if_pos (by omega)]; exact h4) | (rw [if_neg (by omega), if_neg (by omega), if_neg (by omega), if_neg (by omega), if_pos (by omega)]) | (rw [if_neg (by omega), if_neg (by omega), if_neg (by omega), if_neg (by omega), if_neg (by omega), if_pos (by omega)]; exact hp.1) | rw [if_neg (by omega), if_neg (by omega), if_neg (by omega), if_neg (by omega), if_neg (by omega), if_neg (by omega)], rfl⟩
  · refine AW.tabIn 64 dX8_count_1 hc0 (by omega) (by omega) (by rw [hc]; rfl) (by decide) ?_
    refine AW.aload_n dX8_count_64 0 rfl rfl ?_
    refine AW.getR dX8_count_65 fl_X8_10 (show sh 0 = (0, 8, [some 1, some 5, some 31, some 35, none, some 61, some 65, some 71, some 76, some 79, some 83, some 85]) from rfl) rfl ?_
    refine AW.getI dX8_count_68 fl_X8_156 (show sh 1 = (0, 5, [some 2, none, some 3, some 4, none, none, none, none]) from rfl) rfl ?_
    exact AW.iret rfl dX8_count_71 ⟨by unfold countS; first | (rw [if_pos (by omega)]; exact h1) | (rw [if_neg (by omega), if_pos (by omega)]; exact h2) | (rw [if_neg (by omega), if_neg (by omega), if_pos (by omega)]; exact h3) | (rw [if_neg (by omega), if_neg (by omega), if_neg (by omega), if_pos (by omega)]; exact h4) | (rw [if_neg (by omega), if_neg (by omega), if_neg (by omega), if_neg (by omega), if_pos (by omega)]) | (rw [if_neg (by omega), if_neg (by omega), if_neg (by omega), if_neg (by omega), if_neg (by omega), if_pos (by omega)]; exact hp.1) | rw [if_neg (by omega), if_neg (by omega), if_neg (by omega), if_neg (by omega), if_neg (by omega), if_neg (by omega)], rfl⟩
  · refine AW.tabIn 72 dX8_count_1 hc0 (by omega) (by omega) (by rw [hc]; rfl) (by decide) ?_
    refine AW.aload_n dX8_count_72 0 rfl rfl ?_
    refine AW.getR dX8_count_73 fl_X8_10 (show sh 0 = (0, 8, [some 1, some 5, some 31, some 35, none, some 61, some 65, some 71, some 76, some 79, some 83, some 85]) from rfl) rfl ?_
    refine AW.callV0ip (C_fromBehind4 Γ M 1 st1 r ho hr) dX8_count_76 mc_X8_159 (show sh 1 = (0, 5, [some 2, none, some 3, some 4, none, none, none, none]) from rfl) (fun _ => rfl) ⟨Nat.le_of_ble_eq_true rfl, Nat.le_of_ble_eq_true rfl⟩ (Nat.le_of_ble_eq_true rfl) ?_
    exact AW.iret rfl dX8_count_79 ⟨by unfold countS; first | (rw [if_pos (by omega)]; exact h1) | (rw [if_neg (by omega), if_pos (by omega)]; exact h2) | (rw [if_neg (by omega), if_neg (by omega), if_pos (by omega)]; exact h3) | (rw [if_neg (by omega), if_neg (by omega), if_neg (by omega), if_pos (by omega)]; exact h4) | (rw [if_neg (by omega), if_neg (by omega), if_neg (by omega), if_neg (by omega), if_pos (by omega)]) | (rw [if_neg (by omega), if_neg (by omega), if_neg (by omega), if_neg (by omega), if_neg (by omega), if_pos (by omega)]; exact hp.1) | rw [if_neg (by omega), if_neg (by omega), if_neg (by omega), if_neg (by omega), if_neg (by omega), if_neg (by omega)], rfl⟩
  · refine AW.tabIn 80 dX8_count_1 hc0 (by omega) (by omega) (by rw [hc]; rfl) (by decide) ?_
    refine AW.aload_n dX8_count_80 0 rfl rfl ?_
    refine AW.getR dX8_count_81 fl_X8_19 (show sh 0 = (0, 8, [some 1, some 5, some 31, some 35, none, some 61, some 65, some 71, some 76, some 79, some 83, some 85]) from rfl) rfl ?_
    refine AW.getI dX8_count_84 fl_X8_162 (show sh 5 = (0, 2, [some 6, none, none]) from rfl) rfl ?_
    exact AW.iret rfl dX8_count_87 ⟨by unfold countS; first | (rw [if_pos (by omega)]; exact h1) | (rw [if_neg (by omega), if_pos (by omega)]; exact h2) | (rw [if_neg (by omega), if_neg (by omega), if_pos (by omega)]; exact h3) | (rw [if_neg (by omega), if_neg (by omega), if_neg (by omega), if_pos (by omega)]; exact h4) | (rw [if_neg (by omega), if_neg (by omega), if_neg (by omega), if_neg (by omega), if_pos (by omega)]) | (rw [if_neg (by omega), if_neg (by omega), if_neg (by omega), if_neg (by omega), if_neg (by omega), if_pos (by omega)]; exact hp.1) | rw [if_neg (by omega), if_neg (by omega), if_neg (by omega), if_neg (by omega), if_neg (by omega), if_neg (by omega)], rfl⟩
  · refine AW.tabOut 88 dX8_count_1 hc0 hc (by decide) ?_
    refine AW.iconst dX8_count_88 ?_
    exact AW.iret rfl dX8_count_89 ⟨by unfold countS; first | (rw [if_pos (by omega)]; exact h1) | (rw [if_neg (by omega), if_pos (by omega)]; exact h2) | (rw [if_neg (by omega), if_neg (by omega), if_pos (by omega)]; exact h3) | (rw [if_neg (by omega), if_neg (by omega), if_neg (by omega), if_pos (by omega)]; exact h4) | (rw [if_neg (by omega), if_neg (by omega), if_neg (by omega), if_neg (by omega), if_pos (by omega)]) | (rw [if_neg (by omega), if_neg (by omega), if_neg (by omega), if_neg (by omega), if_neg (by omega), if_pos (by omega)]; exact hp.1) | rw [if_neg (by omega), if_neg (by omega), if_neg (by omega), if_neg (by omega), if_neg (by omega), if_neg (by omega)], rfl⟩

def typeZ (n c : Int) : Int := if 32 ≤ c ∧ c ≤ 126 then (if n = 90 then -3 else n + 1) else -1
def typeOk (n c : Int) : Prop := (32 ≤ c ∧ c ≤ 126) ∧ ¬ n = 90

set_option maxRecDepth 20000 in
theorem C9_type (Γ : GC) (M : Mm) (ht : 0 ≤ M 94 14 ∧ M 94 14 ≤ 90) (c : Int) (hc : R32 c) : Ct Γ uX9_type [rf Γ 94, vi c] M (fun z M' => z = typeZ (M 94 14) c ∧ ((typeOk (M 94 14) c ∧ M' = up2 (up2 M 101 (M 94 14).toNat c) 94 14 (M 94 14 + 1)) ∨ (¬ typeOk (M 94 14) c ∧ M' = M))) := by
  refine Ct.of (by decide) (Nat.le_of_ble_eq_true rfl) ?_
  show AW Γ uX9_type 0 [(0, rf Γ 94), (1, vi c)] [] M _
  refine AW.iload_n dX9_type_0 1 rfl rfl ?_
  refine AW.i2l dX9_type_1 (by omega) ?_
  refine AW.ldc2 (z := 32) dX9_type_2 kl_X9_205 (by decide +kernel) ?_
  refine AW.ldc2 (z := 126) dX9_type_5 kl_X9_207 (by decide +kernel) ?_
  refine AW.callS3ip (C9_in Γ M _ _ _ (by omega) (by decide) (by decide)) dX9_type_8 mc_X9_76 (fun _ => rfl) ⟨Nat.le_of_ble_eq_true rfl, Nat.le_of_ble_eq_true rfl⟩ (Nat.le_of_ble_eq_true rfl) ?_
  refine AW.if_ne 16 dX9_type_11 (by decide) (bI_r _) (fun c11 => ?_) (fun c11 => ?_)
  · have d11 := bI1.mp c11
    refine AW.aload_n dX9_type_16 0 rfl rfl ?_
    refine AW.getI dX9_type_17 fl_X9_209 (show sh 94 = (0, 9, [some 95, some 96, some 97, none, none, none, some 98, some 99, some 100, none, none, none, none, some 101, none, none, none, some 102, none, some 103, some 104, none, some 105, some 106, some 107, some 108]) from rfl) rfl ?_
    refine AW.bipush (z := (90)) dX9_type_20 (by decide) ?_
    refine AW.icmp_ne 28 dX9_type_22 (by decide) (by omega) (by omega) (fun c22 => ?_) (fun c22 => ?_)
    · refine AW.aload_n dX9_type_28 0 rfl rfl ?_
      refine AW.getR dX9_type_29 fl_X9_28 (show sh 94 = (0, 9, [some 95, some 96, some 97, none, none, none, some 98, some 99, some 100, none, none, none, none, some 101, none, none, none, some 102, none, some 103, some 104, none, some 105, some 106, some 107, some 108]) from rfl) rfl ?_
      refine AW.aload_n dX9_type_32 0 rfl rfl ?_
      refine AW.getI dX9_type_33 fl_X9_209 (show sh 94 = (0, 9, [some 95, some 96, some 97, none, none, none, some 98, some 99, some 100, none, none, none, none, some 101, none, none, none, some 102, none, some 103, some 104, none, some 105, some 106, some 107, some 108]) from rfl) rfl ?_
      refine AW.iload_n dX9_type_36 1 rfl rfl ?_
      refine AW.iastN ((M 94 14).toNat) dX9_type_37 (show sh 101 = (1, 90, []) from rfl) (by omega) (by omega) (by decide) ?_
      refine AW.aload_n dX9_type_38 0 rfl rfl ?_
      refine AW.dup dX9_type_39 rfl ?_
      refine AW.getI dX9_type_40 fl_X9_209 (show sh 94 = (0, 9, [some 95, some 96, some 97, none, none, none, some 98, some 99, some 100, none, none, none, none, some 101, none, none, none, some 102, none, some 103, some 104, none, some 105, some 106, some 107, some 108]) from rfl) rfl ?_
      rw [up2_c (by decide)]
      refine AW.iconst dX9_type_43 ?_
      refine AW.iadd dX9_type_44 ?_
      refine AW.putI dX9_type_45 fp_X9_209 (show sh 94 = (0, 9, [some 95, some 96, some 97, none, none, none, some 98, some 99, some 100, none, none, none, none, some 101, none, none, none, some 102, none, some 103, some 104, none, some 105, some 106, some 107, some 108]) from rfl) rfl ?_
      refine AW.aload_n dX9_type_48 0 rfl rfl ?_
      refine AW.getI dX9_type_49 fl_X9_209 (show sh 94 = (0, 9, [some 95, some 96, some 97, none, none, none, some 98, some 99, some 100, none, none, none, none, some 101, none, none, none, some 102, none, some 103, some 104, none, some 105, some 106, some 107, some 108]) from rfl) rfl ?_
      rw [up2_s]
      exact AW.iret rfl dX9_type_52 ⟨by unfold typeZ; rw [if_pos (by omega), if_neg (by omega)], Or.inl ⟨⟨by omega, by omega⟩, rfl⟩⟩
    · refine AW.bipush (z := (-3)) dX9_type_25 (by decide) ?_
      exact AW.iret rfl dX9_type_27 ⟨by unfold typeZ; rw [if_pos (by omega), if_pos (by omega)], Or.inr ⟨by unfold typeOk; omega, rfl⟩⟩
  · have d11 := bI0.mp c11
    refine AW.iconst dX9_type_14 ?_
    exact AW.iret rfl dX9_type_15 ⟨by unfold typeZ; rw [if_neg (by omega)], Or.inr ⟨by unfold typeOk; omega, rfl⟩⟩

set_option maxRecDepth 20000 in
theorem C_tadd (Γ : GC) (M : Mm) (ht : 0 ≤ M 83 1 ∧ M 83 1 ≤ 90) (c : Int) (hc : R32 c) : Ct Γ uX6_add [rf Γ 83, vi c] M (fun z M' => z = (if M 83 1 = 90 then -3 else M 83 1 + 1) ∧ M' = if M 83 1 = 90 then M else up2 (up2 M 84 (M 83 1).toNat c) 83 1 (M 83 1 + 1)) := by
  refine Ct.of (by decide) (Nat.le_of_ble_eq_true rfl) ?_
  show AW Γ uX6_add 0 [(0, rf Γ 83), (1, vi c)] [] M _
  refine AW.aload_n dX6_add_0 0 rfl rfl ?_
  refine AW.getI dX6_add_1 fl_X6_15 (show sh 83 = (0, 6, [some 84, none]) from rfl) rfl ?_
  refine AW.bipush (z := (90)) dX6_add_4 (by decide) ?_
  refine AW.icmp_lt 12 dX6_add_6 (by decide) (by omega) (by omega) (fun c6 => ?_) (fun c6 => ?_)
  · refine AW.aload_n dX6_add_12 0 rfl rfl ?_
    refine AW.getR dX6_add_13 fl_X6_9 (show sh 83 = (0, 6, [some 84, none]) from rfl) rfl ?_
    refine AW.aload_n dX6_add_16 0 rfl rfl ?_
    refine AW.getI dX6_add_17 fl_X6_15 (show sh 83 = (0, 6, [some 84, none]) from rfl) rfl ?_
    refine AW.iload_n dX6_add_20 1 rfl rfl ?_
    refine AW.iastN ((M 83 1).toNat) dX6_add_21 (show sh 84 = (1, 90, []) from rfl) (by omega) (by omega) (by decide) ?_
    refine AW.aload_n dX6_add_22 0 rfl rfl ?_
    refine AW.dup dX6_add_23 rfl ?_
    refine AW.getI dX6_add_24 fl_X6_15 (show sh 83 = (0, 6, [some 84, none]) from rfl) rfl ?_
    rw [up2_c (by decide)]
    refine AW.iconst dX6_add_27 ?_
    refine AW.iadd dX6_add_28 ?_
    refine AW.putI dX6_add_29 fp_X6_15 (show sh 83 = (0, 6, [some 84, none]) from rfl) rfl ?_
    refine AW.aload_n dX6_add_32 0 rfl rfl ?_
    refine AW.getI dX6_add_33 fl_X6_15 (show sh 83 = (0, 6, [some 84, none]) from rfl) rfl ?_
    rw [up2_s]
    exact AW.iret rfl dX6_add_36 ⟨by rw [if_neg (by omega)], by rw [if_neg (by omega)]⟩
  · refine AW.bipush (z := (-3)) dX6_add_9 (by decide) ?_
    exact AW.iret rfl dX6_add_11 ⟨by rw [if_pos (by omega)], by rw [if_pos (by omega)]⟩

set_option maxRecDepth 20000 in
theorem C_type (Γ : GC) (M : Mm) (ht : 0 ≤ M 83 1 ∧ M 83 1 ≤ 90) (c : Int) (hc : R32 c) : Ct Γ uX8_type [rf Γ 0, vi c] M (fun z M' => z = typeZ (M 83 1) c ∧ ((typeOk (M 83 1) c ∧ M' = up2 (up2 M 84 (M 83 1).toNat c) 83 1 (M 83 1 + 1)) ∨ (¬ typeOk (M 83 1) c ∧ M' = M))) := by
  refine Ct.of (by decide) (Nat.le_of_ble_eq_true rfl) ?_
  show AW Γ uX8_type 0 [(0, rf Γ 0), (1, vi c)] [] M _
  refine AW.iload_n dX8_type_0 1 rfl rfl ?_
  refine AW.bipush (z := (32)) dX8_type_1 (by decide) ?_
  refine AW.icmp_lt 12 dX8_type_3 (by decide) (by omega) (by omega) (fun c3 => ?_) (fun c3 => ?_)
  · refine AW.iconst dX8_type_12 ?_
    exact AW.iret rfl dX8_type_13 ⟨by unfold typeZ; rw [if_neg (by omega)], Or.inr ⟨by unfold typeOk; omega, rfl⟩⟩
  · refine AW.iload_n dX8_type_6 1 rfl rfl ?_
    refine AW.bipush (z := (126)) dX8_type_7 (by decide) ?_
    refine AW.icmp_le 14 dX8_type_9 (by decide) (by omega) (by omega) (fun c9 => ?_) (fun c9 => ?_)
    · refine AW.aload_n dX8_type_14 0 rfl rfl ?_
      refine AW.getR dX8_type_15 fl_X8_67 (show sh 0 = (0, 8, [some 1, some 5, some 31, some 35, none, some 61, some 65, some 71, some 76, some 79, some 83, some 85]) from rfl) rfl ?_
      refine AW.iload_n dX8_type_18 1 rfl rfl ?_
      refine AW.callV1i (C_tadd Γ M ht c hc) dX8_type_19 mc_X8_223 (show sh 83 = (0, 6, [some 84, none]) from rfl) (fun _ => rfl) ⟨Nat.le_of_ble_eq_true rfl, Nat.le_of_ble_eq_true rfl⟩ (Nat.le_of_ble_eq_true rfl) (fun z19 M19 h19 => ?_)
      obtain ⟨e19, m19⟩ := h19
      subst e19; subst m19
      exact AW.iret rfl dX8_type_22 ⟨by unfold typeZ; rw [if_pos (show 32 ≤ c ∧ c ≤ 126 by omega)], Decidable.byCases (p := M 83 1 = 90) (fun q => Or.inr ⟨fun h => h.2 q, if_pos q⟩) (fun q => Or.inl ⟨⟨by omega, q⟩, if_neg q⟩)⟩
    · refine AW.iconst dX8_type_12 ?_
      exact AW.iret rfl dX8_type_13 ⟨by unfold typeZ; rw [if_neg (by omega)], Or.inr ⟨by unfold typeOk; omega, rfl⟩⟩
