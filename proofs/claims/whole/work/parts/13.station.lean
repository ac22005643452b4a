/-! a station of the class, and a row of the reference (0 how many letters, 1 words, 2 left, 3 right, 4 draw, 5 .. letters, 17 + 7 w its size, then its letters) -/
abbrev St (k : Nat) : Prop := sh k = (0, 5, [some (k + 1), none, some (k + 2), some (k + 3), none, none, none, none]) ∧ sh (k + 1) = (1, 12, []) ∧ sh (k + 2) = (1, 36, []) ∧ sh (k + 3) = (1, 6, [])
def OkR (r : Nat → Int) : Prop := (0 ≤ r 0 ∧ r 0 ≤ 12) ∧ (0 ≤ r 1 ∧ r 1 ≤ 6) ∧ (1 ≤ r 2 ∧ r 2 ≤ 4) ∧ (1 ≤ r 3 ∧ r 3 ≤ 4) ∧ (0 ≤ r 4 ∧ r 4 < 2147483648) ∧
  (∀ i : Nat, (i : Int) < r 0 → 0 ≤ r (5 + i) ∧ r (5 + i) < 26) ∧
  (∀ w : Nat, (w : Int) < r 1 → (1 ≤ r (17 + 7 * w) ∧ r (17 + 7 * w) ≤ 6) ∧ ∀ i : Nat, (i : Int) < r (17 + 7 * w) → 0 ≤ r (18 + 7 * w + i) ∧ r (18 + 7 * w + i) < 26)
def stRel (M : Mm) (k : Nat) (r : Nat → Int) : Prop := M k 1 = r 0 ∧ M k 4 = r 1 ∧ M k 5 = r 2 ∧ M k 6 = r 3 ∧ M k 7 = r 4 ∧
  (∀ i : Nat, (i : Int) < r 0 → M (k + 1) i = r (5 + i)) ∧
  (∀ w : Nat, (w : Int) < r 1 → M (k + 3) w = r (17 + 7 * w) ∧ ∀ i : Nat, (i : Int) < r (17 + 7 * w) → M (k + 2) (6 * w + i) = r (18 + 7 * w + i))
/-- nothing changed but the station's four cells -/
def off4 (k : Nat) (M M' : Mm) : Prop := ∀ a : Nat, (a < k ∨ k + 3 < a) → M' a = M a
theorem stRel.frame {M M' : Mm} {k : Nat} {r : Nat → Int} (h : stRel M k r) (h0 : M' k = M k) (h1 : M' (k + 1) = M (k + 1)) (h2 : M' (k + 2) = M (k + 2)) (h3 : M' (k + 3) = M (k + 3)) : stRel M' k r := by
  unfold stRel at *; rw [h0, h1, h2, h3]; exact h
theorem stRel.off {M M' : Mm} {k k2 : Nat} {r : Nat → Int} (h : stRel M k r) (ho : off4 k2 M M') (hd : k + 3 < k2 ∨ k2 + 3 < k) : stRel M' k r :=
  h.frame (ho _ (by omega)) (ho _ (by omega)) (ho _ (by omega)) (ho _ (by omega))
theorem off4.rfl' {k : Nat} {M : Mm} : off4 k M M := fun _ _ => rfl
theorem off4.trans {k : Nat} {M M' M'' : Mm} (h : off4 k M M') (h2 : off4 k M' M'') : off4 k M M'' := fun a ha => (h2 a ha).trans (h a ha)
theorem off4.up {k a j : Nat} {z : Int} {M M' : Mm} (h : off4 k M M') (ha : k ≤ a ∧ a ≤ k + 3) : off4 k M (up2 M' a j z) := fun b hb => by rw [up2_c (by omega)]; exact h b hb
theorem off4.upM {k a : Nat} {f : Nat → Int} {M M' : Mm} (h : off4 k M M') (ha : k ≤ a ∧ a ≤ k + 3) : off4 k M (upM M' a f) := fun b hb => by rw [upM_n (by omega)]; exact h b hb
theorem cpy0 {f g : Nat → Int} {n j : Nat} (h : j < n) : va_cpy f g 0 0 n j = f j := by simp [va_cpy, h]

set_option maxRecDepth 20000 in
theorem C_become (Γ : GC) (M : Mm) (k k2 : Nat) (hk : St k) (hk2 : St k2) (hne : k + 3 < k2 ∨ k2 + 3 < k) : Ct Γ uX5_become [rf Γ k, rf Γ k2] M (fun _ M' => off4 k M M' ∧ ∀ r, OkR r → stRel M k2 r → stRel M' k r) := by
  refine Ct.of (by decide) (Nat.le_of_ble_eq_true rfl) ?_
  show AW Γ uX5_become 0 [(0, rf Γ k), (1, rf Γ k2)] [] M _
  refine AW.aload_n dX5_become_0 1 rfl rfl ?_
  refine AW.getR dX5_become_1 fl_X5_9 hk2.1 rfl ?_
  refine AW.iconst dX5_become_4 ?_
  refine AW.aload_n dX5_become_5 0 rfl rfl ?_
  refine AW.getR dX5_become_6 fl_X5_9 hk.1 rfl ?_
  refine AW.iconst dX5_become_9 ?_
  refine AW.bipush (z := (12)) dX5_become_10 (by decide) ?_
  refine AW.copyI dX5_become_12 mc_X5_37 hk2.2.1 hk.2.1 (by decide) (by decide) (by decide) (by decide) (by decide) (by decide) (by decide) (Nat.le_of_ble_eq_true rfl) (Nat.le_of_ble_eq_true rfl) ?_
  refine AW.aload_n dX5_become_15 0 rfl rfl ?_
  refine AW.aload_n dX5_become_16 1 rfl rfl ?_
  refine AW.getI dX5_become_17 fl_X5_15 hk2.1 rfl ?_
  refine AW.putI dX5_become_20 fp_X5_15 hk.1 rfl ?_
  refine AW.aload_n dX5_become_23 1 rfl rfl ?_
  refine AW.getR dX5_become_24 fl_X5_19 hk2.1 rfl ?_
  refine AW.iconst dX5_become_27 ?_
  refine AW.aload_n dX5_become_28 0 rfl rfl ?_
  refine AW.getR dX5_become_29 fl_X5_19 hk.1 rfl ?_
  refine AW.iconst dX5_become_32 ?_
  refine AW.bipush (z := (36)) dX5_become_33 (by decide) ?_
  refine AW.copyI dX5_become_35 mc_X5_37 hk2.2.2.1 hk.2.2.1 (by decide) (by decide) (by decide) (by decide) (by decide) (by decide) (by decide) (Nat.le_of_ble_eq_true rfl) (Nat.le_of_ble_eq_true rfl) ?_
  refine AW.aload_n dX5_become_38 1 rfl rfl ?_
  refine AW.getR dX5_become_39 fl_X5_22 hk2.1 rfl ?_
  refine AW.iconst dX5_become_42 ?_
  refine AW.aload_n dX5_become_43 0 rfl rfl ?_
  refine AW.getR dX5_become_44 fl_X5_22 hk.1 rfl ?_
  refine AW.iconst dX5_become_47 ?_
  refine AW.bipush (z := (6)) dX5_become_48 (by decide) ?_
  refine AW.copyI dX5_become_50 mc_X5_37 hk2.2.2.2 hk.2.2.2 (by decide) (by decide) (by decide) (by decide) (by decide) (by decide) (by decide) (Nat.le_of_ble_eq_true rfl) (Nat.le_of_ble_eq_true rfl) ?_
  refine AW.aload_n dX5_become_53 0 rfl rfl ?_
  refine AW.aload_n dX5_become_54 1 rfl rfl ?_
  refine AW.getI dX5_become_55 fl_X5_25 hk2.1 rfl ?_
  refine AW.putI dX5_become_58 fp_X5_25 hk.1 rfl ?_
  refine AW.aload_n dX5_become_61 0 rfl rfl ?_
  refine AW.aload_n dX5_become_62 1 rfl rfl ?_
  refine AW.getI dX5_become_63 fl_X5_28 hk2.1 rfl ?_
  refine AW.putI dX5_become_66 fp_X5_28 hk.1 rfl ?_
  refine AW.aload_n dX5_become_69 0 rfl rfl ?_
  refine AW.aload_n dX5_become_70 1 rfl rfl ?_
  refine AW.getI dX5_become_71 fl_X5_31 hk2.1 rfl ?_
  refine AW.putI dX5_become_74 fp_X5_31 hk.1 rfl ?_
  refine AW.aload_n dX5_become_77 0 rfl rfl ?_
  refine AW.aload_n dX5_become_78 1 rfl rfl ?_
  refine AW.getI dX5_become_79 fl_X5_34 hk2.1 rfl ?_
  refine AW.putI dX5_become_82 fp_X5_34 hk.1 rfl ?_
  refine AW.vret rfl dX5_become_85 ?_
  refine ⟨?_, ?_⟩
  · repeat (first | exact off4.rfl' | refine off4.up ?_ (by omega) | refine off4.upM ?_ (by omega))
  · intro r hr h
    obtain ⟨h1, h2, h3, h4, h5, h6, h7⟩ := h
    have a1 : ¬ k2 = k := by omega
    have a2 : ¬ k2 = k + 1 := by omega
    have a3 : ¬ k2 = k + 2 := by omega
    have a4 : ¬ k2 = k + 3 := by omega
    have b1 : ¬ k2 + 1 = k := by omega
    have b2 : ¬ k2 + 2 = k := by omega
    have b3 : ¬ k2 + 3 = k := by omega
    have b4 : ¬ k2 + 2 = k + 1 := by omega
    have b5 : ¬ k2 + 3 = k + 1 := by omega
    have b6 : ¬ k2 + 1 = k + 2 := by omega
    have b7 : ¬ k2 + 3 = k + 2 := by omega
    have b8 : ¬ k2 + 1 = k + 3 := by omega
    have b9 : ¬ k2 + 2 = k + 3 := by omega
    refine ⟨?_, ?_, ?_, ?_, ?_, ?_, ?_⟩
    · simp [up2, upM, up1, *]
    · simp [up2, upM, up1, *]
    · simp [up2, upM, up1, *]
    · simp [up2, upM, up1, *]
    · simp [up2, upM, up1, *]
    · intro i hi
      have := hr.1
      have hi2 : i < 12 := by omega
      simp [up2, upM, up1, va_cpy, hi2, *]
    · intro w hw
      have := hr.2.1
      have hw2 : w < 6 := by omega
      refine ⟨?_, fun i hi => ?_⟩
      · have := (h7 w hw).1
        simp [up2, upM, up1, va_cpy, hw2, *]
      · have := (hr.2.2.2.2.2.2 w hw).1
        have hi2 : 6 * w + i < 36 := by omega
        have := (h7 w hw).2 i hi
        simp [up2, upM, up1, va_cpy, hi2, *]
