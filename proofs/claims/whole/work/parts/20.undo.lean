/-! undo, image, restore, seed, drift -/
theorem ntA_congr {A A' r r' : Nat → Int} {u : Int} (hu : 0 ≤ u ∧ u ≤ 6) (hA : ∀ j : Nat, j < 354 → A j = A' j) (hr : eq59 r r') : ∀ j : Nat, j < 354 → ntA A r u j = ntA A' r' u j := by
  intro j hj
  unfold ntA; split
  · simp only [va_cpy]
    by_cases h1 : 295 ≤ j ∧ j < 295 + 59
    · rw [if_pos h1, if_pos h1]; exact hr _ (by omega)
    · rw [if_neg h1, if_neg h1]
      by_cases h2 : 0 ≤ j ∧ j < 0 + 295
      · rw [if_pos h2, if_pos h2]; exact hA _ (by omega)
      · rw [if_neg h2, if_neg h2]; exact hA _ hj
  · simp only [va_cpy]
    by_cases h1 : 59 * u.toNat ≤ j ∧ j < 59 * u.toNat + 59
    · rw [if_pos h1, if_pos h1]; exact hr _ (by omega)
    · rw [if_neg h1, if_neg h1]; exact hA _ hj
theorem cpy59 (f g : Nat → Int) : eq59 f (va_cpy f g 0 0 59) := fun j hj => (cpy0 hj).symm

set_option maxRecDepth 20000 in
theorem undo_loop (Γ : GC) (M : Mm) (hu : 0 ≤ M 94 18 ∧ M 94 18 ≤ 5) (Q : Int → Mm → Prop) (hx : ∀ x : Int, x = 0 + (59 : Nat) → AW Γ uX9_undo 54 [(1, vi x), (0, rf Γ 94)] [] (upM M 96 (va_cpy (M 102) (M 96) (59 * (M 94 18).toNat) 0 59)) Q) : ∀ (n i : Nat) (x : Int), x = 0 + i → i ≤ 59 → 59 - i < n → AW Γ uX9_undo 22 [(1, vi x), (0, rf Γ 94)] [] (upM M 96 (va_cpy (M 102) (M 96) (59 * (M 94 18).toNat) 0 i)) Q := by
  intro n
  induction n with
  | zero => intro i x g0 g1 gm; omega
  | succ n ih =>
    intro i x g0 g1 gm
    refine AW.iload_n dX9_undo_22 0 rfl rfl ?_
    refine AW.bipush (z := (59)) dX9_undo_23 (by decide) ?_
    refine AW.icmp_ge 54 dX9_undo_25 (by decide) (by omega) (by omega) (fun c25 => ?_) (fun c25 => ?_)
    · refine AW.sub [0, 1] rfl ?_
      rw [show i = 59 by omega]
      exact hx x (by omega)
    · refine AW.aload_n dX9_undo_28 1 rfl rfl ?_
      refine AW.getR dX9_undo_29 fl_X9_13 (show sh 94 = (0, 9, [some 95, some 96, some 97, none, none, none, some 98, some 99, some 100, none, none, none, none, some 101, none, none, none, some 102, none, some 103, some 104, none, some 105, some 106, some 107, some 108]) from rfl) rfl ?_
      refine AW.iload_n dX9_undo_32 0 rfl rfl ?_
      refine AW.aload_n dX9_undo_33 1 rfl rfl ?_
      refine AW.getR dX9_undo_34 fl_X9_31 (show sh 94 = (0, 9, [some 95, some 96, some 97, none, none, none, some 98, some 99, some 100, none, none, none, none, some 101, none, none, none, some 102, none, some 103, some 104, none, some 105, some 106, some 107, some 108]) from rfl) rfl ?_
      refine AW.bipush (z := (59)) dX9_undo_37 (by decide) ?_
      refine AW.aload_n dX9_undo_39 1 rfl rfl ?_
      refine AW.getI dX9_undo_40 fl_X9_136 (show sh 94 = (0, 9, [some 95, some 96, some 97, none, none, none, some 98, some 99, some 100, none, none, none, none, some 101, none, none, none, some 102, none, some 103, some 104, none, some 105, some 106, some 107, some 108]) from rfl) rfl ?_
      rw [upM_n (by decide)]
      refine AW.imul dX9_undo_43 ?_
      refine AW.iload_n dX9_undo_44 0 rfl rfl ?_
      refine AW.iadd dX9_undo_45 ?_
      refine AW.ialdN (59 * (M 94 18).toNat + i) dX9_undo_46 (show sh 102 = (1, 354, []) from rfl) (by omega) (by omega) (by decide) ?_
      rw [upM_n (by decide)]
      refine AW.iastN i dX9_undo_47 (show sh 96 = (1, 59, []) from rfl) (by omega) (by omega) (by decide) ?_
      obtain ⟨x48, ex48⟩ : ∃ z : Int, x + 1 = z := ⟨_, rfl⟩
      refine AW.iinc [(1, vi x48), (0, rf Γ 94)] dX9_undo_48 0 rfl (by decide) x48 ex48 rfl ?_
      refine AW.goto 22 dX9_undo_51 (by decide) ?_
      refine AW.sub [0, 1] rfl ?_
      refine AW.toM (show _ = (upM M 96 (va_cpy (M 102) (M 96) (59 * (M 94 18).toNat) 0 (i + 1))) from ?_) (ih (i + 1) x48 (by omega) (by omega) (by omega))
      rw [upM_up2, ← cpy_step]
      simp only [Nat.zero_add]

set_option maxRecDepth 20000 in
theorem C9_undo (Γ : GC) (M : Mm) (hu : 0 ≤ M 94 18 ∧ M 94 18 ≤ 6) : Ct Γ uX9_undo [rf Γ 94] M (fun z M' => (M 94 18 = 0 ∧ z = -4 ∧ M' = M) ∨ (0 < M 94 18 ∧ z = M 94 18 - 1 ∧ M' 94 18 = M 94 18 - 1 ∧ (∀ j : Nat, j ≠ 18 → M' 94 j = M 94 j) ∧ M' 96 = va_cpy (M 102) (M 96) (59 * (M 94 18 - 1).toNat) 0 59 ∧ ∀ a : Nat, a ≠ 94 → a ≠ 96 → M' a = M a)) := by
  refine Ct.of (by decide) (Nat.le_of_ble_eq_true rfl) ?_
  show AW Γ uX9_undo 0 [(0, rf Γ 94)] [] M _
  refine AW.aload_n dX9_undo_0 0 rfl rfl ?_
  refine AW.getI dX9_undo_1 fl_X9_136 (show sh 94 = (0, 9, [some 95, some 96, some 97, none, none, none, some 98, some 99, some 100, none, none, none, none, some 101, none, none, none, some 102, none, some 103, some 104, none, some 105, some 106, some 107, some 108]) from rfl) rfl ?_
  refine AW.if_ne 10 dX9_undo_4 (by decide) (by omega) (fun c4 => ?_) (fun c4 => ?_)
  · refine AW.aload_n dX9_undo_10 0 rfl rfl ?_
    refine AW.dup dX9_undo_11 rfl ?_
    refine AW.getI dX9_undo_12 fl_X9_136 (show sh 94 = (0, 9, [some 95, some 96, some 97, none, none, none, some 98, some 99, some 100, none, none, none, none, some 101, none, none, none, some 102, none, some 103, some 104, none, some 105, some 106, some 107, some 108]) from rfl) rfl ?_
    refine AW.iconst dX9_undo_15 ?_
    refine AW.isub dX9_undo_16 ?_
    refine AW.putI dX9_undo_17 fp_X9_136 (show sh 94 = (0, 9, [some 95, some 96, some 97, none, none, none, some 98, some 99, some 100, none, none, none, none, some 101, none, none, none, some 102, none, some 103, some 104, none, some 105, some 106, some 107, some 108]) from rfl) rfl ?_
    refine AW.iconst dX9_undo_20 ?_
    refine AW.top (fun x21 ex21 => ?_)
    refine AW.istore_n [(1, vi x21), (0, rf Γ 94)] dX9_undo_21 rfl (by decide) rfl ?_
    refine AW.sub [0, 1] rfl ?_
    obtain ⟨M1, hM1⟩ : ∃ q : Mm, q = up2 M 94 18 (M 94 18 - 1) := ⟨_, rfl⟩
    rw [← hM1]
    have u1 : M1 94 18 = M 94 18 - 1 := by rw [hM1, up2_s]
    refine AW.toM (cpy_zero M1 96 (M1 102) (59 * (M1 94 18).toNat) 0).symm (undo_loop Γ M1 (by omega) _ (fun x hx => ?_) 60 0 x21 (by omega) (by omega) (by omega))
    refine AW.aload_n dX9_undo_54 1 rfl rfl ?_
    refine AW.getI dX9_undo_55 fl_X9_136 (show sh 94 = (0, 9, [some 95, some 96, some 97, none, none, none, some 98, some 99, some 100, none, none, none, none, some 101, none, none, none, some 102, none, some 103, some 104, none, some 105, some 106, some 107, some 108]) from rfl) rfl ?_
    rw [upM_n (by decide)]
    exact AW.iret rfl dX9_undo_58 (Or.inr ⟨by omega, u1, by rw [upM_n (by decide), u1], fun j hj => by rw [upM_n (by decide), hM1, up2_i hj], by rw [upM_s, u1, hM1, up2_c (by decide), up2_c (by decide)], fun a h1 h2 => by rw [upM_n h2, hM1, up2_c h1]⟩)
  · refine AW.bipush (z := (-4)) dX9_undo_7 (by decide) ?_
    exact AW.iret rfl dX9_undo_9 (Or.inl ⟨c4, rfl, rfl⟩)

set_option maxRecDepth 20000 in
theorem image_loop1 (Γ : GC) (M : Mm)  (Q : Int → Mm → Prop) (hx : ∀ x : Int, x = 0 + (59 : Nat) → AW Γ uX9_image 26 [(1, vi x), (0, rf Γ 94)] [] (upM M 103 (va_cpy (M 96) (M 103) 0 0 59)) Q) : ∀ (n i : Nat) (x : Int), x = 0 + i → i ≤ 59 → 59 - i < n → AW Γ uX9_image 2 [(1, vi x), (0, rf Γ 94)] [] (upM M 103 (va_cpy (M 96) (M 103) 0 0 i)) Q := by
  intro n
  induction n with
  | zero => intro i x g0 g1 gm; omega
  | succ n ih =>
    intro i x g0 g1 gm
    refine AW.iload_n dX9_image_2 0 rfl rfl ?_
    refine AW.bipush (z := (59)) dX9_image_3 (by decide) ?_
    refine AW.icmp_ge 26 dX9_image_5 (by decide) (by omega) (by omega) (fun c5 => ?_) (fun c5 => ?_)
    · refine AW.sub [0, 1] rfl ?_
      rw [show i = 59 by omega]
      exact hx x (by omega)
    · refine AW.aload_n dX9_image_8 1 rfl rfl ?_
      refine AW.getR dX9_image_9 fl_X9_34 (show sh 94 = (0, 9, [some 95, some 96, some 97, none, none, none, some 98, some 99, some 100, none, none, none, none, some 101, none, none, none, some 102, none, some 103, some 104, none, some 105, some 106, some 107, some 108]) from rfl) rfl ?_
      refine AW.iload_n dX9_image_12 0 rfl rfl ?_
      refine AW.aload_n dX9_image_13 1 rfl rfl ?_
      refine AW.getR dX9_image_14 fl_X9_13 (show sh 94 = (0, 9, [some 95, some 96, some 97, none, none, none, some 98, some 99, some 100, none, none, none, none, some 101, none, none, none, some 102, none, some 103, some 104, none, some 105, some 106, some 107, some 108]) from rfl) rfl ?_
      refine AW.iload_n dX9_image_17 0 rfl rfl ?_
      refine AW.ialdN i dX9_image_18 (show sh 96 = (1, 59, []) from rfl) (by omega) (by omega) (by decide) ?_
      rw [upM_n (by decide)]
      refine AW.iastN i dX9_image_19 (show sh 103 = (1, 59, []) from rfl) (by omega) (by omega) (by decide) ?_
      obtain ⟨x20, ex20⟩ : ∃ z : Int, x + 1 = z := ⟨_, rfl⟩
      refine AW.iinc [(1, vi x20), (0, rf Γ 94)] dX9_image_20 0 rfl (by decide) x20 ex20 rfl ?_
      refine AW.goto 2 dX9_image_23 (by decide) ?_
      refine AW.sub [0, 1] rfl ?_
      refine AW.toM (show _ = (upM M 103 (va_cpy (M 96) (M 103) 0 0 (i + 1))) from ?_) (ih (i + 1) x20 (by omega) (by omega) (by omega))
      rw [upM_up2, ← cpy_step]
      simp only [Nat.zero_add]

set_option maxRecDepth 20000 in
theorem image_loop2 (Γ : GC) (M : Mm)  (Q : Int → Mm → Prop) (hx : ∀ x : Int, x = 0 + (354 : Nat) → AW Γ uX9_image 53 [(1, vi x), (0, rf Γ 94)] [] (upM M 104 (va_cpy (M 102) (M 104) 0 0 354)) Q) : ∀ (n i : Nat) (x : Int), x = 0 + i → i ≤ 354 → 354 - i < n → AW Γ uX9_image 28 [(1, vi x), (0, rf Γ 94)] [] (upM M 104 (va_cpy (M 102) (M 104) 0 0 i)) Q := by
  intro n
  induction n with
  | zero => intro i x g0 g1 gm; omega
  | succ n ih =>
    intro i x g0 g1 gm
    refine AW.iload_n dX9_image_28 0 rfl rfl ?_
    refine AW.sipush (z := (354)) dX9_image_29 (by decide) ?_
    refine AW.icmp_ge 53 dX9_image_32 (by decide) (by omega) (by omega) (fun c32 => ?_) (fun c32 => ?_)
    · refine AW.sub [0, 1] rfl ?_
      rw [show i = 354 by omega]
      exact hx x (by omega)
    · refine AW.aload_n dX9_image_35 1 rfl rfl ?_
      refine AW.getR dX9_image_36 fl_X9_37 (show sh 94 = (0, 9, [some 95, some 96, some 97, none, none, none, some 98, some 99, some 100, none, none, none, none, some 101, none, none, none, some 102, none, some 103, some 104, none, some 105, some 106, some 107, some 108]) from rfl) rfl ?_
      refine AW.iload_n dX9_image_39 0 rfl rfl ?_
      refine AW.aload_n dX9_image_40 1 rfl rfl ?_
      refine AW.getR dX9_image_41 fl_X9_31 (show sh 94 = (0, 9, [some 95, some 96, some 97, none, none, none, some 98, some 99, some 100, none, none, none, none, some 101, none, none, none, some 102, none, some 103, some 104, none, some 105, some 106, some 107, some 108]) from rfl) rfl ?_
      refine AW.iload_n dX9_image_44 0 rfl rfl ?_
      refine AW.ialdN i dX9_image_45 (show sh 102 = (1, 354, []) from rfl) (by omega) (by omega) (by decide) ?_
      rw [upM_n (by decide)]
      refine AW.iastN i dX9_image_46 (show sh 104 = (1, 354, []) from rfl) (by omega) (by omega) (by decide) ?_
      obtain ⟨x47, ex47⟩ : ∃ z : Int, x + 1 = z := ⟨_, rfl⟩
      refine AW.iinc [(1, vi x47), (0, rf Γ 94)] dX9_image_47 0 rfl (by decide) x47 ex47 rfl ?_
      refine AW.goto 28 dX9_image_50 (by decide) ?_
      refine AW.sub [0, 1] rfl ?_
      refine AW.toM (show _ = (upM M 104 (va_cpy (M 102) (M 104) 0 0 (i + 1))) from ?_) (ih (i + 1) x47 (by omega) (by omega) (by omega))
      rw [upM_up2, ← cpy_step]
      simp only [Nat.zero_add]

set_option maxRecDepth 20000 in
theorem C9_image (Γ : GC) (M : Mm)  : Ct Γ uX9_image [rf Γ 94] M (fun z M' => z = 1 ∧ M' 94 21 = M 94 18 ∧ (∀ j : Nat, j ≠ 21 → M' 94 j = M 94 j) ∧ M' 103 = va_cpy (M 96) (M 103) 0 0 59 ∧ M' 104 = va_cpy (M 102) (M 104) 0 0 354 ∧ ∀ a : Nat, a ≠ 94 → a ≠ 103 → a ≠ 104 → M' a = M a) := by
  refine Ct.of (by decide) (Nat.le_of_ble_eq_true rfl) ?_
  show AW Γ uX9_image 0 [(0, rf Γ 94)] [] M _
  refine AW.iconst dX9_image_0 ?_
  refine AW.top (fun x1 ex1 => ?_)
  refine AW.istore_n [(1, vi x1), (0, rf Γ 94)] dX9_image_1 rfl (by decide) rfl ?_
  refine AW.sub [0, 1] rfl ?_
  refine AW.toM (cpy_zero M 103 (M 96) 0 0).symm (image_loop1 Γ M _ (fun x hx => ?_) 60 0 x1 (by omega) (by omega) (by omega))
  refine AW.iconst dX9_image_26 ?_
  refine AW.top (fun x27 ex27 => ?_)
  refine AW.istore_n [(1, vi x27), (0, rf Γ 94)] dX9_image_27 rfl (by decide) rfl ?_
  refine AW.sub [0, 1] rfl ?_
  obtain ⟨M1, hM1⟩ : ∃ q : Mm, q = upM M 103 (va_cpy (M 96) (M 103) 0 0 59) := ⟨_, rfl⟩
  rw [← hM1]
  refine AW.toM (cpy_zero M1 104 (M1 102) 0 0).symm (image_loop2 Γ M1 _ (fun x2 hx2 => ?_) 355 0 x27 (by omega) (by omega) (by omega))
  refine AW.aload_n dX9_image_53 1 rfl rfl ?_
  refine AW.aload_n dX9_image_54 1 rfl rfl ?_
  refine AW.getI dX9_image_55 fl_X9_136 (show sh 94 = (0, 9, [some 95, some 96, some 97, none, none, none, some 98, some 99, some 100, none, none, none, none, some 101, none, none, none, some 102, none, some 103, some 104, none, some 105, some 106, some 107, some 108]) from rfl) rfl ?_
  rw [upM_n (by decide)]
  refine AW.putI dX9_image_58 fp_X9_40 (show sh 94 = (0, 9, [some 95, some 96, some 97, none, none, none, some 98, some 99, some 100, none, none, none, none, some 101, none, none, none, some 102, none, some 103, some 104, none, some 105, some 106, some 107, some 108]) from rfl) rfl ?_
  refine AW.iconst dX9_image_61 ?_
  exact AW.iret rfl dX9_image_62 ⟨rfl, by rw [up2_s, hM1, upM_n (by decide)], fun j hj => by rw [up2_i hj, upM_n (by decide), hM1, upM_n (by decide)], by rw [up2_c (by decide), upM_n (by decide), hM1, upM_s], by rw [up2_c (by decide), upM_s, hM1, upM_n (by decide), upM_n (by decide)], fun a h1 h2 h3 => by rw [up2_c h1, upM_n h3, hM1, upM_n h2]⟩

set_option maxRecDepth 20000 in
theorem restore_loop1 (Γ : GC) (M : Mm)  (Q : Int → Mm → Prop) (hx : ∀ x : Int, x = 0 + (59 : Nat) → AW Γ uX9_restore 36 [(1, vi x), (0, rf Γ 94)] [] (upM M 96 (va_cpy (M 103) (M 96) 0 0 59)) Q) : ∀ (n i : Nat) (x : Int), x = 0 + i → i ≤ 59 → 59 - i < n → AW Γ uX9_restore 12 [(1, vi x), (0, rf Γ 94)] [] (upM M 96 (va_cpy (M 103) (M 96) 0 0 i)) Q := by
  intro n
  induction n with
  | zero => intro i x g0 g1 gm; omega
  | succ n ih =>
    intro i x g0 g1 gm
    refine AW.iload_n dX9_restore_12 0 rfl rfl ?_
    refine AW.bipush (z := (59)) dX9_restore_13 (by decide) ?_
    refine AW.icmp_ge 36 dX9_restore_15 (by decide) (by omega) (by omega) (fun c15 => ?_) (fun c15 => ?_)
    · refine AW.sub [0, 1] rfl ?_
      rw [show i = 59 by omega]
      exact hx x (by omega)
    · refine AW.aload_n dX9_restore_18 1 rfl rfl ?_
      refine AW.getR dX9_restore_19 fl_X9_13 (show sh 94 = (0, 9, [some 95, some 96, some 97, none, none, none, some 98, some 99, some 100, none, none, none, none, some 101, none, none, none, some 102, none, some 103, some 104, none, some 105, some 106, some 107, some 108]) from rfl) rfl ?_
      refine AW.iload_n dX9_restore_22 0 rfl rfl ?_
      refine AW.aload_n dX9_restore_23 1 rfl rfl ?_
      refine AW.getR dX9_restore_24 fl_X9_34 (show sh 94 = (0, 9, [some 95, some 96, some 97, none, none, none, some 98, some 99, some 100, none, none, none, none, some 101, none, none, none, some 102, none, some 103, some 104, none, some 105, some 106, some 107, some 108]) from rfl) rfl ?_
      refine AW.iload_n dX9_restore_27 0 rfl rfl ?_
      refine AW.ialdN i dX9_restore_28 (show sh 103 = (1, 59, []) from rfl) (by omega) (by omega) (by decide) ?_
      rw [upM_n (by decide)]
      refine AW.iastN i dX9_restore_29 (show sh 96 = (1, 59, []) from rfl) (by omega) (by omega) (by decide) ?_
      obtain ⟨x30, ex30⟩ : ∃ z : Int, x + 1 = z := ⟨_, rfl⟩
      refine AW.iinc [(1, vi x30), (0, rf Γ 94)] dX9_restore_30 0 rfl (by decide) x30 ex30 rfl ?_
      refine AW.goto 12 dX9_restore_33 (by decide) ?_
      refine AW.sub [0, 1] rfl ?_
      refine AW.toM (show _ = (upM M 96 (va_cpy (M 103) (M 96) 0 0 (i + 1))) from ?_) (ih (i + 1) x30 (by omega) (by omega) (by omega))
      rw [upM_up2, ← cpy_step]
      simp only [Nat.zero_add]

set_option maxRecDepth 20000 in
theorem restore_loop2 (Γ : GC) (M : Mm)  (Q : Int → Mm → Prop) (hx : ∀ x : Int, x = 0 + (354 : Nat) → AW Γ uX9_restore 63 [(1, vi x), (0, rf Γ 94)] [] (upM M 102 (va_cpy (M 104) (M 102) 0 0 354)) Q) : ∀ (n i : Nat) (x : Int), x = 0 + i → i ≤ 354 → 354 - i < n → AW Γ uX9_restore 38 [(1, vi x), (0, rf Γ 94)] [] (upM M 102 (va_cpy (M 104) (M 102) 0 0 i)) Q := by
  intro n
  induction n with
  | zero => intro i x g0 g1 gm; omega
  | succ n ih =>
    intro i x g0 g1 gm
    refine AW.iload_n dX9_restore_38 0 rfl rfl ?_
    refine AW.sipush (z := (354)) dX9_restore_39 (by decide) ?_
    refine AW.icmp_ge 63 dX9_restore_42 (by decide) (by omega) (by omega) (fun c42 => ?_) (fun c42 => ?_)
    · refine AW.sub [0, 1] rfl ?_
      rw [show i = 354 by omega]
      exact hx x (by omega)
    · refine AW.aload_n dX9_restore_45 1 rfl rfl ?_
      refine AW.getR dX9_restore_46 fl_X9_31 (show sh 94 = (0, 9, [some 95, some 96, some 97, none, none, none, some 98, some 99, some 100, none, none, none, none, some 101, none, none, none, some 102, none, some 103, some 104, none, some 105, some 106, some 107, some 108]) from rfl) rfl ?_
      refine AW.iload_n dX9_restore_49 0 rfl rfl ?_
      refine AW.aload_n dX9_restore_50 1 rfl rfl ?_
      refine AW.getR dX9_restore_51 fl_X9_37 (show sh 94 = (0, 9, [some 95, some 96, some 97, none, none, none, some 98, some 99, some 100, none, none, none, none, some 101, none, none, none, some 102, none, some 103, some 104, none, some 105, some 106, some 107, some 108]) from rfl) rfl ?_
      refine AW.iload_n dX9_restore_54 0 rfl rfl ?_
      refine AW.ialdN i dX9_restore_55 (show sh 104 = (1, 354, []) from rfl) (by omega) (by omega) (by decide) ?_
      rw [upM_n (by decide)]
      refine AW.iastN i dX9_restore_56 (show sh 102 = (1, 354, []) from rfl) (by omega) (by omega) (by decide) ?_
      obtain ⟨x57, ex57⟩ : ∃ z : Int, x + 1 = z := ⟨_, rfl⟩
      refine AW.iinc [(1, vi x57), (0, rf Γ 94)] dX9_restore_57 0 rfl (by decide) x57 ex57 rfl ?_
      refine AW.goto 38 dX9_restore_60 (by decide) ?_
      refine AW.sub [0, 1] rfl ?_
      refine AW.toM (show _ = (upM M 102 (va_cpy (M 104) (M 102) 0 0 (i + 1))) from ?_) (ih (i + 1) x57 (by omega) (by omega) (by omega))
      rw [upM_up2, ← cpy_step]
      simp only [Nat.zero_add]

set_option maxRecDepth 20000 in
theorem C9_restore (Γ : GC) (M : Mm) (hk : -1 ≤ M 94 21 ∧ M 94 21 ≤ 6) : Ct Γ uX9_restore [rf Γ 94] M (fun z M' => (M 94 21 < 0 ∧ z = -4 ∧ M' = M) ∨ (0 ≤ M 94 21 ∧ z = 1 ∧ M' 94 18 = M 94 21 ∧ (∀ j : Nat, j ≠ 18 → M' 94 j = M 94 j) ∧ M' 96 = va_cpy (M 103) (M 96) 0 0 59 ∧ M' 102 = va_cpy (M 104) (M 102) 0 0 354 ∧ ∀ a : Nat, a ≠ 94 → a ≠ 96 → a ≠ 102 → M' a = M a)) := by
  refine Ct.of (by decide) (Nat.le_of_ble_eq_true rfl) ?_
  show AW Γ uX9_restore 0 [(0, rf Γ 94)] [] M _
  refine AW.aload_n dX9_restore_0 0 rfl rfl ?_
  refine AW.getI dX9_restore_1 fl_X9_40 (show sh 94 = (0, 9, [some 95, some 96, some 97, none, none, none, some 98, some 99, some 100, none, none, none, none, some 101, none, none, none, some 102, none, some 103, some 104, none, some 105, some 106, some 107, some 108]) from rfl) rfl ?_
  refine AW.if_ge 10 dX9_restore_4 (by decide) (by omega) (fun c4 => ?_) (fun c4 => ?_)
  · refine AW.iconst dX9_restore_10 ?_
    refine AW.top (fun x11 ex11 => ?_)
    refine AW.istore_n [(1, vi x11), (0, rf Γ 94)] dX9_restore_11 rfl (by decide) rfl ?_
    refine AW.sub [0, 1] rfl ?_
    refine AW.toM (cpy_zero M 96 (M 103) 0 0).symm (restore_loop1 Γ M _ (fun x hx => ?_) 60 0 x11 (by omega) (by omega) (by omega))
    refine AW.iconst dX9_restore_36 ?_
    refine AW.top (fun x37 ex37 => ?_)
    refine AW.istore_n [(1, vi x37), (0, rf Γ 94)] dX9_restore_37 rfl (by decide) rfl ?_
    refine AW.sub [0, 1] rfl ?_
    obtain ⟨M1, hM1⟩ : ∃ q : Mm, q = upM M 96 (va_cpy (M 103) (M 96) 0 0 59) := ⟨_, rfl⟩
    rw [← hM1]
    refine AW.toM (cpy_zero M1 102 (M1 104) 0 0).symm (restore_loop2 Γ M1 _ (fun x2 hx2 => ?_) 355 0 x37 (by omega) (by omega) (by omega))
    refine AW.aload_n dX9_restore_63 1 rfl rfl ?_
    refine AW.aload_n dX9_restore_64 1 rfl rfl ?_
    refine AW.getI dX9_restore_65 fl_X9_40 (show sh 94 = (0, 9, [some 95, some 96, some 97, none, none, none, some 98, some 99, some 100, none, none, none, none, some 101, none, none, none, some 102, none, some 103, some 104, none, some 105, some 106, some 107, some 108]) from rfl) rfl ?_
    rw [upM_n (by decide)]
    refine AW.putI dX9_restore_68 fp_X9_136 (show sh 94 = (0, 9, [some 95, some 96, some 97, none, none, none, some 98, some 99, some 100, none, none, none, none, some 101, none, none, none, some 102, none, some 103, some 104, none, some 105, some 106, some 107, some 108]) from rfl) rfl ?_
    refine AW.iconst dX9_restore_71 ?_
    exact AW.iret rfl dX9_restore_72 (Or.inr ⟨c4, rfl, by rw [up2_s, hM1, upM_n (by decide)], fun j hj => by rw [up2_i hj, upM_n (by decide), hM1, upM_n (by decide)], by rw [up2_c (by decide), upM_n (by decide), hM1, upM_s], by rw [up2_c (by decide), upM_s, hM1, upM_n (by decide), upM_n (by decide)], fun a h1 h2 h3 => by rw [up2_c h1, upM_n h3, hM1, upM_n h2]⟩)
  · refine AW.bipush (z := (-4)) dX9_restore_7 (by decide) ?_
    exact AW.iret rfl dX9_restore_9 (Or.inl ⟨c4, rfl, rfl⟩)

set_option maxRecDepth 20000 in
theorem C9_seed (Γ : GC) (M : Mm) (v : Int) (hv : R32 v) : Ct Γ uX9_seed [rf Γ 94, vi v] M (fun z M' => z = (if 0 ≤ v then M 96 4 else -1) ∧ M' = if 0 ≤ v then up2 M 96 4 v else M) := by
  refine Ct.of (by decide) (Nat.le_of_ble_eq_true rfl) ?_
  show AW Γ uX9_seed 0 [(0, rf Γ 94), (1, vi v)] [] M _
  refine AW.iload_n dX9_seed_0 1 rfl rfl ?_
  refine AW.if_ge 6 dX9_seed_1 (by decide) (by omega) (fun c1 => ?_) (fun c1 => ?_)
  · refine AW.aload_n dX9_seed_6 0 rfl rfl ?_
    refine AW.getR dX9_seed_7 fl_X9_13 (show sh 94 = (0, 9, [some 95, some 96, some 97, none, none, none, some 98, some 99, some 100, none, none, none, none, some 101, none, none, none, some 102, none, some 103, some 104, none, some 105, some 106, some 107, some 108]) from rfl) rfl ?_
    refine AW.iconst dX9_seed_10 ?_
    refine AW.ialdN 4 dX9_seed_11 (show sh 96 = (1, 59, []) from rfl) rfl (by decide) (by decide) ?_
    refine AW.top (fun was ewas => ?_)
    refine AW.istore_n [(2, vi was), (0, rf Γ 94), (1, vi v)] dX9_seed_12 rfl (by decide) rfl ?_
    refine AW.aload_n dX9_seed_13 1 rfl rfl ?_
    refine AW.getR dX9_seed_14 fl_X9_13 (show sh 94 = (0, 9, [some 95, some 96, some 97, none, none, none, some 98, some 99, some 100, none, none, none, none, some 101, none, none, none, some 102, none, some 103, some 104, none, some 105, some 106, some 107, some 108]) from rfl) rfl ?_
    refine AW.iconst dX9_seed_17 ?_
    refine AW.iload_n dX9_seed_18 2 rfl rfl ?_
    refine AW.iastN 4 dX9_seed_19 (show sh 96 = (1, 59, []) from rfl) rfl (by decide) (by decide) ?_
    refine AW.iload_n dX9_seed_20 0 rfl rfl ?_
    exact AW.iret rfl dX9_seed_21 ⟨by rw [if_pos c1]; exact ewas, by rw [if_pos c1]⟩
  · refine AW.iconst dX9_seed_4 ?_
    exact AW.iret rfl dX9_seed_5 ⟨by rw [if_neg (by omega)], by rw [if_neg (by omega)]⟩

set_option maxRecDepth 20000 in
theorem C_undo (Γ : GC) (M : Mm) (u : Int) (A : Nat → Int) (hp : pastRel M 5 u A) : Ct Γ uX8_undo [rf Γ 0] M (fun z M' => (u = 0 ∧ z = -4 ∧ M' = M) ∨ (0 < u ∧ z = u - 1 ∧ pastRel M' 5 (u - 1) A ∧ stRel M' 1 (rowA A (u - 1).toNat) ∧ ∀ a : Nat, (a < 1 ∨ 5 < a) → M' a = M a)) := by
  refine Ct.of (by decide) (Nat.le_of_ble_eq_true rfl) ?_
  show AW Γ uX8_undo 0 [(0, rf Γ 0)] [] M _
  have hu := hp.1
  have hu2 := hp.2.1
  refine AW.aload_n dX8_undo_0 0 rfl rfl ?_
  refine AW.getR dX8_undo_1 fl_X8_19 (show sh 0 = (0, 8, [some 1, some 5, some 31, some 35, none, some 61, some 65, some 71, some 76, some 79, some 83, some 85]) from rfl) rfl ?_
  refine AW.aload_n dX8_undo_4 0 rfl rfl ?_
  refine AW.getR dX8_undo_5 fl_X8_10 (show sh 0 = (0, 8, [some 1, some 5, some 31, some 35, none, some 61, some 65, some 71, some 76, some 79, some 83, some 85]) from rfl) rfl ?_
  refine AW.callV1i (C_ptake Γ M 5 1 pa5 st1 (by decide) hp.2.2.1 (by rw [hp.1]; exact hp.2.1)) dX8_undo_8 mc_X8_241 (show sh 5 = (0, 2, [some 6, none, none]) from rfl) (fun _ => rfl) ⟨Nat.le_of_ble_eq_true rfl, Nat.le_of_ble_eq_true rfl⟩ (Nat.le_of_ble_eq_true rfl) (fun z8 M8 h8 => ?_)
  obtain ⟨e8, h8⟩ := h8
  refine AW.if_eq 24 dX8_undo_11 (by decide) (by rw [e8]; exact bI_r _) (fun c11 => ?_) (fun c11 => ?_)
  · rw [e8] at c11
    have d11 := bI0.mp c11
    refine AW.bipush (z := (-4)) dX8_undo_24 (by decide) ?_
    exact AW.iret rfl dX8_undo_26 (by
      rcases h8 with ⟨q1, q2⟩ | ⟨q1, q2⟩
      · exact Or.inl ⟨by omega, rfl, q2⟩
      · omega)
  · rw [e8] at c11
    have d11 := bI1.mp c11
    refine AW.aload_n dX8_undo_14 0 rfl rfl ?_
    refine AW.getR dX8_undo_15 fl_X8_19 (show sh 0 = (0, 8, [some 1, some 5, some 31, some 35, none, some 61, some 65, some 71, some 76, some 79, some 83, some 85]) from rfl) rfl ?_
    refine AW.getI dX8_undo_18 fl_X8_162 (show sh 5 = (0, 2, [some 6, none, none]) from rfl) rfl ?_
    refine AW.goto 26 dX8_undo_21 (by decide) ?_
    exact AW.iret rfl dX8_undo_26 (by
      rcases h8 with ⟨q1, q2⟩ | ⟨q1, q2, q3, q4, q5⟩
      · omega
      · refine Or.inr ⟨by omega, by omega, ?_, q5 u A hp, fun a ha => q2 a (by omega) (by omega)⟩
        obtain ⟨g1, g2, g3, g4⟩ := hp
        refine ⟨by omega, by omega, by rw [q3]; exact g3, fun j hj => ⟨(g4 j (by omega)).1, ?_⟩⟩
        rw [q3]
        exact (g4 j (by omega)).2.frame (q2 _ (by omega) (by omega)) (q2 _ (by omega) (by omega)) (q2 _ (by omega) (by omega)) (q2 _ (by omega) (by omega)))

set_option maxRecDepth 20000 in
theorem C_seed (Γ : GC) (M : Mm) (v : Int) (hv : R32 v) : Ct Γ uX8_seed [rf Γ 0, vi v] M (fun z M' => z = (if 0 ≤ v then M 1 7 else -1) ∧ M' = if 0 ≤ v then up2 M 1 7 v else M) := by
  refine Ct.of (by decide) (Nat.le_of_ble_eq_true rfl) ?_
  show AW Γ uX8_seed 0 [(0, rf Γ 0), (1, vi v)] [] M _
  refine AW.iload_n dX8_seed_0 1 rfl rfl ?_
  refine AW.if_ge 6 dX8_seed_1 (by decide) (by omega) (fun c1 => ?_) (fun c1 => ?_)
  · refine AW.aload_n dX8_seed_6 0 rfl rfl ?_
    refine AW.getR dX8_seed_7 fl_X8_10 (show sh 0 = (0, 8, [some 1, some 5, some 31, some 35, none, some 61, some 65, some 71, some 76, some 79, some 83, some 85]) from rfl) rfl ?_
    refine AW.getI dX8_seed_10 fl_X8_245 (show sh 1 = (0, 5, [some 2, none, some 3, some 4, none, none, none, none]) from rfl) rfl ?_
    refine AW.top (fun was ewas => ?_)
    refine AW.istore_n [(2, vi was), (0, rf Γ 0), (1, vi v)] dX8_seed_13 rfl (by decide) rfl ?_
    refine AW.aload_n dX8_seed_14 1 rfl rfl ?_
    refine AW.getR dX8_seed_15 fl_X8_10 (show sh 0 = (0, 8, [some 1, some 5, some 31, some 35, none, some 61, some 65, some 71, some 76, some 79, some 83, some 85]) from rfl) rfl ?_
    refine AW.iload_n dX8_seed_18 2 rfl rfl ?_
    refine AW.putI dX8_seed_19 fp_X8_245 (show sh 1 = (0, 5, [some 2, none, some 3, some 4, none, none, none, none]) from rfl) rfl ?_
    refine AW.iload_n dX8_seed_22 0 rfl rfl ?_
    exact AW.iret rfl dX8_seed_23 ⟨by rw [if_pos c1]; exact ewas, by rw [if_pos c1]⟩
  · refine AW.iconst dX8_seed_4 ?_
    exact AW.iret rfl dX8_seed_5 ⟨by rw [if_neg (by omega)], by rw [if_neg (by omega)]⟩

set_option maxRecDepth 20000 in
theorem C_image (Γ : GC) (M : Mm)  : Ct Γ uX8_image [rf Γ 0] M (fun z M' => z = 1 ∧ M' 0 4 = 1 ∧ (∀ j : Nat, j ≠ 4 → M' 0 j = M 0 j) ∧ (∀ r, OkR r → stRel M 1 r → stRel M' 31 r) ∧ (∀ u A, pastRel M 5 u A → pastRel M' 35 u A) ∧ ∀ a : Nat, ((0 < a ∧ a < 31) ∨ 60 < a) → M' a = M a) := by
  refine Ct.of (by decide) (Nat.le_of_ble_eq_true rfl) ?_
  show AW Γ uX8_image 0 [(0, rf Γ 0)] [] M _
  refine AW.aload_n dX8_image_0 0 rfl rfl ?_
  refine AW.getR dX8_image_1 fl_X8_23 (show sh 0 = (0, 8, [some 1, some 5, some 31, some 35, none, some 61, some 65, some 71, some 76, some 79, some 83, some 85]) from rfl) rfl ?_
  refine AW.aload_n dX8_image_4 0 rfl rfl ?_
  refine AW.getR dX8_image_5 fl_X8_10 (show sh 0 = (0, 8, [some 1, some 5, some 31, some 35, none, some 61, some 65, some 71, some 76, some 79, some 83, some 85]) from rfl) rfl ?_
  refine AW.callV1v (C_become Γ M 31 1 st31 st1 (by decide)) dX8_image_8 mc_X8_108 (show sh 31 = (0, 5, [some 32, none, some 33, some 34, none, none, none, none]) from rfl) (fun _ => rfl) ⟨Nat.le_of_ble_eq_true rfl, Nat.le_of_ble_eq_true rfl⟩ (Nat.le_of_ble_eq_true rfl) (fun z8 M8 h8 => ?_)
  obtain ⟨f8, r8⟩ := h8
  refine AW.aload_n dX8_image_11 0 rfl rfl ?_
  refine AW.getR dX8_image_12 fl_X8_26 (show sh 0 = (0, 8, [some 1, some 5, some 31, some 35, none, some 61, some 65, some 71, some 76, some 79, some 83, some 85]) from rfl) rfl ?_
  refine AW.aload_n dX8_image_15 0 rfl rfl ?_
  refine AW.getR dX8_image_16 fl_X8_19 (show sh 0 = (0, 8, [some 1, some 5, some 31, some 35, none, some 61, some 65, some 71, some 76, some 79, some 83, some 85]) from rfl) rfl ?_
  refine AW.callV1v (C_pbecome Γ _ 35 5 pa35 pa5 (by decide)) dX8_image_19 mc_X8_248 (show sh 35 = (0, 2, [some 36, none, none]) from rfl) (fun _ => rfl) ⟨Nat.le_of_ble_eq_true rfl, Nat.le_of_ble_eq_true rfl⟩ (Nat.le_of_ble_eq_true rfl) (fun z19 M19 h19 => ?_)
  obtain ⟨f19, r19⟩ := h19
  refine AW.aload_n dX8_image_22 0 rfl rfl ?_
  refine AW.iconst dX8_image_23 ?_
  refine AW.putZ dX8_image_24 fp_X8_29 (show sh 0 = (0, 8, [some 1, some 5, some 31, some 35, none, some 61, some 65, some 71, some 76, some 79, some 83, some 85]) from rfl) rfl (Or.inr rfl) ?_
  refine AW.iconst dX8_image_27 ?_
  exact AW.iret rfl dX8_image_28 ⟨rfl, up2_s, fun j hj => by rw [up2_i hj, f19 0 (by omega), f8 0 (by omega)], fun r ho hs => (((r8 r ho hs).frame (f19 _ (by omega)) (f19 _ (by omega)) (f19 _ (by omega)) (f19 _ (by omega)))).frame (up2_c (by omega)) (up2_c (by omega)) (up2_c (by omega)) (up2_c (by omega)), fun u A h => (r19 u A (h.frame (fun a h1 h2 => f8 a (by omega)))).frame (fun a h1 h2 => up2_c (by omega)), fun a ha => by rw [up2_c (by omega), f19 a (by omega), f8 a (by omega)]⟩

set_option maxRecDepth 20000 in
theorem C_restore (Γ : GC) (M : Mm) (h0 : M 0 4 = 0 ∨ M 0 4 = 1) : Ct Γ uX8_restore [rf Γ 0] M (fun z M' => (M 0 4 = 0 ∧ z = -4 ∧ M' = M) ∨ (¬ M 0 4 = 0 ∧ z = 1 ∧ (∀ r, OkR r → stRel M 31 r → stRel M' 1 r) ∧ (∀ u A, pastRel M 35 u A → pastRel M' 5 u A) ∧ ∀ a : Nat, (a < 1 ∨ 30 < a) → M' a = M a)) := by
  refine Ct.of (by decide) (Nat.le_of_ble_eq_true rfl) ?_
  show AW Γ uX8_restore 0 [(0, rf Γ 0)] [] M _
  refine AW.aload_n dX8_restore_0 0 rfl rfl ?_
  refine AW.getI dX8_restore_1 fl_X8_29 (show sh 0 = (0, 8, [some 1, some 5, some 31, some 35, none, some 61, some 65, some 71, some 76, some 79, some 83, some 85]) from rfl) rfl ?_
  refine AW.if_ne 10 dX8_restore_4 (by decide) (by omega) (fun c4 => ?_) (fun c4 => ?_)
  · refine AW.aload_n dX8_restore_10 0 rfl rfl ?_
    refine AW.getR dX8_restore_11 fl_X8_10 (show sh 0 = (0, 8, [some 1, some 5, some 31, some 35, none, some 61, some 65, some 71, some 76, some 79, some 83, some 85]) from rfl) rfl ?_
    refine AW.aload_n dX8_restore_14 0 rfl rfl ?_
    refine AW.getR dX8_restore_15 fl_X8_23 (show sh 0 = (0, 8, [some 1, some 5, some 31, some 35, none, some 61, some 65, some 71, some 76, some 79, some 83, some 85]) from rfl) rfl ?_
    refine AW.callV1v (C_become Γ M 1 31 st1 st31 (by decide)) dX8_restore_18 mc_X8_108 (show sh 1 = (0, 5, [some 2, none, some 3, some 4, none, none, none, none]) from rfl) (fun _ => rfl) ⟨Nat.le_of_ble_eq_true rfl, Nat.le_of_ble_eq_true rfl⟩ (Nat.le_of_ble_eq_true rfl) (fun z18 M18 h18 => ?_)
    obtain ⟨f18, r18⟩ := h18
    refine AW.aload_n dX8_restore_21 0 rfl rfl ?_
    refine AW.getR dX8_restore_22 fl_X8_19 (show sh 0 = (0, 8, [some 1, some 5, some 31, some 35, none, some 61, some 65, some 71, some 76, some 79, some 83, some 85]) from rfl) rfl ?_
    refine AW.aload_n dX8_restore_25 0 rfl rfl ?_
    refine AW.getR dX8_restore_26 fl_X8_26 (show sh 0 = (0, 8, [some 1, some 5, some 31, some 35, none, some 61, some 65, some 71, some 76, some 79, some 83, some 85]) from rfl) rfl ?_
    refine AW.callV1v (C_pbecome Γ _ 5 35 pa5 pa35 (by decide)) dX8_restore_29 mc_X8_248 (show sh 5 = (0, 2, [some 6, none, none]) from rfl) (fun _ => rfl) ⟨Nat.le_of_ble_eq_true rfl, Nat.le_of_ble_eq_true rfl⟩ (Nat.le_of_ble_eq_true rfl) (fun z29 M29 h29 => ?_)
    obtain ⟨f29, r29⟩ := h29
    refine AW.iconst dX8_restore_32 ?_
    exact AW.iret rfl dX8_restore_33 (Or.inr ⟨c4, rfl, fun r ho hs => (r18 r ho hs).frame (f29 _ (by omega)) (f29 _ (by omega)) (f29 _ (by omega)) (f29 _ (by omega)), fun u A h => r29 u A (h.frame (fun a h1 h2 => f18 a (by omega))), fun a ha => by rw [f29 a (by omega), f18 a (by omega)]⟩)
  · refine AW.bipush (z := (-4)) dX8_restore_7 (by decide) ?_
    exact AW.iret rfl dX8_restore_9 (Or.inl ⟨c4, rfl, rfl⟩)
