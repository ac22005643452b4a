/-! deeds of both sides that may be undone -/
def ntP (M M' : Mm) : Prop := M' 102 = ntA (M 102) (M 97) (M 94 18) ∧ M' 94 18 = nxU (M 94 18) ∧ (∀ j : Nat, j ≠ 18 → M' 94 j = M 94 j) ∧ ∀ a : Nat, a ≠ 94 → a ≠ 102 → M' a = M a
def dP (M M' : Mm) (z : Int) (R : Nat → Int) : Prop := M' 96 = R ∧ M' 102 = (if 0 ≤ z then ntA (M 102) (va_cpy (M 96) (M 97) 0 0 59) (M 94 18) else M 102) ∧ M' 94 18 = (if 0 ≤ z then nxU (M 94 18) else M 94 18) ∧ (∀ j : Nat, j ≠ 18 → M' 94 j = M 94 j) ∧ ∀ a : Nat, a ≠ 94 → a ≠ 96 → a ≠ 97 → a ≠ 102 → M' a = M a

set_option maxRecDepth 20000 in
theorem notes_loop1 (Γ : GC) (M : Mm)  (Q : Int → Mm → Prop) (hx : ∀ x : Int, x = 59 + (295 : Nat) → AW Γ uX9_notes 40 [(1, vi x), (0, rf Γ 94)] [] (upM M 102 (va_cpy (M 102) (M 102) 59 0 295)) Q) : ∀ (n i : Nat) (x : Int), x = 59 + i → i ≤ 295 → 295 - i < n → AW Γ uX9_notes 12 [(1, vi x), (0, rf Γ 94)] [] (upM M 102 (va_cpy (M 102) (M 102) 59 0 i)) Q := by
  intro n
  induction n with
  | zero => intro i x g0 g1 gm; omega
  | succ n ih =>
    intro i x g0 g1 gm
    have cpr : va_cpy (M 102) (M 102) 59 0 i (59 + i) = M 102 (59 + i) := by simp only [va_cpy]; rw [if_neg (by omega)]
    refine AW.iload_n dX9_notes_12 0 rfl rfl ?_
    refine AW.sipush (z := (354)) dX9_notes_13 (by decide) ?_
    refine AW.icmp_ge 40 dX9_notes_16 (by decide) (by omega) (by omega) (fun c16 => ?_) (fun c16 => ?_)
    · refine AW.sub [0, 1] rfl ?_
      rw [show i = 295 by omega]
      exact hx x (by omega)
    · refine AW.aload_n dX9_notes_19 1 rfl rfl ?_
      refine AW.getR dX9_notes_20 fl_X9_31 (show sh 94 = (0, 9, [some 95, some 96, some 97, none, none, none, some 98, some 99, some 100, none, none, none, none, some 101, none, none, none, some 102, none, some 103, some 104, none, some 105, some 106, some 107, some 108]) from rfl) rfl ?_
      refine AW.iload_n dX9_notes_23 0 rfl rfl ?_
      refine AW.bipush (z := (59)) dX9_notes_24 (by decide) ?_
      refine AW.isub dX9_notes_26 ?_
      refine AW.aload_n dX9_notes_27 1 rfl rfl ?_
      refine AW.getR dX9_notes_28 fl_X9_31 (show sh 94 = (0, 9, [some 95, some 96, some 97, none, none, none, some 98, some 99, some 100, none, none, none, none, some 101, none, none, none, some 102, none, some 103, some 104, none, some 105, some 106, some 107, some 108]) from rfl) rfl ?_
      refine AW.iload_n dX9_notes_31 0 rfl rfl ?_
      refine AW.ialdN (59 + i) dX9_notes_32 (show sh 102 = (1, 354, []) from rfl) (by omega) (by omega) (by decide) ?_
      rw [upM_s, cpr]
      refine AW.iastN i dX9_notes_33 (show sh 102 = (1, 354, []) from rfl) (by omega) (by omega) (by decide) ?_
      obtain ⟨x34, ex34⟩ : ∃ z : Int, x + 1 = z := ⟨_, rfl⟩
      refine AW.iinc [(1, vi x34), (0, rf Γ 94)] dX9_notes_34 0 rfl (by decide) x34 ex34 rfl ?_
      refine AW.goto 12 dX9_notes_37 (by decide) ?_
      refine AW.sub [0, 1] rfl ?_
      refine AW.toM (show _ = (upM M 102 (va_cpy (M 102) (M 102) 59 0 (i + 1))) from ?_) (ih (i + 1) x34 (by omega) (by omega) (by omega))
      rw [upM_up2, ← cpy_step]
      simp only [Nat.zero_add]

set_option maxRecDepth 20000 in
theorem notes_loop2 (Γ : GC) (M : Mm) (hu : 0 ≤ M 94 18 ∧ M 94 18 ≤ 5) (Q : Int → Mm → Prop) (hx : ∀ x : Int, x = 0 + (59 : Nat) → AW Γ uX9_notes 79 [(1, vi x), (0, rf Γ 94)] [] (upM M 102 (va_cpy (M 97) (M 102) 0 (59 * (M 94 18).toNat) 59)) Q) : ∀ (n i : Nat) (x : Int), x = 0 + i → i ≤ 59 → 59 - i < n → AW Γ uX9_notes 47 [(1, vi x), (0, rf Γ 94)] [] (upM M 102 (va_cpy (M 97) (M 102) 0 (59 * (M 94 18).toNat) i)) Q := by
  intro n
  induction n with
  | zero => intro i x g0 g1 gm; omega
  | succ n ih =>
    intro i x g0 g1 gm
    refine AW.iload_n dX9_notes_47 0 rfl rfl ?_
    refine AW.bipush (z := (59)) dX9_notes_48 (by decide) ?_
    refine AW.icmp_ge 79 dX9_notes_50 (by decide) (by omega) (by omega) (fun c50 => ?_) (fun c50 => ?_)
    · refine AW.sub [0, 1] rfl ?_
      rw [show i = 59 by omega]
      exact hx x (by omega)
    · refine AW.aload_n dX9_notes_53 1 rfl rfl ?_
      refine AW.getR dX9_notes_54 fl_X9_31 (show sh 94 = (0, 9, [some 95, some 96, some 97, none, none, none, some 98, some 99, some 100, none, none, none, none, some 101, none, none, none, some 102, none, some 103, some 104, none, some 105, some 106, some 107, some 108]) from rfl) rfl ?_
      refine AW.bipush (z := (59)) dX9_notes_57 (by decide) ?_
      refine AW.aload_n dX9_notes_59 1 rfl rfl ?_
      refine AW.getI dX9_notes_60 fl_X9_136 (show sh 94 = (0, 9, [some 95, some 96, some 97, none, none, none, some 98, some 99, some 100, none, none, none, none, some 101, none, none, none, some 102, none, some 103, some 104, none, some 105, some 106, some 107, some 108]) from rfl) rfl ?_
      rw [upM_n (by decide)]
      refine AW.imul dX9_notes_63 ?_
      refine AW.iload_n dX9_notes_64 0 rfl rfl ?_
      refine AW.iadd dX9_notes_65 ?_
      refine AW.aload_n dX9_notes_66 1 rfl rfl ?_
      refine AW.getR dX9_notes_67 fl_X9_16 (show sh 94 = (0, 9, [some 95, some 96, some 97, none, none, none, some 98, some 99, some 100, none, none, none, none, some 101, none, none, none, some 102, none, some 103, some 104, none, some 105, some 106, some 107, some 108]) from rfl) rfl ?_
      refine AW.iload_n dX9_notes_70 0 rfl rfl ?_
      refine AW.ialdN i dX9_notes_71 (show sh 97 = (1, 59, []) from rfl) (by omega) (by omega) (by decide) ?_
      rw [upM_n (by decide)]
      refine AW.iastN (59 * (M 94 18).toNat + i) dX9_notes_72 (show sh 102 = (1, 354, []) from rfl) (by omega) (by omega) (by decide) ?_
      obtain ⟨x73, ex73⟩ : ∃ z : Int, x + 1 = z := ⟨_, rfl⟩
      refine AW.iinc [(1, vi x73), (0, rf Γ 94)] dX9_notes_73 0 rfl (by decide) x73 ex73 rfl ?_
      refine AW.goto 47 dX9_notes_76 (by decide) ?_
      refine AW.sub [0, 1] rfl ?_
      refine AW.toM (show _ = (upM M 102 (va_cpy (M 97) (M 102) 0 (59 * (M 94 18).toNat) (i + 1))) from ?_) (ih (i + 1) x73 (by omega) (by omega) (by omega))
      rw [upM_up2, ← cpy_step]
      simp only [Nat.zero_add]

set_option maxRecDepth 20000 in
theorem C9_notes (Γ : GC) (M : Mm) (hu : 0 ≤ M 94 18 ∧ M 94 18 ≤ 6) : Ct Γ uX9_notes [rf Γ 94] M (fun _ M' => ntP M M') := by
  refine Ct.of (by decide) (Nat.le_of_ble_eq_true rfl) ?_
  show AW Γ uX9_notes 0 [(0, rf Γ 94)] [] M _
  refine AW.aload_n dX9_notes_0 0 rfl rfl ?_
  refine AW.getI dX9_notes_1 fl_X9_136 (show sh 94 = (0, 9, [some 95, some 96, some 97, none, none, none, some 98, some 99, some 100, none, none, none, none, some 101, none, none, none, some 102, none, some 103, some 104, none, some 105, some 106, some 107, some 108]) from rfl) rfl ?_
  refine AW.bipush (z := (6)) dX9_notes_4 (by decide) ?_
  refine AW.icmp_ne 45 dX9_notes_6 (by decide) (by omega) (by omega) (fun c6 => ?_) (fun c6 => ?_)
  · refine AW.iconst dX9_notes_45 ?_
    refine AW.top (fun x46 ex46 => ?_)
    refine AW.istore_n [(1, vi x46), (0, rf Γ 94)] dX9_notes_46 rfl (by decide) rfl ?_
    refine AW.sub [0, 1] rfl ?_
    refine AW.toM (cpy_zero M 102 (M 97) 0 (59 * (M 94 18).toNat)).symm (notes_loop2 Γ M (by omega) _ (fun x hx => ?_) 60 0 x46 (by omega) (by omega) (by omega))
    refine AW.aload_n dX9_notes_79 1 rfl rfl ?_
    refine AW.dup dX9_notes_80 rfl ?_
    refine AW.getI dX9_notes_81 fl_X9_136 (show sh 94 = (0, 9, [some 95, some 96, some 97, none, none, none, some 98, some 99, some 100, none, none, none, none, some 101, none, none, none, some 102, none, some 103, some 104, none, some 105, some 106, some 107, some 108]) from rfl) rfl ?_
    rw [upM_n (by decide)]
    refine AW.iconst dX9_notes_84 ?_
    refine AW.iadd dX9_notes_85 ?_
    refine AW.putI dX9_notes_86 fp_X9_136 (show sh 94 = (0, 9, [some 95, some 96, some 97, none, none, none, some 98, some 99, some 100, none, none, none, none, some 101, none, none, none, some 102, none, some 103, some 104, none, some 105, some 106, some 107, some 108]) from rfl) rfl ?_
    exact AW.vret rfl dX9_notes_89 ⟨by rw [up2_c (by decide), upM_s]; unfold ntA; rw [if_neg c6], by rw [up2_s]; unfold nxU; rw [if_neg c6], fun j hj => by rw [up2_i hj, upM_n (by decide)], fun a h1 h2 => by rw [up2_c h1, upM_n h2]⟩
  · refine AW.bipush (z := (59)) dX9_notes_9 (by decide) ?_
    refine AW.top (fun x11 ex11 => ?_)
    refine AW.istore_n [(1, vi x11), (0, rf Γ 94)] dX9_notes_11 rfl (by decide) rfl ?_
    refine AW.sub [0, 1] rfl ?_
    refine AW.toM (cpy_zero M 102 (M 102) 59 0).symm (notes_loop1 Γ M _ (fun x hx => ?_) 296 0 x11 (by omega) (by omega) (by omega))
    refine AW.aload_n dX9_notes_40 1 rfl rfl ?_
    refine AW.iconst dX9_notes_41 ?_
    refine AW.putI dX9_notes_42 fp_X9_136 (show sh 94 = (0, 9, [some 95, some 96, some 97, none, none, none, some 98, some 99, some 100, none, none, none, none, some 101, none, none, none, some 102, none, some 103, some 104, none, some 105, some 106, some 107, some 108]) from rfl) rfl ?_
    refine AW.iconst dX9_notes_45 ?_
    refine AW.top (fun x46 ex46 => ?_)
    refine AW.istore_n [(1, vi x46), (0, rf Γ 94)] dX9_notes_46 rfl (by decide) rfl ?_
    refine AW.sub [0, 1] rfl ?_
    obtain ⟨M1, hM1⟩ : ∃ q : Mm, q = up2 (upM M 102 (va_cpy (M 102) (M 102) 59 0 295)) 94 18 5 := ⟨_, rfl⟩
    rw [← hM1]
    have u1 : M1 94 18 = 5 := by rw [hM1, up2_s]
    refine AW.toM (cpy_zero M1 102 (M1 97) 0 (59 * (M1 94 18).toNat)).symm (notes_loop2 Γ M1 (by omega) _ (fun x2 hx2 => ?_) 60 0 x46 (by omega) (by omega) (by omega))
    refine AW.aload_n dX9_notes_79 1 rfl rfl ?_
    refine AW.dup dX9_notes_80 rfl ?_
    refine AW.getI dX9_notes_81 fl_X9_136 (show sh 94 = (0, 9, [some 95, some 96, some 97, none, none, none, some 98, some 99, some 100, none, none, none, none, some 101, none, none, none, some 102, none, some 103, some 104, none, some 105, some 106, some 107, some 108]) from rfl) rfl ?_
    rw [upM_n (by decide)]
    refine AW.iconst dX9_notes_84 ?_
    refine AW.iadd dX9_notes_85 ?_
    refine AW.putI dX9_notes_86 fp_X9_136 (show sh 94 = (0, 9, [some 95, some 96, some 97, none, none, none, some 98, some 99, some 100, none, none, none, none, some 101, none, none, none, some 102, none, some 103, some 104, none, some 105, some 106, some 107, some 108]) from rfl) rfl ?_
    exact AW.vret rfl dX9_notes_89 ⟨by rw [up2_c (by decide), upM_s]; unfold ntA; rw [if_pos c6, u1, hM1]; simp [up2, upM], by rw [up2_s, u1]; unfold nxU; rw [if_pos c6]; rfl, fun j hj => by rw [up2_i hj, upM_n (by decide), hM1, up2_i hj, upM_n (by decide)], fun a h1 h2 => by rw [up2_c h1, upM_n h2, hM1, up2_c h1, upM_n h2]⟩

theorem C9_done (Γ : GC) (M : Mm) (hu : 0 ≤ M 94 18 ∧ M 94 18 ≤ 6) (v : Int) (hv : R32 v) : Ct Γ uX9_done [rf Γ 94, vi v] M (fun z M' => z = v ∧ (0 ≤ v → ntP M M') ∧ (v < 0 → M' = M)) := by
  refine Ct.of (by decide) (Nat.le_of_ble_eq_true rfl) ?_
  show AW Γ uX9_done 0 [(0, rf Γ 94), (1, vi v)] [] M _
  refine AW.iload_n dX9_done_0 1 rfl rfl ?_
  refine AW.if_lt 8 dX9_done_1 (by decide) (by omega) (fun c1 => ?_) (fun c1 => ?_)
  · refine AW.iload_n dX9_done_8 1 rfl rfl ?_
    exact AW.iret rfl dX9_done_9 ⟨rfl, fun q => absurd c1 (by omega), fun _ => rfl⟩
  · refine AW.aload_n dX9_done_4 0 rfl rfl ?_
    refine AW.callV0v (C9_notes Γ M hu) dX9_done_5 mc_X9_108 (show sh 94 = (0, 9, [some 95, some 96, some 97, none, none, none, some 98, some 99, some 100, none, none, none, none, some 101, none, none, none, some 102, none, some 103, some 104, none, some 105, some 106, some 107, some 108]) from rfl) (fun _ => rfl) ⟨Nat.le_of_ble_eq_true rfl, Nat.le_of_ble_eq_true rfl⟩ (Nat.le_of_ble_eq_true rfl) (fun z5 M5 h5 => ?_)
    refine AW.iload_n dX9_done_8 1 rfl rfl ?_
    exact AW.iret rfl dX9_done_9 ⟨rfl, fun _ => h5, fun q => absurd c1 (by omega)⟩

theorem sayZ_r {r : Nat → Int} (ho : OkR r) (c : Int) : R32 (sayZ r c) := by
  have := ho.1; unfold sayZ; (repeat' split) <;> constructor <;> omega
theorem backZ_r {r : Nat → Int} (ho : OkR r) : R32 (backZ r) := by
  have := ho.1; unfold backZ; split
  · constructor <;> omega
  · have := ho.2.2.2.2.2.1 (r 0 - 1).toNat (by omega); constructor <;> omega
theorem keepZ_r {r : Nat → Int} (ho : OkR r) : R32 (keepZ r) := by
  have := ho.2.1; unfold keepZ; (repeat' split) <;> constructor <;> omega
theorem loseZ_r {r : Nat → Int} (ho : OkR r) (c : Int) : R32 (loseZ r c) := by
  have := ho.2.1; unfold loseZ; (repeat' split) <;> constructor <;> omega
theorem callZ_r {r : Nat → Int} (ho : OkR r) (c : Int) : R32 (callZ r c) := by
  have := ho.1; unfold callZ; split
  · have := (ho.2.2.2.2.2.2 c.toNat (by omega)).1; split <;> constructor <;> omega
  · constructor <;> omega
theorem tellZ_r {r : Nat → Int} (ho : OkR r) (c v : Int) : R32 (tellZ r c v) := by
  have h2 := ho.2.2.1; have h3 := ho.2.2.2.1; unfold tellZ; split
  · rcases (show c = 0 ∨ c = 1 by omega) with rfl | rfl <;> simp <;> split <;> constructor <;> omega
  · constructor <;> omega

theorem dP_of {M M' : Mm} {z : Int} {R : Nat → Int} (h1 : 0 ≤ z → ntP (upM (upM M 97 (va_cpy (M 96) (M 97) 0 0 59)) 96 R) M') (h2 : z < 0 → M' = upM (upM M 97 (va_cpy (M 96) (M 97) 0 0 59)) 96 R) : dP M M' z R := by
  by_cases hz : 0 ≤ z
  · obtain ⟨a1, a2, a3, a4⟩ := h1 hz
    refine ⟨by rw [a4 96 (by decide) (by decide), upM_s], ?_, ?_, fun j hj => ?_, fun a b1 b2 b3 b4 => ?_⟩
    · rw [a1, if_pos hz]; simp [upM]
    · rw [a2, if_pos hz]; simp [upM]
    · rw [a3 j hj, upM_n (by decide), upM_n (by decide)]
    · rw [a4 a b1 b4, upM_n b2, upM_n b3]
  · rw [h2 (by omega)]
    refine ⟨upM_s, ?_, ?_, fun j hj => ?_, fun a b1 b2 b3 b4 => ?_⟩
    · rw [if_neg hz, upM_n (by decide), upM_n (by decide)]
    · rw [if_neg hz, upM_n (by decide), upM_n (by decide)]
    · rw [upM_n (by decide), upM_n (by decide)]
    · rw [upM_n b2, upM_n b3]

set_option maxRecDepth 20000 in
theorem C9_say (Γ : GC) (M : Mm) (ho : OkR (M 96)) (hu : 0 ≤ M 94 18 ∧ M 94 18 ≤ 6) (c : Int) (hc : R32 c) : Ct Γ uX9_say [rf Γ 94, vi c] M (fun z M' => z = sayZ (M 96) c ∧ dP M M' (sayZ (M 96) c) (sayR (M 96) c)) := by
  refine Ct.of (by decide) (Nat.le_of_ble_eq_true rfl) ?_
  show AW Γ uX9_say 0 [(0, rf Γ 94), (1, vi c)] [] M _
  refine AW.aload_n dX9_say_0 0 rfl rfl ?_
  refine AW.callV0v (C9_holds Γ M) dX9_say_1 mc_X9_111 (show sh 94 = (0, 9, [some 95, some 96, some 97, none, none, none, some 98, some 99, some 100, none, none, none, none, some 101, none, none, none, some 102, none, some 103, some 104, none, some 105, some 106, some 107, some 108]) from rfl) (fun _ => rfl) ⟨Nat.le_of_ble_eq_true rfl, Nat.le_of_ble_eq_true rfl⟩ (Nat.le_of_ble_eq_true rfl) (fun z1 M1 h1 => ?_)
  subst h1
  have r1 : upM M 97 (va_cpy (M 96) (M 97) 0 0 59) 96 = M 96 := upM_n (by decide)
  refine AW.aload_n dX9_say_4 0 rfl rfl ?_
  refine AW.aload_n dX9_say_5 0 rfl rfl ?_
  refine AW.iload_n dX9_say_6 1 rfl rfl ?_
  refine AW.callV1i (C9_says Γ _ (by rw [r1]; exact ho) _ hc) dX9_say_7 mc_X9_114 (show sh 94 = (0, 9, [some 95, some 96, some 97, none, none, none, some 98, some 99, some 100, none, none, none, none, some 101, none, none, none, some 102, none, some 103, some 104, none, some 105, some 106, some 107, some 108]) from rfl) (fun _ => rfl) ⟨Nat.le_of_ble_eq_true rfl, Nat.le_of_ble_eq_true rfl⟩ (Nat.le_of_ble_eq_true rfl) (fun z7 M7 h7 => ?_)
  obtain ⟨e7, m7⟩ := h7
  subst m7
  rw [r1] at e7 ⊢
  subst e7
  refine AW.callV1i (C9_done Γ _ (by rw [upM_n (by decide), upM_n (by decide)]; exact hu) _ (sayZ_r ho c)) dX9_say_10 mc_X9_117 (show sh 94 = (0, 9, [some 95, some 96, some 97, none, none, none, some 98, some 99, some 100, none, none, none, none, some 101, none, none, none, some 102, none, some 103, some 104, none, some 105, some 106, some 107, some 108]) from rfl) (fun _ => rfl) ⟨Nat.le_of_ble_eq_true rfl, Nat.le_of_ble_eq_true rfl⟩ (Nat.le_of_ble_eq_true rfl) (fun z10 M10 h10 => ?_)
  obtain ⟨e10, y10, n10⟩ := h10
  exact AW.iret rfl dX9_say_13 ⟨e10, dP_of y10 n10⟩


set_option maxRecDepth 20000 in
theorem C9_back (Γ : GC) (M : Mm) (ho : OkR (M 96)) (hu : 0 ≤ M 94 18 ∧ M 94 18 ≤ 6)  : Ct Γ uX9_back [rf Γ 94] M (fun z M' => z = backZ (M 96) ∧ dP M M' (backZ (M 96)) (backR (M 96))) := by
  refine Ct.of (by decide) (Nat.le_of_ble_eq_true rfl) ?_
  show AW Γ uX9_back 0 [(0, rf Γ 94)] [] M _
  refine AW.aload_n dX9_back_0 0 rfl rfl ?_
  refine AW.callV0v (C9_holds Γ M) dX9_back_1 mc_X9_111 (show sh 94 = (0, 9, [some 95, some 96, some 97, none, none, none, some 98, some 99, some 100, none, none, none, none, some 101, none, none, none, some 102, none, some 103, some 104, none, some 105, some 106, some 107, some 108]) from rfl) (fun _ => rfl) ⟨Nat.le_of_ble_eq_true rfl, Nat.le_of_ble_eq_true rfl⟩ (Nat.le_of_ble_eq_true rfl) (fun z1 M1 h1 => ?_)
  subst h1
  have r1 : upM M 97 (va_cpy (M 96) (M 97) 0 0 59) 96 = M 96 := upM_n (by decide)
  refine AW.aload_n dX9_back_4 0 rfl rfl ?_
  refine AW.aload_n dX9_back_5 0 rfl rfl ?_
  refine AW.callV0i (C9_takesBack Γ _ (by rw [r1]; exact ho) ) dX9_back_6 mc_X9_120 (show sh 94 = (0, 9, [some 95, some 96, some 97, none, none, none, some 98, some 99, some 100, none, none, none, none, some 101, none, none, none, some 102, none, some 103, some 104, none, some 105, some 106, some 107, some 108]) from rfl) (fun _ => rfl) ⟨Nat.le_of_ble_eq_true rfl, Nat.le_of_ble_eq_true rfl⟩ (Nat.le_of_ble_eq_true rfl) (fun z6 M6 h6 => ?_)
  obtain ⟨e6, m6⟩ := h6
  subst m6
  rw [r1] at e6 ⊢
  subst e6
  refine AW.callV1i (C9_done Γ _ (by rw [upM_n (by decide), upM_n (by decide)]; exact hu) _ (backZ_r ho )) dX9_back_9 mc_X9_117 (show sh 94 = (0, 9, [some 95, some 96, some 97, none, none, none, some 98, some 99, some 100, none, none, none, none, some 101, none, none, none, some 102, none, some 103, some 104, none, some 105, some 106, some 107, some 108]) from rfl) (fun _ => rfl) ⟨Nat.le_of_ble_eq_true rfl, Nat.le_of_ble_eq_true rfl⟩ (Nat.le_of_ble_eq_true rfl) (fun z9 M9 h9 => ?_)
  obtain ⟨e9, y9, n9⟩ := h9
  exact AW.iret rfl dX9_back_12 ⟨e9, dP_of y9 n9⟩


set_option maxRecDepth 20000 in
theorem C9_keep (Γ : GC) (M : Mm) (ho : OkR (M 96)) (hu : 0 ≤ M 94 18 ∧ M 94 18 ≤ 6)  : Ct Γ uX9_keep [rf Γ 94] M (fun z M' => z = keepZ (M 96) ∧ dP M M' (keepZ (M 96)) (keepR (M 96))) := by
  refine Ct.of (by decide) (Nat.le_of_ble_eq_true rfl) ?_
  show AW Γ uX9_keep 0 [(0, rf Γ 94)] [] M _
  refine AW.aload_n dX9_keep_0 0 rfl rfl ?_
  refine AW.callV0v (C9_holds Γ M) dX9_keep_1 mc_X9_111 (show sh 94 = (0, 9, [some 95, some 96, some 97, none, none, none, some 98, some 99, some 100, none, none, none, none, some 101, none, none, none, some 102, none, some 103, some 104, none, some 105, some 106, some 107, some 108]) from rfl) (fun _ => rfl) ⟨Nat.le_of_ble_eq_true rfl, Nat.le_of_ble_eq_true rfl⟩ (Nat.le_of_ble_eq_true rfl) (fun z1 M1 h1 => ?_)
  subst h1
  have r1 : upM M 97 (va_cpy (M 96) (M 97) 0 0 59) 96 = M 96 := upM_n (by decide)
  refine AW.aload_n dX9_keep_4 0 rfl rfl ?_
  refine AW.aload_n dX9_keep_5 0 rfl rfl ?_
  refine AW.callV0i (C9_keeps Γ _ (by rw [r1]; exact ho) ) dX9_keep_6 mc_X9_124 (show sh 94 = (0, 9, [some 95, some 96, some 97, none, none, none, some 98, some 99, some 100, none, none, none, none, some 101, none, none, none, some 102, none, some 103, some 104, none, some 105, some 106, some 107, some 108]) from rfl) (fun _ => rfl) ⟨Nat.le_of_ble_eq_true rfl, Nat.le_of_ble_eq_true rfl⟩ (Nat.le_of_ble_eq_true rfl) (fun z6 M6 h6 => ?_)
  obtain ⟨e6, m6⟩ := h6
  subst m6
  rw [r1] at e6 ⊢
  subst e6
  refine AW.callV1i (C9_done Γ _ (by rw [upM_n (by decide), upM_n (by decide)]; exact hu) _ (keepZ_r ho )) dX9_keep_9 mc_X9_117 (show sh 94 = (0, 9, [some 95, some 96, some 97, none, none, none, some 98, some 99, some 100, none, none, none, none, some 101, none, none, none, some 102, none, some 103, some 104, none, some 105, some 106, some 107, some 108]) from rfl) (fun _ => rfl) ⟨Nat.le_of_ble_eq_true rfl, Nat.le_of_ble_eq_true rfl⟩ (Nat.le_of_ble_eq_true rfl) (fun z9 M9 h9 => ?_)
  obtain ⟨e9, y9, n9⟩ := h9
  exact AW.iret rfl dX9_keep_12 ⟨e9, dP_of y9 n9⟩


set_option maxRecDepth 20000 in
theorem C9_lose (Γ : GC) (M : Mm) (ho : OkR (M 96)) (hu : 0 ≤ M 94 18 ∧ M 94 18 ≤ 6) (c : Int) (hc : R32 c) : Ct Γ uX9_lose [rf Γ 94, vi c] M (fun z M' => z = loseZ (M 96) c ∧ dP M M' (loseZ (M 96) c) (loseR (M 96) c)) := by
  refine Ct.of (by decide) (Nat.le_of_ble_eq_true rfl) ?_
  show AW Γ uX9_lose 0 [(0, rf Γ 94), (1, vi c)] [] M _
  refine AW.aload_n dX9_lose_0 0 rfl rfl ?_
  refine AW.callV0v (C9_holds Γ M) dX9_lose_1 mc_X9_111 (show sh 94 = (0, 9, [some 95, some 96, some 97, none, none, none, some 98, some 99, some 100, none, none, none, none, some 101, none, none, none, some 102, none, some 103, some 104, none, some 105, some 106, some 107, some 108]) from rfl) (fun _ => rfl) ⟨Nat.le_of_ble_eq_true rfl, Nat.le_of_ble_eq_true rfl⟩ (Nat.le_of_ble_eq_true rfl) (fun z1 M1 h1 => ?_)
  subst h1
  have r1 : upM M 97 (va_cpy (M 96) (M 97) 0 0 59) 96 = M 96 := upM_n (by decide)
  refine AW.aload_n dX9_lose_4 0 rfl rfl ?_
  refine AW.aload_n dX9_lose_5 0 rfl rfl ?_
  refine AW.iload_n dX9_lose_6 1 rfl rfl ?_
  refine AW.callV1i (C9_loses Γ _ (by rw [r1]; exact ho) _ hc) dX9_lose_7 mc_X9_127 (show sh 94 = (0, 9, [some 95, some 96, some 97, none, none, none, some 98, some 99, some 100, none, none, none, none, some 101, none, none, none, some 102, none, some 103, some 104, none, some 105, some 106, some 107, some 108]) from rfl) (fun _ => rfl) ⟨Nat.le_of_ble_eq_true rfl, Nat.le_of_ble_eq_true rfl⟩ (Nat.le_of_ble_eq_true rfl) (fun z7 M7 h7 => ?_)
  obtain ⟨e7, m7⟩ := h7
  subst m7
  rw [r1] at e7 ⊢
  subst e7
  refine AW.callV1i (C9_done Γ _ (by rw [upM_n (by decide), upM_n (by decide)]; exact hu) _ (loseZ_r ho c)) dX9_lose_10 mc_X9_117 (show sh 94 = (0, 9, [some 95, some 96, some 97, none, none, none, some 98, some 99, some 100, none, none, none, none, some 101, none, none, none, some 102, none, some 103, some 104, none, some 105, some 106, some 107, some 108]) from rfl) (fun _ => rfl) ⟨Nat.le_of_ble_eq_true rfl, Nat.le_of_ble_eq_true rfl⟩ (Nat.le_of_ble_eq_true rfl) (fun z10 M10 h10 => ?_)
  obtain ⟨e10, y10, n10⟩ := h10
  exact AW.iret rfl dX9_lose_13 ⟨e10, dP_of y10 n10⟩


set_option maxRecDepth 20000 in
theorem C9_call (Γ : GC) (M : Mm) (ho : OkR (M 96)) (hu : 0 ≤ M 94 18 ∧ M 94 18 ≤ 6) (c : Int) (hc : R32 c) : Ct Γ uX9_call [rf Γ 94, vi c] M (fun z M' => z = callZ (M 96) c ∧ dP M M' (callZ (M 96) c) (callR (M 96) c)) := by
  refine Ct.of (by decide) (Nat.le_of_ble_eq_true rfl) ?_
  show AW Γ uX9_call 0 [(0, rf Γ 94), (1, vi c)] [] M _
  refine AW.aload_n dX9_call_0 0 rfl rfl ?_
  refine AW.callV0v (C9_holds Γ M) dX9_call_1 mc_X9_111 (show sh 94 = (0, 9, [some 95, some 96, some 97, none, none, none, some 98, some 99, some 100, none, none, none, none, some 101, none, none, none, some 102, none, some 103, some 104, none, some 105, some 106, some 107, some 108]) from rfl) (fun _ => rfl) ⟨Nat.le_of_ble_eq_true rfl, Nat.le_of_ble_eq_true rfl⟩ (Nat.le_of_ble_eq_true rfl) (fun z1 M1 h1 => ?_)
  subst h1
  have r1 : upM M 97 (va_cpy (M 96) (M 97) 0 0 59) 96 = M 96 := upM_n (by decide)
  refine AW.aload_n dX9_call_4 0 rfl rfl ?_
  refine AW.aload_n dX9_call_5 0 rfl rfl ?_
  refine AW.iload_n dX9_call_6 1 rfl rfl ?_
  refine AW.callV1i (C9_calls Γ _ (by rw [r1]; exact ho) _ hc) dX9_call_7 mc_X9_130 (show sh 94 = (0, 9, [some 95, some 96, some 97, none, none, none, some 98, some 99, some 100, none, none, none, none, some 101, none, none, none, some 102, none, some 103, some 104, none, some 105, some 106, some 107, some 108]) from rfl) (fun _ => rfl) ⟨Nat.le_of_ble_eq_true rfl, Nat.le_of_ble_eq_true rfl⟩ (Nat.le_of_ble_eq_true rfl) (fun z7 M7 h7 => ?_)
  obtain ⟨e7, m7⟩ := h7
  subst m7
  rw [r1] at e7 ⊢
  subst e7
  refine AW.callV1i (C9_done Γ _ (by rw [upM_n (by decide), upM_n (by decide)]; exact hu) _ (callZ_r ho c)) dX9_call_10 mc_X9_117 (show sh 94 = (0, 9, [some 95, some 96, some 97, none, none, none, some 98, some 99, some 100, none, none, none, none, some 101, none, none, none, some 102, none, some 103, some 104, none, some 105, some 106, some 107, some 108]) from rfl) (fun _ => rfl) ⟨Nat.le_of_ble_eq_true rfl, Nat.le_of_ble_eq_true rfl⟩ (Nat.le_of_ble_eq_true rfl) (fun z10 M10 h10 => ?_)
  obtain ⟨e10, y10, n10⟩ := h10
  exact AW.iret rfl dX9_call_13 ⟨e10, dP_of y10 n10⟩


set_option maxRecDepth 20000 in
theorem C9_tell (Γ : GC) (M : Mm) (ho : OkR (M 96)) (hu : 0 ≤ M 94 18 ∧ M 94 18 ≤ 6) (c v : Int) (hc : R32 c) (hv : R32 v) : Ct Γ uX9_tell [rf Γ 94, vi c, vi v] M (fun z M' => z = tellZ (M 96) c v ∧ dP M M' (tellZ (M 96) c v) (tellR (M 96) c v)) := by
  refine Ct.of (by decide) (Nat.le_of_ble_eq_true rfl) ?_
  show AW Γ uX9_tell 0 [(0, rf Γ 94), (1, vi c), (2, vi v)] [] M _
  refine AW.aload_n dX9_tell_0 0 rfl rfl ?_
  refine AW.callV0v (C9_holds Γ M) dX9_tell_1 mc_X9_111 (show sh 94 = (0, 9, [some 95, some 96, some 97, none, none, none, some 98, some 99, some 100, none, none, none, none, some 101, none, none, none, some 102, none, some 103, some 104, none, some 105, some 106, some 107, some 108]) from rfl) (fun _ => rfl) ⟨Nat.le_of_ble_eq_true rfl, Nat.le_of_ble_eq_true rfl⟩ (Nat.le_of_ble_eq_true rfl) (fun z1 M1 h1 => ?_)
  subst h1
  have r1 : upM M 97 (va_cpy (M 96) (M 97) 0 0 59) 96 = M 96 := upM_n (by decide)
  refine AW.aload_n dX9_tell_4 0 rfl rfl ?_
  refine AW.aload_n dX9_tell_5 0 rfl rfl ?_
  refine AW.iload_n dX9_tell_6 1 rfl rfl ?_
  refine AW.iload_n dX9_tell_7 2 rfl rfl ?_
  refine AW.callV2i (C9_tells Γ _ (by rw [r1]; exact ho) _ _ hc hv) dX9_tell_8 mc_X9_133 (show sh 94 = (0, 9, [some 95, some 96, some 97, none, none, none, some 98, some 99, some 100, none, none, none, none, some 101, none, none, none, some 102, none, some 103, some 104, none, some 105, some 106, some 107, some 108]) from rfl) (fun _ => rfl) ⟨Nat.le_of_ble_eq_true rfl, Nat.le_of_ble_eq_true rfl⟩ (Nat.le_of_ble_eq_true rfl) (fun z8 M8 h8 => ?_)
  obtain ⟨e8, m8⟩ := h8
  subst m8
  rw [r1] at e8 ⊢
  subst e8
  refine AW.callV1i (C9_done Γ _ (by rw [upM_n (by decide), upM_n (by decide)]; exact hu) _ (tellZ_r ho c v)) dX9_tell_11 mc_X9_117 (show sh 94 = (0, 9, [some 95, some 96, some 97, none, none, none, some 98, some 99, some 100, none, none, none, none, some 101, none, none, none, some 102, none, some 103, some 104, none, some 105, some 106, some 107, some 108]) from rfl) (fun _ => rfl) ⟨Nat.le_of_ble_eq_true rfl, Nat.le_of_ble_eq_true rfl⟩ (Nat.le_of_ble_eq_true rfl) (fun z11 M11 h11 => ?_)
  obtain ⟨e11, y11, n11⟩ := h11
  exact AW.iret rfl dX9_tell_14 ⟨e11, dP_of y11 n11⟩
