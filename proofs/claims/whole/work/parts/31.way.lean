/-! THE WAY, as the class finds it: efforts from the last sign back, sides from the first one on -/
def dirP (r : Nat → Int) : Nat → Nat → Int
  | 0, _ => 0
  | j + 1, t => if t = 0 then mLo r j else mHi r j
theorem dirP_d (r : Nat → Int) : ∀ p t : Nat, D8 (dirP r p t)
  | 0, _ => ⟨by simp [dirP], by simp [dirP]⟩
  | j + 1, t => by
    show D8 (if t = 0 then mLo r j else mHi r j)
    split
    · exact tl_b _
    · exact tg_b _
def legP (r : Nat → Int) (p s t : Nat) : Int := r 2 * stepsP (dirP r p s) (dirP r (p + 1) t) + r 3 * stepsP (dirP r p (1 - s)) (dirP r (p + 1) (1 - t))
theorem legP_b {r : Nat → Int} (ho : OkR r) (p s t : Nat) : 0 ≤ legP r p s t ∧ legP r p s t ≤ 32 := by
  have h1 := stepsP_b (dirP_d r p s) (dirP_d r (p + 1) t); have h2 := stepsP_b (dirP_d r p (1 - s)) (dirP_d r (p + 1) (1 - t))
  have h3 := ho.2.2.1; have h4 := ho.2.2.2.1
  unfold legP
  have m1 : 0 ≤ r 2 * stepsP (dirP r p s) (dirP r (p + 1) t) := Int.mul_nonneg (by omega) h1.1
  have m2 : 0 ≤ r 3 * stepsP (dirP r p (1 - s)) (dirP r (p + 1) (1 - t)) := Int.mul_nonneg (by omega) h2.1
  have m3 : r 2 * stepsP (dirP r p s) (dirP r (p + 1) t) ≤ 4 * 4 := Int.mul_le_mul (by omega) h1.2 h1.1 (by omega)
  have m4 : r 3 * stepsP (dirP r p (1 - s)) (dirP r (p + 1) (1 - t)) ≤ 4 * 4 := Int.mul_le_mul (by omega) h2.2 h2.1 (by omega)
  omega
def EF (r : Nat → Int) (n : Nat) : Nat → Nat → Int
  | 0, _ => 0
  | m + 1, s => min (legP r (n - (m + 1)) s 0 + EF r n m 0) (legP r (n - (m + 1)) s 1 + EF r n m 1)
def WF (r : Nat → Int) (n : Nat) : Nat → Nat → Int
  | 0, _ => 1
  | m + 1, s => (if legP r (n - (m + 1)) s 0 + EF r n m 0 ≤ legP r (n - (m + 1)) s 1 + EF r n m 1 then WF r n m 0 else 0) + (if legP r (n - (m + 1)) s 1 + EF r n m 1 ≤ legP r (n - (m + 1)) s 0 + EF r n m 0 then WF r n m 1 else 0)
theorem EF_b {r : Nat → Int} (ho : OkR r) (n : Nat) : ∀ m s : Nat, 0 ≤ EF r n m s ∧ EF r n m s ≤ 32 * m
  | 0, _ => by simp [EF]
  | m + 1, s => by
    have h0 := EF_b ho n m 0; have h1 := EF_b ho n m 1
    have l0 := legP_b ho (n - (m + 1)) s 0; have l1 := legP_b ho (n - (m + 1)) s 1
    simp only [EF]; omega
theorem WF_b (r : Nat → Int) (n : Nat) : ∀ m s : Nat, 0 ≤ WF r n m s ∧ WF r n m s ≤ 2 ^ m
  | 0, _ => by simp [WF]
  | m + 1, s => by
    have h0 := WF_b r n m 0; have h1 := WF_b r n m 1
    simp only [WF]
    have : (2 : Int) ^ (m + 1) = 2 ^ m + 2 ^ m := by rw [Int.pow_succ]; omega
    (repeat' split) <;> omega
def sdF (r : Nat → Int) (n : Nat) : Nat → Nat
  | 0 => 0
  | p + 1 => if legP r p (sdF r n p) 0 + EF r n (n - (p + 1)) 0 = EF r n (n - p) (sdF r n p) then 0 else 1
theorem sdF_2 (r : Nat → Int) (n : Nat) : ∀ p : Nat, sdF r n p < 2
  | 0 => by simp [sdF]
  | p + 1 => by simp only [sdF]; split <;> omega
/-- the two rows of directions -/
def wayD (M : Mm) (r : Nat → Int) : Prop := M 65 5 = r 0 ∧ ∀ p : Nat, (p : Int) ≤ r 0 → M 66 p = dirP r p 0 ∧ M 67 p = dirP r p 1
theorem wayD.frame {M M' : Mm} {r : Nat → Int} (h : wayD M r) (h5 : M' 65 = M 65) (h6 : M' 66 = M 66) (h7 : M' 67 = M 67) : wayD M' r := by
  unfold wayD; rw [h5, h6, h7]; exact h
theorem dirP_01 (r : Nat → Int) (p t : Nat) (ht : t < 2) (a b : Int) (h : a = dirP r p 0 ∧ b = dirP r p 1) : (if t = 0 then a else b) = dirP r p t := by
  rcases (show t = 0 ∨ t = 1 by omega) with rfl | rfl
  · exact h.1
  · exact h.2

set_option maxRecDepth 20000 in
theorem C_dirOf (Γ : GC) (M : Mm) (r : Nat → Int) (hw : wayD M r) (x y : Int) (p t : Nat) (hx : x = p) (hy : y = t) (hp : (p : Int) ≤ r 0) (hp2 : p ≤ 12) (ht : t < 2) : Ct Γ uX7_dirOf [rf Γ 65, vi x, vi y] M (Pu (dirP r p t) M) := by
  refine Ct.of (by decide) (Nat.le_of_ble_eq_true rfl) ?_
  show AW Γ uX7_dirOf 0 [(0, rf Γ 65), (1, vi x), (2, vi y)] [] M _
  refine AW.iload_n dX7_dirOf_0 2 rfl rfl ?_
  refine AW.if_ne 13 dX7_dirOf_1 (by decide) (by omega) (fun c1 => ?_) (fun c1 => ?_)
  · refine AW.aload_n dX7_dirOf_13 0 rfl rfl ?_
    refine AW.getR dX7_dirOf_14 fl_X7_15 (show sh 65 = (0, 7, [some 66, some 67, some 68, some 69, some 70, none]) from rfl) rfl ?_
    refine AW.iload_n dX7_dirOf_17 1 rfl rfl ?_
    refine AW.ialdN p dX7_dirOf_18 (show sh 67 = (1, 13, []) from rfl) (by omega) (by omega) (by decide) ?_
    exact AW.iret rfl dX7_dirOf_19 ⟨by rw [← dirP_01 r p t ht _ _ (hw.2 p hp)]; first | rw [if_pos (by omega)] | rw [if_neg (by omega)], rfl⟩
  · refine AW.aload_n dX7_dirOf_4 0 rfl rfl ?_
    refine AW.getR dX7_dirOf_5 fl_X7_9 (show sh 65 = (0, 7, [some 66, some 67, some 68, some 69, some 70, none]) from rfl) rfl ?_
    refine AW.iload_n dX7_dirOf_8 1 rfl rfl ?_
    refine AW.ialdN p dX7_dirOf_9 (show sh 66 = (1, 13, []) from rfl) (by omega) (by omega) (by decide) ?_
    refine AW.goto 19 dX7_dirOf_10 (by decide) ?_
    exact AW.iret rfl dX7_dirOf_19 ⟨by rw [← dirP_01 r p t ht _ _ (hw.2 p hp)]; first | rw [if_pos (by omega)] | rw [if_neg (by omega)], rfl⟩

set_option maxRecDepth 20000 in
theorem C_effortBy (Γ : GC) (M : Mm) (r : Nat → Int) (ho : OkR r) (hr : stRel M 1 r) (hw : wayD M r) (x y z : Int) (p s t : Nat) (hx : x = p) (hy : y = s) (hz : z = t) (hp : (p : Int) < r 0) (hs : s < 2) (ht : t < 2) : Ct Γ uX7_effortBy [rf Γ 65, rf Γ 1, vi x, vi y, vi z] M (Pu (legP r p s t + M 68 (2 * (p + 1) + t)) M) := by
  refine Ct.of (by decide) (Nat.le_of_ble_eq_true rfl) ?_
  show AW Γ uX7_effortBy 0 [(0, rf Γ 65), (1, rf Γ 1), (2, vi x), (3, vi y), (4, vi z)] [] M _
  obtain ⟨h1, h2, h3, h4, h5, h6, h7⟩ := st1u hr
  obtain ⟨o0, o1, o2, o3, o4, o5, o6⟩ := id ho
  refine AW.iload_n dX7_effortBy_0 2 rfl rfl ?_
  refine AW.iconst dX7_effortBy_1 ?_
  refine AW.iadd dX7_effortBy_2 ?_
  refine AW.top (fun nx enx => ?_)
  refine AW.istore [(5, vi nx), (0, rf Γ 65), (1, rf Γ 1), (2, vi x), (3, vi y), (4, vi z)] dX7_effortBy_3 (by decide) rfl ?_
  refine AW.aload_n dX7_effortBy_5 1 rfl rfl ?_
  refine AW.iload dX7_effortBy_6 0 rfl ?_
  refine AW.iload dX7_effortBy_8 5 rfl ?_
  refine AW.callV2ip (C_dirOf Γ M r hw _ _ (p + 1) (t) (by omega) (by omega) (by omega) (by omega) (by omega)) dX7_effortBy_10 mc_X7_62 (show sh 65 = (0, 7, [some 66, some 67, some 68, some 69, some 70, none]) from rfl) (fun _ => rfl) ⟨Nat.le_of_ble_eq_true rfl, Nat.le_of_ble_eq_true rfl⟩ (Nat.le_of_ble_eq_true rfl) ?_
  refine AW.top (fun lf elf => ?_)
  refine AW.istore [(6, vi lf), (5, vi nx), (0, rf Γ 65), (1, rf Γ 1), (2, vi x), (3, vi y), (4, vi z)] dX7_effortBy_13 (by decide) rfl ?_
  refine AW.aload_n dX7_effortBy_15 2 rfl rfl ?_
  refine AW.iload dX7_effortBy_16 1 rfl ?_
  refine AW.iconst dX7_effortBy_18 ?_
  refine AW.iload dX7_effortBy_19 6 rfl ?_
  refine AW.isub dX7_effortBy_21 ?_
  refine AW.callV2ip (C_dirOf Γ M r hw _ _ (p + 1) (1 - t) (by omega) (by omega) (by omega) (by omega) (by omega)) dX7_effortBy_22 mc_X7_62 (show sh 65 = (0, 7, [some 66, some 67, some 68, some 69, some 70, none]) from rfl) (fun _ => rfl) ⟨Nat.le_of_ble_eq_true rfl, Nat.le_of_ble_eq_true rfl⟩ (Nat.le_of_ble_eq_true rfl) ?_
  refine AW.top (fun rg erg => ?_)
  refine AW.istore [(7, vi rg), (6, vi lf), (5, vi nx), (0, rf Γ 65), (1, rf Γ 1), (2, vi x), (3, vi y), (4, vi z)] dX7_effortBy_25 (by decide) rfl ?_
  refine AW.aload_n dX7_effortBy_27 4 rfl rfl ?_
  refine AW.aload_n dX7_effortBy_28 3 rfl rfl ?_
  refine AW.iload_n dX7_effortBy_29 5 rfl rfl ?_
  refine AW.iload_n dX7_effortBy_30 6 rfl rfl ?_
  refine AW.callV2ip (C_dirOf Γ M r hw _ _ (p) (s) (by omega) (by omega) (by omega) (by omega) (by omega)) dX7_effortBy_31 mc_X7_62 (show sh 65 = (0, 7, [some 66, some 67, some 68, some 69, some 70, none]) from rfl) (fun _ => rfl) ⟨Nat.le_of_ble_eq_true rfl, Nat.le_of_ble_eq_true rfl⟩ (Nat.le_of_ble_eq_true rfl) ?_
  refine AW.aload_n dX7_effortBy_34 3 rfl rfl ?_
  refine AW.iload_n dX7_effortBy_35 5 rfl rfl ?_
  refine AW.iconst dX7_effortBy_36 ?_
  refine AW.iload_n dX7_effortBy_37 6 rfl rfl ?_
  refine AW.isub dX7_effortBy_38 ?_
  refine AW.callV2ip (C_dirOf Γ M r hw _ _ (p) (1 - s) (by omega) (by omega) (by omega) (by omega) (by omega)) dX7_effortBy_39 mc_X7_62 (show sh 65 = (0, 7, [some 66, some 67, some 68, some 69, some 70, none]) from rfl) (fun _ => rfl) ⟨Nat.le_of_ble_eq_true rfl, Nat.le_of_ble_eq_true rfl⟩ (Nat.le_of_ble_eq_true rfl) ?_
  refine AW.iload dX7_effortBy_42 1 rfl ?_
  refine AW.iload dX7_effortBy_44 0 rfl ?_
  refine AW.callV4ip (C_effortOf Γ M 1 st1 _ _ _ _ (dirP_d r _ _) (dirP_d r _ _) (by rw [elf]; exact dirP_d r _ _) (by rw [erg]; exact dirP_d r _ _)) dX7_effortBy_46 mc_X7_65 (show sh 1 = (0, 5, [some 2, none, some 3, some 4, none, none, none, none]) from rfl) (fun _ => rfl) ⟨Nat.le_of_ble_eq_true rfl, Nat.le_of_ble_eq_true rfl⟩ (Nat.le_of_ble_eq_true rfl) ?_
  refine AW.aload_n dX7_effortBy_49 3 rfl rfl ?_
  refine AW.getR dX7_effortBy_50 fl_X7_18 (show sh 65 = (0, 7, [some 66, some 67, some 68, some 69, some 70, none]) from rfl) rfl ?_
  refine AW.iconst dX7_effortBy_53 ?_
  refine AW.iload dX7_effortBy_54 2 rfl ?_
  refine AW.imul dX7_effortBy_56 ?_
  refine AW.iload dX7_effortBy_57 7 rfl ?_
  refine AW.iadd dX7_effortBy_59 ?_
  refine AW.ialdN (2 * (p + 1) + t) dX7_effortBy_60 (show sh 68 = (1, 26, []) from rfl) (by omega) (by omega) (by decide) ?_
  refine AW.iadd dX7_effortBy_61 ?_
  exact AW.iret rfl dX7_effortBy_62 ⟨by rw [elf, erg, h3, h4]; rfl, rfl⟩

set_option maxRecDepth 20000 in
theorem weigh_loop0 (Γ : GC) (M : Mm) (r : Nat → Int) (ho : OkR r) (hw : wayD M r) (Q : Int → Mm → Prop) (hx : ∀ (x : Int) (N : Mm), (∀ s : Nat, s < 2 → N 68 (2 * (r 0).toNat + s) = 0 ∧ N 69 (2 * (r 0).toNat + s) = 1) → (∀ a : Nat, a ≠ 68 → a ≠ 69 → N a = M a) → AW Γ uX7_weigh 41 [(2, vi x), (0, rf Γ 65), (1, rf Γ 1)] [] N Q) : ∀ (n i : Nat) (x : Int) (N : Mm), x = i → i ≤ 2 → (∀ s : Nat, s < i → N 68 (2 * (r 0).toNat + s) = 0 ∧ N 69 (2 * (r 0).toNat + s) = 1) → (∀ a : Nat, a ≠ 68 → a ≠ 69 → N a = M a) → 2 - i < n → AW Γ uX7_weigh 2 [(2, vi x), (0, rf Γ 65), (1, rf Γ 1)] [] N Q := by
  have o0 := ho.1
  intro n
  induction n with
  | zero => intro i x N g0 g1 g2 g3 gm; omega
  | succ n ih =>
    intro i x N g0 g1 g2 g3 gm
    refine AW.iload_n dX7_weigh_2 0 rfl rfl ?_
    refine AW.iconst dX7_weigh_3 ?_
    refine AW.icmp_ge 41 dX7_weigh_4 (by decide) (by omega) (by omega) (fun c4 => ?_) (fun c4 => ?_)
    · refine AW.sub [0, 1, 2] rfl ?_
      exact hx x N (fun s hs => g2 s (by omega)) g3
    · refine AW.aload_n dX7_weigh_7 1 rfl rfl ?_
      refine AW.getR dX7_weigh_8 fl_X7_18 (show sh 65 = (0, 7, [some 66, some 67, some 68, some 69, some 70, none]) from rfl) rfl ?_
      refine AW.iconst dX7_weigh_11 ?_
      refine AW.aload_n dX7_weigh_12 1 rfl rfl ?_
      refine AW.getI dX7_weigh_13 fl_X7_27 (show sh 65 = (0, 7, [some 66, some 67, some 68, some 69, some 70, none]) from rfl) rfl ?_
      rw [g3 65 (by decide) (by decide), hw.1]
      refine AW.imul dX7_weigh_16 ?_
      refine AW.iload_n dX7_weigh_17 0 rfl rfl ?_
      refine AW.iadd dX7_weigh_18 ?_
      refine AW.iconst dX7_weigh_19 ?_
      refine AW.iastN (2 * (r 0).toNat + i) dX7_weigh_20 (show sh 68 = (1, 26, []) from rfl) (by omega) (by omega) (by decide) ?_
      refine AW.aload_n dX7_weigh_21 1 rfl rfl ?_
      refine AW.getR dX7_weigh_22 fl_X7_21 (show sh 65 = (0, 7, [some 66, some 67, some 68, some 69, some 70, none]) from rfl) rfl ?_
      refine AW.iconst dX7_weigh_25 ?_
      refine AW.aload_n dX7_weigh_26 1 rfl rfl ?_
      refine AW.getI dX7_weigh_27 fl_X7_27 (show sh 65 = (0, 7, [some 66, some 67, some 68, some 69, some 70, none]) from rfl) rfl ?_
      rw [up2_c (by decide), g3 65 (by decide) (by decide), hw.1]
      refine AW.imul dX7_weigh_30 ?_
      refine AW.iload_n dX7_weigh_31 0 rfl rfl ?_
      refine AW.iadd dX7_weigh_32 ?_
      refine AW.iconst dX7_weigh_33 ?_
      refine AW.iastN (2 * (r 0).toNat + i) dX7_weigh_34 (show sh 69 = (1, 26, []) from rfl) (by omega) (by omega) (by decide) ?_
      obtain ⟨x35, ex35⟩ : ∃ z : Int, x + 1 = z := ⟨_, rfl⟩
      refine AW.iinc [(2, vi x35), (0, rf Γ 65), (1, rf Γ 1)] dX7_weigh_35 0 rfl (by decide) x35 ex35 rfl ?_
      refine AW.goto 2 dX7_weigh_38 (by decide) ?_
      refine AW.sub [0, 1, 2] rfl ?_
      exact ih (i + 1) x35 _ (by omega) (by omega) (fun s hs => by
        rcases Nat.lt_or_ge s i with h | h
        · rw [up2_c (by decide), up2_i (by omega), up2_i (by omega), up2_c (by decide)]; exact g2 s h
        · have : s = i := by omega
          subst this
          rw [up2_c (by decide), up2_s, up2_s]; exact ⟨rfl, rfl⟩) (fun a q1 q2 => by rw [up2_c q2, up2_c q1]; exact g3 a q1 q2) (by omega)

/-- done from place p0 on -/
def wEW (N : Mm) (r : Nat → Int) (p0 : Nat) : Prop := ∀ p s : Nat, p0 ≤ p → (p : Int) ≤ r 0 → s < 2 → N 68 (2 * p + s) = EF r (r 0).toNat ((r 0).toNat - p) s ∧ N 69 (2 * p + s) = WF r (r 0).toNat ((r 0).toNat - p) s

set_option maxRecDepth 20000 in
theorem weigh_loop1 (Γ : GC) (M : Mm) (r : Nat → Int) (ho : OkR r) (hr : stRel M 1 r) (hw : wayD M r) (p : Nat) (x : Int) (hxp : x = p) (hp : (p : Int) < r 0) (Q : Int → Mm → Prop) (hx : ∀ (y : Int) (N : Mm), wEW N r p → (∀ a : Nat, a ≠ 68 → a ≠ 69 → N a = M a) → AW Γ uX7_weigh 159 [(3, vi y), (2, vi x), (0, rf Γ 65), (1, rf Γ 1)] [] N Q) : ∀ (n s : Nat) (y : Int) (N : Mm), y = s → s ≤ 2 → (∀ u : Nat, u < s → N 68 (2 * p + u) = EF r (r 0).toNat ((r 0).toNat - p) u ∧ N 69 (2 * p + u) = WF r (r 0).toNat ((r 0).toNat - p) u) → wEW N r (p + 1) → (∀ a : Nat, a ≠ 68 → a ≠ 69 → N a = M a) → 2 - s < n → AW Γ uX7_weigh 54 [(3, vi y), (2, vi x), (0, rf Γ 65), (1, rf Γ 1)] [] N Q := by
  have o0 := ho.1
  intro n
  induction n with
  | zero => intro s y N g0 g1 g3 g2 g4 gm; omega
  | succ n ih =>
    intro s y N g0 g1 g3 g2 g4 gm
    have hwN : wayD N r := hw.frame (g4 _ (by decide) (by decide)) (g4 _ (by decide) (by decide)) (g4 _ (by decide) (by decide))
    have hrN : stRel N 1 r := hr.frame (g4 _ (by decide) (by decide)) (g4 _ (by decide) (by decide)) (g4 _ (by decide) (by decide)) (g4 _ (by decide) (by decide))
    refine AW.iload_n dX7_weigh_54 0 rfl rfl ?_
    refine AW.iconst dX7_weigh_55 ?_
    refine AW.icmp_ge 159 dX7_weigh_56 (by decide) (by omega) (by omega) (fun c56 => ?_) (fun c56 => ?_)
    · refine AW.sub [0, 1, 2, 3] rfl ?_
      exact hx y N (fun q u hq hq2 hu => by
        rcases Nat.lt_or_ge p q with h | h
        · exact g2 q u h hq2 hu
        · have hqp : q = p := by omega
          subst hqp; exact g3 u (by omega)) g4
    · refine AW.aload_n dX7_weigh_59 2 rfl rfl ?_
      refine AW.aload_n dX7_weigh_60 3 rfl rfl ?_
      refine AW.iload_n dX7_weigh_61 1 rfl rfl ?_
      refine AW.iload_n dX7_weigh_62 0 rfl rfl ?_
      refine AW.iconst dX7_weigh_63 ?_
      refine AW.callV4ip (C_effortBy Γ N r ho hrN hwN _ _ _ p s 0 (by omega) (by omega) rfl (by omega) (by omega) (by omega)) dX7_weigh_64 mc_X7_52 (show sh 65 = (0, 7, [some 66, some 67, some 68, some 69, some 70, none]) from rfl) (fun _ => rfl) ⟨Nat.le_of_ble_eq_true rfl, Nat.le_of_ble_eq_true rfl⟩ (Nat.le_of_ble_eq_true rfl) ?_
      refine AW.top (fun b0 eb0 => ?_)
      refine AW.istore [(4, vi b0), (3, vi y), (2, vi x), (0, rf Γ 65), (1, rf Γ 1)] dX7_weigh_67 (by decide) rfl ?_
      have hb0 : b0 = legP r p s 0 + EF r (r 0).toNat ((r 0).toNat - (p + 1)) 0 := by rw [eb0, (g2 (p + 1) 0 (by omega) (by omega) (by omega)).1]
      refine AW.aload_n dX7_weigh_69 3 rfl rfl ?_
      refine AW.aload_n dX7_weigh_70 4 rfl rfl ?_
      refine AW.iload_n dX7_weigh_71 2 rfl rfl ?_
      refine AW.iload_n dX7_weigh_72 1 rfl rfl ?_
      refine AW.iconst dX7_weigh_73 ?_
      refine AW.callV4ip (C_effortBy Γ N r ho hrN hwN _ _ _ p s 1 (by omega) (by omega) rfl (by omega) (by omega) (by omega)) dX7_weigh_74 mc_X7_52 (show sh 65 = (0, 7, [some 66, some 67, some 68, some 69, some 70, none]) from rfl) (fun _ => rfl) ⟨Nat.le_of_ble_eq_true rfl, Nat.le_of_ble_eq_true rfl⟩ (Nat.le_of_ble_eq_true rfl) ?_
      refine AW.top (fun b1 eb1 => ?_)
      refine AW.istore [(5, vi b1), (4, vi b0), (3, vi y), (2, vi x), (0, rf Γ 65), (1, rf Γ 1)] dX7_weigh_77 (by decide) rfl ?_
      have hb1 : b1 = legP r p s 1 + EF r (r 0).toNat ((r 0).toNat - (p + 1)) 1 := by rw [eb1, (g2 (p + 1) 1 (by omega) (by omega) (by omega)).1]
      have lb0 := legP_b ho p s 0
      have lb1 := legP_b ho p s 1
      have lc0 := EF_b ho (r 0).toNat ((r 0).toNat - (p + 1)) 0
      have lc1 := EF_b ho (r 0).toNat ((r 0).toNat - (p + 1)) 1
      refine AW.iconst dX7_weigh_79 ?_
      refine AW.iload_n dX7_weigh_80 3 rfl rfl ?_
      refine AW.imul dX7_weigh_81 ?_
      refine AW.iload_n dX7_weigh_82 2 rfl rfl ?_
      refine AW.iadd dX7_weigh_83 ?_
      refine AW.top (fun at6 eat6 => ?_)
      refine AW.istore [(6, vi at6), (5, vi b1), (4, vi b0), (3, vi y), (2, vi x), (0, rf Γ 65), (1, rf Γ 1)] dX7_weigh_84 (by decide) rfl ?_
      refine AW.iconst dX7_weigh_86 ?_
      refine AW.iload_n dX7_weigh_87 4 rfl rfl ?_
      refine AW.imul dX7_weigh_88 ?_
      refine AW.iconst dX7_weigh_89 ?_
      refine AW.iadd dX7_weigh_90 ?_
      refine AW.top (fun nx7 enx7 => ?_)
      refine AW.istore [(7, vi nx7), (6, vi at6), (5, vi b1), (4, vi b0), (3, vi y), (2, vi x), (0, rf Γ 65), (1, rf Γ 1)] dX7_weigh_91 (by decide) rfl ?_
      refine AW.aload_n dX7_weigh_93 6 rfl rfl ?_
      refine AW.getR dX7_weigh_94 fl_X7_18 (show sh 65 = (0, 7, [some 66, some 67, some 68, some 69, some 70, none]) from rfl) rfl ?_
      refine AW.iload dX7_weigh_97 1 rfl ?_
      refine AW.iload dX7_weigh_99 3 rfl ?_
      refine AW.iload dX7_weigh_101 2 rfl ?_
      refine AW.mmin dX7_weigh_103 mc_X7_56 (by omega) (by omega) (Nat.le_of_ble_eq_true rfl) (Nat.le_of_ble_eq_true rfl) ?_
      refine AW.iastN (2 * p + s) dX7_weigh_106 (show sh 68 = (1, 26, []) from rfl) (by omega) (by omega) (by decide) ?_
      refine AW.aload_n dX7_weigh_107 6 rfl rfl ?_
      refine AW.getR dX7_weigh_108 fl_X7_21 (show sh 65 = (0, 7, [some 66, some 67, some 68, some 69, some 70, none]) from rfl) rfl ?_
      refine AW.iload dX7_weigh_111 1 rfl ?_
      refine AW.iload dX7_weigh_113 3 rfl ?_
      refine AW.iload dX7_weigh_115 2 rfl ?_
      refine AW.icmp_gt 130 dX7_weigh_117 (by decide) (by omega) (by omega) (fun c117 => ?_) (fun c117 => ?_)
      · refine AW.iconst dX7_weigh_130 ?_
        refine AW.iload dX7_weigh_131 2 rfl ?_
        refine AW.iload dX7_weigh_133 3 rfl ?_
        refine AW.icmp_gt 150 dX7_weigh_135 (by decide) (by omega) (by omega) (fun c135 => ?_) (fun c135 => ?_)
        · refine AW.iconst dX7_weigh_150 ?_
          refine AW.iadd dX7_weigh_151 ?_
          refine AW.iastN (2 * p + s) dX7_weigh_152 (show sh 69 = (1, 26, []) from rfl) (by omega) (by omega) (by decide) ?_
          obtain ⟨x153, ex153⟩ : ∃ z : Int, y + 1 = z := ⟨_, rfl⟩
          refine AW.iinc [(3, vi x153), (7, vi nx7), (6, vi at6), (5, vi b1), (4, vi b0), (2, vi x), (0, rf Γ 65), (1, rf Γ 1)] dX7_weigh_153 4 rfl (by decide) x153 ex153 rfl ?_
          refine AW.goto 54 dX7_weigh_156 (by decide) ?_
          refine AW.sub [0, 5, 6, 7] rfl ?_
          refine ih (s + 1) x153 _ (by omega) (by omega) ?_ (fun q u hq hq2 hu => ?_) (fun a q1 q2 => by rw [up2_c q2, up2_c q1]; exact g4 a q1 q2) (by omega)
          · intro u hu
            rcases Nat.lt_or_ge u s with h | h
            · rw [up2_c (by decide), up2_i (by omega), up2_i (by omega), up2_c (by decide)]; exact g3 u h
            · have hus : u = s := by omega
              subst hus
              rw [up2_c (by decide), up2_s, up2_s, show (r 0).toNat - p = ((r 0).toNat - (p + 1)) + 1 by omega]
              simp only [EF, WF]
              rw [show (r 0).toNat - ((r 0).toNat - (p + 1) + 1) = p by omega, ← hb0, ← hb1]
              refine ⟨rfl, ?_⟩
              first | (rw [if_neg (by omega), if_neg (by omega)]) | (rw [if_neg (by omega), if_pos (by omega)]) | (rw [if_pos (by omega), if_neg (by omega)]) | (rw [if_pos (by omega), if_pos (by omega)])
          · rw [up2_c (by decide), up2_i (by omega), up2_i (by omega), up2_c (by decide)]; exact g2 q u hq hq2 hu
        · refine AW.aload_n dX7_weigh_138 6 rfl rfl ?_
          refine AW.getR dX7_weigh_139 fl_X7_21 (show sh 65 = (0, 7, [some 66, some 67, some 68, some 69, some 70, none]) from rfl) rfl ?_
          refine AW.iload dX7_weigh_142 0 rfl ?_
          refine AW.iconst dX7_weigh_144 ?_
          refine AW.iadd dX7_weigh_145 ?_
          refine AW.ialdN (2 * (p + 1) + 1) dX7_weigh_146 (show sh 69 = (1, 26, []) from rfl) (by omega) (by omega) (by decide) ?_
          rw [up2_c (by decide), (g2 (p + 1) 1 (by omega) (by omega) (by omega)).2]
          refine AW.goto 151 dX7_weigh_147 (by decide) ?_
          refine AW.iadd dX7_weigh_151 ?_
          refine AW.iastN (2 * p + s) dX7_weigh_152 (show sh 69 = (1, 26, []) from rfl) (by omega) (by omega) (by decide) ?_
          obtain ⟨x153, ex153⟩ : ∃ z : Int, y + 1 = z := ⟨_, rfl⟩
          refine AW.iinc [(3, vi x153), (7, vi nx7), (6, vi at6), (5, vi b1), (4, vi b0), (2, vi x), (0, rf Γ 65), (1, rf Γ 1)] dX7_weigh_153 4 rfl (by decide) x153 ex153 rfl ?_
          refine AW.goto 54 dX7_weigh_156 (by decide) ?_
          refine AW.sub [0, 5, 6, 7] rfl ?_
          refine ih (s + 1) x153 _ (by omega) (by omega) ?_ (fun q u hq hq2 hu => ?_) (fun a q1 q2 => by rw [up2_c q2, up2_c q1]; exact g4 a q1 q2) (by omega)
          · intro u hu
            rcases Nat.lt_or_ge u s with h | h
            · rw [up2_c (by decide), up2_i (by omega), up2_i (by omega), up2_c (by decide)]; exact g3 u h
            · have hus : u = s := by omega
              subst hus
              rw [up2_c (by decide), up2_s, up2_s, show (r 0).toNat - p = ((r 0).toNat - (p + 1)) + 1 by omega]
              simp only [EF, WF]
              rw [show (r 0).toNat - ((r 0).toNat - (p + 1) + 1) = p by omega, ← hb0, ← hb1]
              refine ⟨rfl, ?_⟩
              first | (rw [if_neg (by omega), if_neg (by omega)]) | (rw [if_neg (by omega), if_pos (by omega)]) | (rw [if_pos (by omega), if_neg (by omega)]) | (rw [if_pos (by omega), if_pos (by omega)])
          · rw [up2_c (by decide), up2_i (by omega), up2_i (by omega), up2_c (by decide)]; exact g2 q u hq hq2 hu
      · refine AW.aload_n dX7_weigh_120 6 rfl rfl ?_
        refine AW.getR dX7_weigh_121 fl_X7_21 (show sh 65 = (0, 7, [some 66, some 67, some 68, some 69, some 70, none]) from rfl) rfl ?_
        refine AW.iload dX7_weigh_124 0 rfl ?_
        refine AW.ialdN (2 * (p + 1) + 0) dX7_weigh_126 (show sh 69 = (1, 26, []) from rfl) (by omega) (by omega) (by decide) ?_
        rw [up2_c (by decide), (g2 (p + 1) 0 (by omega) (by omega) (by omega)).2]
        refine AW.goto 131 dX7_weigh_127 (by decide) ?_
        refine AW.iload dX7_weigh_131 2 rfl ?_
        refine AW.iload dX7_weigh_133 3 rfl ?_
        refine AW.icmp_gt 150 dX7_weigh_135 (by decide) (by omega) (by omega) (fun c135 => ?_) (fun c135 => ?_)
        · refine AW.iconst dX7_weigh_150 ?_
          refine AW.iadd dX7_weigh_151 ?_
          refine AW.iastN (2 * p + s) dX7_weigh_152 (show sh 69 = (1, 26, []) from rfl) (by omega) (by omega) (by decide) ?_
          obtain ⟨x153, ex153⟩ : ∃ z : Int, y + 1 = z := ⟨_, rfl⟩
          refine AW.iinc [(3, vi x153), (7, vi nx7), (6, vi at6), (5, vi b1), (4, vi b0), (2, vi x), (0, rf Γ 65), (1, rf Γ 1)] dX7_weigh_153 4 rfl (by decide) x153 ex153 rfl ?_
          refine AW.goto 54 dX7_weigh_156 (by decide) ?_
          refine AW.sub [0, 5, 6, 7] rfl ?_
          refine ih (s + 1) x153 _ (by omega) (by omega) ?_ (fun q u hq hq2 hu => ?_) (fun a q1 q2 => by rw [up2_c q2, up2_c q1]; exact g4 a q1 q2) (by omega)
          · intro u hu
            rcases Nat.lt_or_ge u s with h | h
            · rw [up2_c (by decide), up2_i (by omega), up2_i (by omega), up2_c (by decide)]; exact g3 u h
            · have hus : u = s := by omega
              subst hus
              rw [up2_c (by decide), up2_s, up2_s, show (r 0).toNat - p = ((r 0).toNat - (p + 1)) + 1 by omega]
              simp only [EF, WF]
              rw [show (r 0).toNat - ((r 0).toNat - (p + 1) + 1) = p by omega, ← hb0, ← hb1]
              refine ⟨rfl, ?_⟩
              first | (rw [if_neg (by omega), if_neg (by omega)]) | (rw [if_neg (by omega), if_pos (by omega)]) | (rw [if_pos (by omega), if_neg (by omega)]) | (rw [if_pos (by omega), if_pos (by omega)])
          · rw [up2_c (by decide), up2_i (by omega), up2_i (by omega), up2_c (by decide)]; exact g2 q u hq hq2 hu
        · refine AW.aload_n dX7_weigh_138 6 rfl rfl ?_
          refine AW.getR dX7_weigh_139 fl_X7_21 (show sh 65 = (0, 7, [some 66, some 67, some 68, some 69, some 70, none]) from rfl) rfl ?_
          refine AW.iload dX7_weigh_142 0 rfl ?_
          refine AW.iconst dX7_weigh_144 ?_
          refine AW.iadd dX7_weigh_145 ?_
          refine AW.ialdN (2 * (p + 1) + 1) dX7_weigh_146 (show sh 69 = (1, 26, []) from rfl) (by omega) (by omega) (by decide) ?_
          rw [up2_c (by decide), (g2 (p + 1) 1 (by omega) (by omega) (by omega)).2]
          refine AW.goto 151 dX7_weigh_147 (by decide) ?_
          refine AW.iadd dX7_weigh_151 ?_
          refine AW.iastN (2 * p + s) dX7_weigh_152 (show sh 69 = (1, 26, []) from rfl) (by omega) (by omega) (by decide) ?_
          obtain ⟨x153, ex153⟩ : ∃ z : Int, y + 1 = z := ⟨_, rfl⟩
          refine AW.iinc [(3, vi x153), (7, vi nx7), (6, vi at6), (5, vi b1), (4, vi b0), (2, vi x), (0, rf Γ 65), (1, rf Γ 1)] dX7_weigh_153 4 rfl (by decide) x153 ex153 rfl ?_
          refine AW.goto 54 dX7_weigh_156 (by decide) ?_
          refine AW.sub [0, 5, 6, 7] rfl ?_
          refine ih (s + 1) x153 _ (by omega) (by omega) ?_ (fun q u hq hq2 hu => ?_) (fun a q1 q2 => by rw [up2_c q2, up2_c q1]; exact g4 a q1 q2) (by omega)
          · intro u hu
            rcases Nat.lt_or_ge u s with h | h
            · rw [up2_c (by decide), up2_i (by omega), up2_i (by omega), up2_c (by decide)]; exact g3 u h
            · have hus : u = s := by omega
              subst hus
              rw [up2_c (by decide), up2_s, up2_s, show (r 0).toNat - p = ((r 0).toNat - (p + 1)) + 1 by omega]
              simp only [EF, WF]
              rw [show (r 0).toNat - ((r 0).toNat - (p + 1) + 1) = p by omega, ← hb0, ← hb1]
              refine ⟨rfl, ?_⟩
              first | (rw [if_neg (by omega), if_neg (by omega)]) | (rw [if_neg (by omega), if_pos (by omega)]) | (rw [if_pos (by omega), if_neg (by omega)]) | (rw [if_pos (by omega), if_pos (by omega)])
          · rw [up2_c (by decide), up2_i (by omega), up2_i (by omega), up2_c (by decide)]; exact g2 q u hq hq2 hu

set_option maxRecDepth 20000 in
theorem weigh_loop2 (Γ : GC) (M : Mm) (r : Nat → Int) (ho : OkR r) (hr : stRel M 1 r) (hw : wayD M r) : ∀ (n p : Nat) (x : Int) (N : Mm), x = (p : Int) - 1 → (p : Int) ≤ r 0 → wEW N r p → (∀ a : Nat, a ≠ 68 → a ≠ 69 → N a = M a) → p < n → AW Γ uX7_weigh 48 [(2, vi x), (0, rf Γ 65), (1, rf Γ 1)] [] N (fun _ M' => wEW M' r 0 ∧ (∀ a : Nat, a ≠ 68 → a ≠ 69 → M' a = M a)) := by
  have o0 := ho.1
  intro n
  induction n with
  | zero => intro p x N g0 g1 g2 g3 gm; omega
  | succ n ih =>
    intro p x N g0 g1 g2 g3 gm
    refine AW.iload_n dX7_weigh_48 0 rfl rfl ?_
    refine AW.if_lt 165 dX7_weigh_49 (by decide) (by omega) (fun c49 => ?_) (fun c49 => ?_)
    · exact AW.vret rfl dX7_weigh_165 ⟨by rw [show p = 0 by omega] at g2; exact g2, g3⟩
    · refine AW.iconst dX7_weigh_52 ?_
      refine AW.top (fun x53 ex53 => ?_)
      refine AW.istore_n [(3, vi x53), (2, vi x), (0, rf Γ 65), (1, rf Γ 1)] dX7_weigh_53 rfl (by decide) rfl ?_
      refine AW.sub [0, 1, 2, 3] rfl ?_
      refine weigh_loop1 Γ M r ho hr hw (p - 1) x (by omega) (by omega) _ (fun y N2 z1 z2 => ?_) 4 0 x53 N (by omega) (by omega) (fun u hu => by omega) (by rw [show p - 1 + 1 = p by omega]; exact g2) g3 (by omega)
      obtain ⟨x159, ex159⟩ : ∃ z : Int, x + (-1) = z := ⟨_, rfl⟩
      refine AW.iinc [(2, vi x159), (3, vi y), (0, rf Γ 65), (1, rf Γ 1)] dX7_weigh_159 1 rfl (by decide) x159 ex159 rfl ?_
      refine AW.goto 48 dX7_weigh_162 (by decide) ?_
      refine AW.sub [0, 2, 3] rfl ?_
      exact ih (p - 1) x159 N2 (by omega) (by omega) z1 z2 (by omega)

set_option maxRecDepth 20000 in
theorem C_weigh (Γ : GC) (M : Mm) (r : Nat → Int) (ho : OkR r) (hr : stRel M 1 r) (hw : wayD M r) : Ct Γ uX7_weigh [rf Γ 65, rf Γ 1] M (fun _ M' => wEW M' r 0 ∧ (∀ a : Nat, a ≠ 68 → a ≠ 69 → M' a = M a)) := by
  refine Ct.of (by decide) (Nat.le_of_ble_eq_true rfl) ?_
  show AW Γ uX7_weigh 0 [(0, rf Γ 65), (1, rf Γ 1)] [] M _
  have o0 := ho.1
  refine AW.iconst dX7_weigh_0 ?_
  refine AW.top (fun x1 ex1 => ?_)
  refine AW.istore_n [(2, vi x1), (0, rf Γ 65), (1, rf Γ 1)] dX7_weigh_1 rfl (by decide) rfl ?_
  refine AW.sub [0, 1, 2] rfl ?_
  refine weigh_loop0 Γ M r ho hw _ (fun x N z1 z2 => ?_) 4 0 x1 M (by omega) (by omega) (fun s hs => by omega) (fun _ _ _ => rfl) (by omega)
  refine AW.aload_n dX7_weigh_41 1 rfl rfl ?_
  refine AW.getI dX7_weigh_42 fl_X7_27 (show sh 65 = (0, 7, [some 66, some 67, some 68, some 69, some 70, none]) from rfl) rfl ?_
  rw [z2 65 (by decide) (by decide), hw.1]
  refine AW.iconst dX7_weigh_45 ?_
  refine AW.isub dX7_weigh_46 ?_
  refine AW.top (fun x47 ex47 => ?_)
  refine AW.istore_n [(2, vi x47), (0, rf Γ 65), (1, rf Γ 1)] dX7_weigh_47 rfl (by decide) rfl ?_
  refine AW.sub [0, 1, 2] rfl ?_
  exact weigh_loop2 Γ M r ho hr hw 14 (r 0).toNat x47 N (by omega) (by omega) (fun q u hq hq2 hu => by
    have hqn : q = (r 0).toNat := by omega
    subst hqn
    rw [Nat.sub_self]; exact z1 u hu) z2 (by omega)

set_option maxRecDepth 20000 in
theorem choose_loop (Γ : GC) (M : Mm) (r : Nat → Int) (ho : OkR r) (hr : stRel M 1 r) (hw : wayD M r) (he : wEW M r 0) : ∀ (n p : Nat) (x : Int) (N : Mm), x = p → (p : Int) ≤ r 0 → (∀ q : Nat, q ≤ p → N 70 q = sdF r (r 0).toNat q) → (∀ a : Nat, a ≠ 70 → N a = M a) → 12 - p < n → AW Γ uX7_choose 9 [(2, vi x), (0, rf Γ 65), (1, rf Γ 1)] [] N (fun _ M' => (∀ q : Nat, (q : Int) ≤ r 0 → M' 70 q = sdF r (r 0).toNat q) ∧ (∀ a : Nat, a ≠ 70 → M' a = M a)) := by
  have o0 := ho.1
  intro n
  induction n with
  | zero => intro p x N g0 g1 g2 g3 gm; omega
  | succ n ih =>
    intro p x N g0 g1 g2 g3 gm
    have hwN : wayD N r := hw.frame (g3 _ (by decide)) (g3 _ (by decide)) (g3 _ (by decide))
    have hrN : stRel N 1 r := hr.frame (g3 _ (by decide)) (g3 _ (by decide)) (g3 _ (by decide)) (g3 _ (by decide))
    refine AW.iload_n dX7_choose_9 0 rfl rfl ?_
    refine AW.aload_n dX7_choose_10 1 rfl rfl ?_
    refine AW.getI dX7_choose_11 fl_X7_27 (show sh 65 = (0, 7, [some 66, some 67, some 68, some 69, some 70, none]) from rfl) rfl ?_
    rw [g3 65 (by decide), hw.1]
    refine AW.icmp_ge 69 dX7_choose_14 (by decide) (by omega) (by omega) (fun c14 => ?_) (fun c14 => ?_)
    · exact AW.vret rfl dX7_choose_69 ⟨fun q hq => g2 q (by omega), g3⟩
    · refine AW.aload_n dX7_choose_17 1 rfl rfl ?_
      refine AW.aload_n dX7_choose_18 2 rfl rfl ?_
      refine AW.iload_n dX7_choose_19 0 rfl rfl ?_
      refine AW.aload_n dX7_choose_20 1 rfl rfl ?_
      refine AW.getR dX7_choose_21 fl_X7_24 (show sh 65 = (0, 7, [some 66, some 67, some 68, some 69, some 70, none]) from rfl) rfl ?_
      refine AW.iload_n dX7_choose_24 0 rfl rfl ?_
      refine AW.ialdN p dX7_choose_25 (show sh 70 = (1, 13, []) from rfl) (by omega) (by omega) (by decide) ?_
      rw [g2 p (by omega)]
      refine AW.iconst dX7_choose_26 ?_
      refine AW.callV4ip (C_effortBy Γ N r ho hrN hwN _ _ _ p (sdF r (r 0).toNat p) 0 (by omega) rfl rfl (by omega) (sdF_2 r _ p) (by omega)) dX7_choose_27 mc_X7_52 (show sh 65 = (0, 7, [some 66, some 67, some 68, some 69, some 70, none]) from rfl) (fun _ => rfl) ⟨Nat.le_of_ble_eq_true rfl, Nat.le_of_ble_eq_true rfl⟩ (Nat.le_of_ble_eq_true rfl) ?_
      refine AW.top (fun b0 eb0 => ?_)
      refine AW.istore_n [(3, vi b0), (2, vi x), (0, rf Γ 65), (1, rf Γ 1)] dX7_choose_30 rfl (by decide) rfl ?_
      have hb0 : b0 = legP r p (sdF r (r 0).toNat p) 0 + EF r (r 0).toNat ((r 0).toNat - (p + 1)) 0 := by rw [eb0, g3 68 (by decide), (he (p + 1) 0 (by omega) (by omega) (by omega)).1]
      have lb0 := legP_b ho p (sdF r (r 0).toNat p) 0
      have lc0 := EF_b ho (r 0).toNat ((r 0).toNat - (p + 1)) 0
      have lc1 := EF_b ho (r 0).toNat ((r 0).toNat - p) (sdF r (r 0).toNat p)
      have s2 := sdF_2 r (r 0).toNat p
      refine AW.aload_n dX7_choose_31 2 rfl rfl ?_
      refine AW.getR dX7_choose_32 fl_X7_24 (show sh 65 = (0, 7, [some 66, some 67, some 68, some 69, some 70, none]) from rfl) rfl ?_
      refine AW.iload_n dX7_choose_35 1 rfl rfl ?_
      refine AW.iconst dX7_choose_36 ?_
      refine AW.iadd dX7_choose_37 ?_
      refine AW.iload_n dX7_choose_38 0 rfl rfl ?_
      refine AW.aload_n dX7_choose_39 2 rfl rfl ?_
      refine AW.getR dX7_choose_40 fl_X7_18 (show sh 65 = (0, 7, [some 66, some 67, some 68, some 69, some 70, none]) from rfl) rfl ?_
      refine AW.iconst dX7_choose_43 ?_
      refine AW.iload_n dX7_choose_44 1 rfl rfl ?_
      refine AW.imul dX7_choose_45 ?_
      refine AW.aload_n dX7_choose_46 2 rfl rfl ?_
      refine AW.getR dX7_choose_47 fl_X7_24 (show sh 65 = (0, 7, [some 66, some 67, some 68, some 69, some 70, none]) from rfl) rfl ?_
      refine AW.iload_n dX7_choose_50 1 rfl rfl ?_
      refine AW.ialdN p dX7_choose_51 (show sh 70 = (1, 13, []) from rfl) (by omega) (by omega) (by decide) ?_
      rw [g2 p (by omega)]
      refine AW.iadd dX7_choose_52 ?_
      refine AW.ialdN (2 * p + sdF r (r 0).toNat p) dX7_choose_53 (show sh 68 = (1, 26, []) from rfl) (by omega) (by omega) (by decide) ?_
      rw [g3 68 (by decide), (he p (sdF r (r 0).toNat p) (by omega) (by omega) s2).1]
      refine AW.icmp_ne 61 dX7_choose_54 (by decide) (by omega) (by omega) (fun c54 => ?_) (fun c54 => ?_)
      · refine AW.iconst dX7_choose_61 ?_
        refine AW.iastN (p + 1) dX7_choose_62 (show sh 70 = (1, 13, []) from rfl) (by omega) (by omega) (by decide) ?_
        obtain ⟨x63, ex63⟩ : ∃ z : Int, x + 1 = z := ⟨_, rfl⟩
        refine AW.iinc [(2, vi x63), (3, vi b0), (0, rf Γ 65), (1, rf Γ 1)] dX7_choose_63 1 rfl (by decide) x63 ex63 rfl ?_
        refine AW.goto 9 dX7_choose_66 (by decide) ?_
        refine AW.sub [0, 2, 3] rfl ?_
        exact ih (p + 1) x63 _ (by omega) (by omega) (fun q hq => by
          rcases Nat.lt_or_ge p q with h | h
          · have hqp : q = p + 1 := by omega
            subst hqp
            rw [up2_s]; simp only [sdF]; first | (rw [if_pos (by omega)]; rfl) | (rw [if_neg (by omega)]; rfl)
          · rw [up2_i (by omega)]; exact g2 q h) (fun a q1 => by rw [up2_c q1]; exact g3 a q1) (by omega)
      · refine AW.iconst dX7_choose_57 ?_
        refine AW.goto 62 dX7_choose_58 (by decide) ?_
        refine AW.iastN (p + 1) dX7_choose_62 (show sh 70 = (1, 13, []) from rfl) (by omega) (by omega) (by decide) ?_
        obtain ⟨x63, ex63⟩ : ∃ z : Int, x + 1 = z := ⟨_, rfl⟩
        refine AW.iinc [(2, vi x63), (3, vi b0), (0, rf Γ 65), (1, rf Γ 1)] dX7_choose_63 1 rfl (by decide) x63 ex63 rfl ?_
        refine AW.goto 9 dX7_choose_66 (by decide) ?_
        refine AW.sub [0, 2, 3] rfl ?_
        exact ih (p + 1) x63 _ (by omega) (by omega) (fun q hq => by
          rcases Nat.lt_or_ge p q with h | h
          · have hqp : q = p + 1 := by omega
            subst hqp
            rw [up2_s]; simp only [sdF]; first | (rw [if_pos (by omega)]; rfl) | (rw [if_neg (by omega)]; rfl)
          · rw [up2_i (by omega)]; exact g2 q h) (fun a q1 => by rw [up2_c q1]; exact g3 a q1) (by omega)

set_option maxRecDepth 20000 in
theorem C_choose (Γ : GC) (M : Mm) (r : Nat → Int) (ho : OkR r) (hr : stRel M 1 r) (hw : wayD M r) (he : wEW M r 0) : Ct Γ uX7_choose [rf Γ 65, rf Γ 1] M (fun _ M' => (∀ q : Nat, (q : Int) ≤ r 0 → M' 70 q = sdF r (r 0).toNat q) ∧ (∀ a : Nat, a ≠ 70 → M' a = M a)) := by
  refine Ct.of (by decide) (Nat.le_of_ble_eq_true rfl) ?_
  show AW Γ uX7_choose 0 [(0, rf Γ 65), (1, rf Γ 1)] [] M _
  refine AW.aload_n dX7_choose_0 0 rfl rfl ?_
  refine AW.getR dX7_choose_1 fl_X7_24 (show sh 65 = (0, 7, [some 66, some 67, some 68, some 69, some 70, none]) from rfl) rfl ?_
  refine AW.iconst dX7_choose_4 ?_
  refine AW.iconst dX7_choose_5 ?_
  refine AW.iastN 0 dX7_choose_6 (show sh 70 = (1, 13, []) from rfl) rfl (by decide) (by decide) ?_
  refine AW.iconst dX7_choose_7 ?_
  refine AW.top (fun x8 ex8 => ?_)
  refine AW.istore_n [(2, vi x8), (0, rf Γ 65), (1, rf Γ 1)] dX7_choose_8 rfl (by decide) rfl ?_
  refine AW.sub [0, 1, 2] rfl ?_
  exact choose_loop Γ M r ho hr hw he 14 0 x8 _ (by omega) (by have := ho.1; omega) (fun q hq => by rw [show q = 0 by omega, up2_s]; rfl) (fun a q1 => up2_c q1) (by omega)

/-- what the way holds, once it is found -/
def wayF (M : Mm) (r : Nat → Int) : Prop := wayD M r ∧ wEW M r 0 ∧ ∀ q : Nat, (q : Int) ≤ r 0 → M 70 q = sdF r (r 0).toNat q
set_option maxRecDepth 20000 in
theorem find_loop (Γ : GC) (M : Mm) (r : Nat → Int) (ho : OkR r) (hr : stRel M 1 r) : ∀ (n i : Nat) (x : Int) (N : Mm), x = i → (i : Int) ≤ r 0 → N 65 5 = r 0 → (∀ q : Nat, q ≤ i → N 66 q = dirP r q 0 ∧ N 67 q = dirP r q 1) → (∀ a : Nat, a ≠ 65 → a ≠ 66 → a ≠ 67 → N a = M a) → 12 - i < n → AW Γ uX7_find 10 [(2, vi x), (0, rf Γ 65), (1, rf Γ 1)] [] N (fun _ M' => wayD M' r ∧ wEW M' r 0 ∧ (∀ q : Nat, (q : Int) ≤ r 0 → M' 70 q = sdF r (r 0).toNat q) ∧ ∀ a : Nat, (a < 65 ∨ 70 < a) → M' a = M a) := by
  obtain ⟨h1, h2, h3, h4, h5, h6, h7⟩ := st1u hr
  obtain ⟨o0, o1, o2, o3, o4, o5, o6⟩ := id ho
  intro n
  induction n with
  | zero => intro i x N g0 g1 g2 g3 g5 gm; omega
  | succ n ih =>
    intro i x N g0 g1 g2 g3 g5 gm
    have hl : (i : Int) < r 0 → 0 ≤ r (5 + i) ∧ r (5 + i) < 26 := o5 i
    refine AW.iload_n dX7_find_10 0 rfl rfl ?_
    refine AW.aload_n dX7_find_11 1 rfl rfl ?_
    refine AW.getI dX7_find_12 fl_X7_27 (show sh 65 = (0, 7, [some 66, some 67, some 68, some 69, some 70, none]) from rfl) rfl ?_
    rw [g2]
    refine AW.icmp_ge 60 dX7_find_15 (by decide) (by omega) (by omega) (fun c15 => ?_) (fun c15 => ?_)
    · have hwN : wayD N r := ⟨g2, fun q hq => g3 q (by omega)⟩
      have hrN : stRel N 1 r := hr.frame (g5 _ (by decide) (by decide) (by decide)) (g5 _ (by decide) (by decide) (by decide)) (g5 _ (by decide) (by decide) (by decide)) (g5 _ (by decide) (by decide) (by decide))
      refine AW.aload_n dX7_find_60 1 rfl rfl ?_
      refine AW.aload_n dX7_find_61 2 rfl rfl ?_
      refine AW.callV1v (C_weigh Γ N r ho hrN hwN) dX7_find_62 mc_X7_45 (show sh 65 = (0, 7, [some 66, some 67, some 68, some 69, some 70, none]) from rfl) (fun _ => rfl) ⟨Nat.le_of_ble_eq_true rfl, Nat.le_of_ble_eq_true rfl⟩ (Nat.le_of_ble_eq_true rfl) (fun z62 M62 h62 => ?_)
      obtain ⟨e1, e2⟩ := h62
      have hw2 : wayD M62 r := hwN.frame (e2 _ (by decide) (by decide)) (e2 _ (by decide) (by decide)) (e2 _ (by decide) (by decide))
      have hr2 : stRel M62 1 r := hrN.frame (e2 _ (by decide) (by decide)) (e2 _ (by decide) (by decide)) (e2 _ (by decide) (by decide)) (e2 _ (by decide) (by decide))
      refine AW.aload_n dX7_find_65 1 rfl rfl ?_
      refine AW.aload_n dX7_find_66 2 rfl rfl ?_
      refine AW.callV1v (C_choose Γ M62 r ho hr2 hw2 e1) dX7_find_67 mc_X7_49 (show sh 65 = (0, 7, [some 66, some 67, some 68, some 69, some 70, none]) from rfl) (fun _ => rfl) ⟨Nat.le_of_ble_eq_true rfl, Nat.le_of_ble_eq_true rfl⟩ (Nat.le_of_ble_eq_true rfl) (fun z67 M67 h67 => ?_)
      obtain ⟨e3, e4⟩ := h67
      exact AW.vret rfl dX7_find_70 ⟨hw2.frame (e4 _ (by decide)) (e4 _ (by decide)) (e4 _ (by decide)), fun p s q1 q2 q3 => by rw [e4 68 (by decide), e4 69 (by decide)]; exact e1 p s q1 q2 q3, e3, fun a h => by rw [e4 a (by omega), e2 a (by omega) (by omega), g5 a (by omega) (by omega) (by omega)]⟩
    · refine AW.aload_n dX7_find_18 1 rfl rfl ?_
      refine AW.getR dX7_find_19 fl_X7_9 (show sh 65 = (0, 7, [some 66, some 67, some 68, some 69, some 70, none]) from rfl) rfl ?_
      refine AW.iload_n dX7_find_22 0 rfl rfl ?_
      refine AW.iconst dX7_find_23 ?_
      refine AW.iadd dX7_find_24 ?_
      refine AW.getsLN dX7_find_25 gs_X7_36 ?_
      refine AW.aload_n dX7_find_28 2 rfl rfl ?_
      refine AW.getR dX7_find_29 fl_X7_39 (show sh 1 = (0, 5, [some 2, none, some 3, some 4, none, none, none, none]) from rfl) rfl ?_
      refine AW.iload_n dX7_find_32 0 rfl rfl ?_
      refine AW.ialdN i dX7_find_33 (show sh 2 = (1, 12, []) from rfl) (by omega) (by omega) (by decide) ?_
      rw [g5 2 (by decide) (by decide) (by decide), h6 i (by omega)]
      refine AW.taldLN ((r (5 + i)).toNat) dX7_find_34 (by omega) (by omega) ?_
      refine AW.iastN (i + 1) dX7_find_35 (show sh 66 = (1, 13, []) from rfl) (by omega) (by omega) (by decide) ?_
      refine AW.aload_n dX7_find_36 1 rfl rfl ?_
      refine AW.getR dX7_find_37 fl_X7_15 (show sh 65 = (0, 7, [some 66, some 67, some 68, some 69, some 70, none]) from rfl) rfl ?_
      refine AW.iload_n dX7_find_40 0 rfl rfl ?_
      refine AW.iconst dX7_find_41 ?_
      refine AW.iadd dX7_find_42 ?_
      refine AW.getsGN dX7_find_43 gs_X7_42 ?_
      refine AW.aload_n dX7_find_46 2 rfl rfl ?_
      refine AW.getR dX7_find_47 fl_X7_39 (show sh 1 = (0, 5, [some 2, none, some 3, some 4, none, none, none, none]) from rfl) rfl ?_
      refine AW.iload_n dX7_find_50 0 rfl rfl ?_
      refine AW.ialdN i dX7_find_51 (show sh 2 = (1, 12, []) from rfl) (by omega) (by omega) (by decide) ?_
      rw [up2_c (by decide), g5 2 (by decide) (by decide) (by decide), h6 i (by omega)]
      refine AW.taldGN ((r (5 + i)).toNat) dX7_find_52 (by omega) (by omega) ?_
      refine AW.iastN (i + 1) dX7_find_53 (show sh 67 = (1, 13, []) from rfl) (by omega) (by omega) (by decide) ?_
      obtain ⟨x54, ex54⟩ : ∃ z : Int, x + 1 = z := ⟨_, rfl⟩
      refine AW.iinc [(2, vi x54), (0, rf Γ 65), (1, rf Γ 1)] dX7_find_54 0 rfl (by decide) x54 ex54 rfl ?_
      refine AW.goto 10 dX7_find_57 (by decide) ?_
      refine AW.sub [0, 1, 2] rfl ?_
      exact ih (i + 1) x54 _ (by omega) (by omega) (by rw [up2_c (by decide), up2_c (by decide)]; exact g2) (fun q hq => by
        rcases Nat.lt_or_ge i q with h | h
        · have hqi : q = i + 1 := by omega
          subst hqi
          rw [up2_c (by decide), up2_s, up2_s]; exact ⟨rfl, rfl⟩
        · rw [up2_c (by decide), up2_i (by omega), up2_i (by omega), up2_c (by decide)]; exact g3 q h) (fun a q1 q2 q3 => by rw [up2_c q3, up2_c q2]; exact g5 a q1 q2 q3) (by omega)

set_option maxRecDepth 20000 in
theorem C_find (Γ : GC) (M : Mm) (r : Nat → Int) (ho : OkR r) (hr : stRel M 1 r) (h0 : M 66 0 = 0 ∧ M 67 0 = 0) : Ct Γ uX7_find [rf Γ 65, rf Γ 1] M (fun _ M' => wayF M' r ∧ ∀ a : Nat, (a < 65 ∨ 70 < a) → M' a = M a) := by
  refine Ct.of (by decide) (Nat.le_of_ble_eq_true rfl) ?_
  show AW Γ uX7_find 0 [(0, rf Γ 65), (1, rf Γ 1)] [] M _
  refine AW.aload_n dX7_find_0 0 rfl rfl ?_
  refine AW.aload_n dX7_find_1 1 rfl rfl ?_
  refine AW.getI dX7_find_2 fl_X7_31 (show sh 1 = (0, 5, [some 2, none, some 3, some 4, none, none, none, none]) from rfl) rfl ?_
  refine AW.putI dX7_find_5 fp_X7_27 (show sh 65 = (0, 7, [some 66, some 67, some 68, some 69, some 70, none]) from rfl) rfl ?_
  refine AW.iconst dX7_find_8 ?_
  refine AW.top (fun x9 ex9 => ?_)
  refine AW.istore_n [(2, vi x9), (0, rf Γ 65), (1, rf Γ 1)] dX7_find_9 rfl (by decide) rfl ?_
  refine AW.sub [0, 1, 2] rfl ?_
  refine AW.mono (fun z M' h => ⟨⟨h.1, h.2.1, h.2.2.1⟩, h.2.2.2⟩) (find_loop Γ M r ho hr 14 0 x9 _ (by omega) (by have := ho.1; omega) (by rw [up2_s]; exact (st1u hr).1) (fun q hq => by rw [show q = 0 by omega, up2_c (by decide), up2_c (by decide)]; exact h0) (fun a q1 q2 q3 => up2_c q1) (by omega))

set_option maxRecDepth 20000 in
theorem C_leastEffort (Γ : GC) (M : Mm) (r : Nat → Int) (ho : OkR r) (hw : wayF M r) : Ct Γ uX7_leastEffort [rf Γ 65] M (Pu (EF r (r 0).toNat (r 0).toNat 0) M) := by
  refine Ct.of (by decide) (Nat.le_of_ble_eq_true rfl) ?_
  show AW Γ uX7_leastEffort 0 [(0, rf Γ 65)] [] M _
  have o0 := ho.1
  refine AW.aload_n dX7_leastEffort_0 0 rfl rfl ?_
  refine AW.getR dX7_leastEffort_1 fl_X7_18 (show sh 65 = (0, 7, [some 66, some 67, some 68, some 69, some 70, none]) from rfl) rfl ?_
  refine AW.iconst dX7_leastEffort_4 ?_
  refine AW.ialdN 0 dX7_leastEffort_5 (show sh 68 = (1, 26, []) from rfl) rfl (by decide) (by decide) ?_
  exact AW.iret rfl dX7_leastEffort_6 ⟨by rw [(hw.2.1 0 0 (by omega) (by omega) (by omega)).1]; rfl, rfl⟩

set_option maxRecDepth 20000 in
theorem C_howMany (Γ : GC) (M : Mm) (r : Nat → Int) (ho : OkR r) (hw : wayF M r) : Ct Γ uX7_howMany [rf Γ 65] M (Pu (WF r (r 0).toNat (r 0).toNat 0) M) := by
  refine Ct.of (by decide) (Nat.le_of_ble_eq_true rfl) ?_
  show AW Γ uX7_howMany 0 [(0, rf Γ 65)] [] M _
  have o0 := ho.1
  refine AW.aload_n dX7_howMany_0 0 rfl rfl ?_
  refine AW.getR dX7_howMany_1 fl_X7_21 (show sh 65 = (0, 7, [some 66, some 67, some 68, some 69, some 70, none]) from rfl) rfl ?_
  refine AW.iconst dX7_howMany_4 ?_
  refine AW.ialdN 0 dX7_howMany_5 (show sh 69 = (1, 26, []) from rfl) rfl (by decide) (by decide) ?_
  exact AW.iret rfl dX7_howMany_6 ⟨by rw [(hw.2.1 0 0 (by omega) (by omega) (by omega)).2]; rfl, rfl⟩

set_option maxRecDepth 20000 in
theorem C_leftAt (Γ : GC) (M : Mm) (r : Nat → Int) (ho : OkR r) (hw : wayF M r) (x : Int) (p : Nat) (hx : x = p) (hp : (p : Int) ≤ r 0) : Ct Γ uX7_leftAt [rf Γ 65, vi x] M (Pu (dirP r p (sdF r (r 0).toNat p)) M) := by
  refine Ct.of (by decide) (Nat.le_of_ble_eq_true rfl) ?_
  show AW Γ uX7_leftAt 0 [(0, rf Γ 65), (1, vi x)] [] M _
  have o0 := ho.1; have s2 := sdF_2 r (r 0).toNat p
  refine AW.aload_n dX7_leftAt_0 0 rfl rfl ?_
  refine AW.iload_n dX7_leftAt_1 1 rfl rfl ?_
  refine AW.aload_n dX7_leftAt_2 0 rfl rfl ?_
  refine AW.getR dX7_leftAt_3 fl_X7_24 (show sh 65 = (0, 7, [some 66, some 67, some 68, some 69, some 70, none]) from rfl) rfl ?_
  refine AW.iload_n dX7_leftAt_6 1 rfl rfl ?_
  refine AW.ialdN p dX7_leftAt_7 (show sh 70 = (1, 13, []) from rfl) (by omega) (by omega) (by decide) ?_
  rw [hw.2.2 p hp]
  refine AW.callV2ip (C_dirOf Γ M r hw.1 _ _ p (sdF r (r 0).toNat p) (by omega) (by omega) (by omega) (by omega) (by omega)) dX7_leftAt_8 mc_X7_62 (show sh 65 = (0, 7, [some 66, some 67, some 68, some 69, some 70, none]) from rfl) (fun _ => rfl) ⟨Nat.le_of_ble_eq_true rfl, Nat.le_of_ble_eq_true rfl⟩ (Nat.le_of_ble_eq_true rfl) ?_
  exact AW.iret rfl dX7_leftAt_11 ⟨rfl, rfl⟩

set_option maxRecDepth 20000 in
theorem C_rightAt (Γ : GC) (M : Mm) (r : Nat → Int) (ho : OkR r) (hw : wayF M r) (x : Int) (p : Nat) (hx : x = p) (hp : (p : Int) ≤ r 0) : Ct Γ uX7_rightAt [rf Γ 65, vi x] M (Pu (dirP r p (1 - sdF r (r 0).toNat p)) M) := by
  refine Ct.of (by decide) (Nat.le_of_ble_eq_true rfl) ?_
  show AW Γ uX7_rightAt 0 [(0, rf Γ 65), (1, vi x)] [] M _
  have o0 := ho.1; have s2 := sdF_2 r (r 0).toNat p
  refine AW.aload_n dX7_rightAt_0 0 rfl rfl ?_
  refine AW.iload_n dX7_rightAt_1 1 rfl rfl ?_
  refine AW.iconst dX7_rightAt_2 ?_
  refine AW.aload_n dX7_rightAt_3 0 rfl rfl ?_
  refine AW.getR dX7_rightAt_4 fl_X7_24 (show sh 65 = (0, 7, [some 66, some 67, some 68, some 69, some 70, none]) from rfl) rfl ?_
  refine AW.iload_n dX7_rightAt_7 1 rfl rfl ?_
  refine AW.ialdN p dX7_rightAt_8 (show sh 70 = (1, 13, []) from rfl) (by omega) (by omega) (by decide) ?_
  rw [hw.2.2 p hp]
  refine AW.isub dX7_rightAt_9 ?_
  refine AW.callV2ip (C_dirOf Γ M r hw.1 _ _ p (1 - sdF r (r 0).toNat p) (by omega) (by omega) (by omega) (by omega) (by omega)) dX7_rightAt_10 mc_X7_62 (show sh 65 = (0, 7, [some 66, some 67, some 68, some 69, some 70, none]) from rfl) (fun _ => rfl) ⟨Nat.le_of_ble_eq_true rfl, Nat.le_of_ble_eq_true rfl⟩ (Nat.le_of_ble_eq_true rfl) ?_
  exact AW.iret rfl dX7_rightAt_13 ⟨rfl, rfl⟩

def stF (r : Nat → Int) (f : Nat → Nat) : Nat → Int
  | 0 => 0
  | p + 1 => stF r f p + stepsP (dirP r p (f p)) (dirP r (p + 1) (f (p + 1)))
theorem stF_b (r : Nat → Int) (f : Nat → Nat) : ∀ p : Nat, 0 ≤ stF r f p ∧ stF r f p ≤ 4 * p
  | 0 => by simp [stF]
  | p + 1 => by have := stF_b r f p; have := stepsP_b (dirP_d r p (f p)) (dirP_d r (p + 1) (f (p + 1))); simp only [stF]; omega

set_option maxRecDepth 20000 in
theorem leftSteps_loop (Γ : GC) (M : Mm) (r : Nat → Int) (ho : OkR r) (hw : wayF M r) : ∀ (n p : Nat) (x f : Int), x = p → (p : Int) ≤ r 0 → f = stF r (sdF r (r 0).toNat) p → 12 - p < n → AW Γ uX7_leftSteps 4 [(2, vi x), (1, vi f), (0, rf Γ 65)] [] M (Pu (stF r (sdF r (r 0).toNat) (r 0).toNat) M) := by
  have o0 := ho.1
  intro n
  induction n with
  | zero => intro p x f g0 g1 g2 gm; omega
  | succ n ih =>
    intro p x f g0 g1 g2 gm
    refine AW.iload_n dX7_leftSteps_4 0 rfl rfl ?_
    refine AW.aload_n dX7_leftSteps_5 2 rfl rfl ?_
    refine AW.getI dX7_leftSteps_6 fl_X7_27 (show sh 65 = (0, 7, [some 66, some 67, some 68, some 69, some 70, none]) from rfl) rfl ?_
    rw [hw.1.1]
    refine AW.icmp_ge 36 dX7_leftSteps_9 (by decide) (by omega) (by omega) (fun c9 => ?_) (fun c9 => ?_)
    · refine AW.iload_n dX7_leftSteps_36 1 rfl rfl ?_
      exact AW.iret rfl dX7_leftSteps_37 ⟨by rw [g2, show p = (r 0).toNat by omega], rfl⟩
    · refine AW.iload_n dX7_leftSteps_12 1 rfl rfl ?_
      refine AW.aload_n dX7_leftSteps_13 2 rfl rfl ?_
      refine AW.iload_n dX7_leftSteps_14 0 rfl rfl ?_
      refine AW.callV1ip (C_leftAt Γ M r ho hw _ p (by omega) (by omega)) dX7_leftSteps_15 mc_X7_69 (show sh 65 = (0, 7, [some 66, some 67, some 68, some 69, some 70, none]) from rfl) (fun _ => rfl) ⟨Nat.le_of_ble_eq_true rfl, Nat.le_of_ble_eq_true rfl⟩ (Nat.le_of_ble_eq_true rfl) ?_
      refine AW.aload_n dX7_leftSteps_18 2 rfl rfl ?_
      refine AW.iload_n dX7_leftSteps_19 0 rfl rfl ?_
      refine AW.iconst dX7_leftSteps_20 ?_
      refine AW.iadd dX7_leftSteps_21 ?_
      refine AW.callV1ip (C_leftAt Γ M r ho hw _ (p + 1) (by omega) (by omega)) dX7_leftSteps_22 mc_X7_69 (show sh 65 = (0, 7, [some 66, some 67, some 68, some 69, some 70, none]) from rfl) (fun _ => rfl) ⟨Nat.le_of_ble_eq_true rfl, Nat.le_of_ble_eq_true rfl⟩ (Nat.le_of_ble_eq_true rfl) ?_
      refine AW.callN2ip (C_steps Γ M _ _ (dirP_d r _ _) (dirP_d r _ _)) dX7_leftSteps_25 mc_X7_73 (fun _ => rfl) ⟨Nat.le_of_ble_eq_true rfl, Nat.le_of_ble_eq_true rfl⟩ (Nat.le_of_ble_eq_true rfl) ?_
      refine AW.iadd dX7_leftSteps_28 ?_
      refine AW.top (fun f2 ef2 => ?_)
      refine AW.istore_n [(1, vi f2), (2, vi x), (0, rf Γ 65)] dX7_leftSteps_29 rfl (by decide) rfl ?_
      obtain ⟨x30, ex30⟩ : ∃ z : Int, x + 1 = z := ⟨_, rfl⟩
      refine AW.iinc [(2, vi x30), (1, vi f2), (0, rf Γ 65)] dX7_leftSteps_30 1 rfl (by decide) x30 ex30 rfl ?_
      refine AW.goto 4 dX7_leftSteps_33 (by decide) ?_
      refine AW.sub [0, 1, 2] rfl ?_
      exact ih (p + 1) x30 f2 (by omega) (by omega) (by rw [ef2, g2]; rfl) (by omega)

set_option maxRecDepth 20000 in
theorem C_leftSteps (Γ : GC) (M : Mm) (r : Nat → Int) (ho : OkR r) (hw : wayF M r) : Ct Γ uX7_leftSteps [rf Γ 65] M (Pu (stF r (sdF r (r 0).toNat) (r 0).toNat) M) := by
  refine Ct.of (by decide) (Nat.le_of_ble_eq_true rfl) ?_
  show AW Γ uX7_leftSteps 0 [(0, rf Γ 65)] [] M _
  refine AW.iconst dX7_leftSteps_0 ?_
  refine AW.top (fun x1 ex1 => ?_)
  refine AW.istore_n [(1, vi x1), (0, rf Γ 65)] dX7_leftSteps_1 rfl (by decide) rfl ?_
  refine AW.iconst dX7_leftSteps_2 ?_
  refine AW.top (fun x3 ex3 => ?_)
  refine AW.istore_n [(2, vi x3), (1, vi x1), (0, rf Γ 65)] dX7_leftSteps_3 rfl (by decide) rfl ?_
  refine AW.sub [0, 1, 2] rfl ?_
  exact leftSteps_loop Γ M r ho hw 14 0 x3 x1 (by omega) (by have := ho.1; omega) (by rw [ex1]; rfl) (by omega)

set_option maxRecDepth 20000 in
theorem rightSteps_loop (Γ : GC) (M : Mm) (r : Nat → Int) (ho : OkR r) (hw : wayF M r) : ∀ (n p : Nat) (x f : Int), x = p → (p : Int) ≤ r 0 → f = stF r (fun p => 1 - sdF r (r 0).toNat p) p → 12 - p < n → AW Γ uX7_rightSteps 4 [(2, vi x), (1, vi f), (0, rf Γ 65)] [] M (Pu (stF r (fun p => 1 - sdF r (r 0).toNat p) (r 0).toNat) M) := by
  have o0 := ho.1
  intro n
  induction n with
  | zero => intro p x f g0 g1 g2 gm; omega
  | succ n ih =>
    intro p x f g0 g1 g2 gm
    refine AW.iload_n dX7_rightSteps_4 0 rfl rfl ?_
    refine AW.aload_n dX7_rightSteps_5 2 rfl rfl ?_
    refine AW.getI dX7_rightSteps_6 fl_X7_27 (show sh 65 = (0, 7, [some 66, some 67, some 68, some 69, some 70, none]) from rfl) rfl ?_
    rw [hw.1.1]
    refine AW.icmp_ge 36 dX7_rightSteps_9 (by decide) (by omega) (by omega) (fun c9 => ?_) (fun c9 => ?_)
    · refine AW.iload_n dX7_rightSteps_36 1 rfl rfl ?_
      exact AW.iret rfl dX7_rightSteps_37 ⟨by rw [g2, show p = (r 0).toNat by omega], rfl⟩
    · refine AW.iload_n dX7_rightSteps_12 1 rfl rfl ?_
      refine AW.aload_n dX7_rightSteps_13 2 rfl rfl ?_
      refine AW.iload_n dX7_rightSteps_14 0 rfl rfl ?_
      refine AW.callV1ip (C_rightAt Γ M r ho hw _ p (by omega) (by omega)) dX7_rightSteps_15 mc_X7_76 (show sh 65 = (0, 7, [some 66, some 67, some 68, some 69, some 70, none]) from rfl) (fun _ => rfl) ⟨Nat.le_of_ble_eq_true rfl, Nat.le_of_ble_eq_true rfl⟩ (Nat.le_of_ble_eq_true rfl) ?_
      refine AW.aload_n dX7_rightSteps_18 2 rfl rfl ?_
      refine AW.iload_n dX7_rightSteps_19 0 rfl rfl ?_
      refine AW.iconst dX7_rightSteps_20 ?_
      refine AW.iadd dX7_rightSteps_21 ?_
      refine AW.callV1ip (C_rightAt Γ M r ho hw _ (p + 1) (by omega) (by omega)) dX7_rightSteps_22 mc_X7_76 (show sh 65 = (0, 7, [some 66, some 67, some 68, some 69, some 70, none]) from rfl) (fun _ => rfl) ⟨Nat.le_of_ble_eq_true rfl, Nat.le_of_ble_eq_true rfl⟩ (Nat.le_of_ble_eq_true rfl) ?_
      refine AW.callN2ip (C_steps Γ M _ _ (dirP_d r _ _) (dirP_d r _ _)) dX7_rightSteps_25 mc_X7_73 (fun _ => rfl) ⟨Nat.le_of_ble_eq_true rfl, Nat.le_of_ble_eq_true rfl⟩ (Nat.le_of_ble_eq_true rfl) ?_
      refine AW.iadd dX7_rightSteps_28 ?_
      refine AW.top (fun f2 ef2 => ?_)
      refine AW.istore_n [(1, vi f2), (2, vi x), (0, rf Γ 65)] dX7_rightSteps_29 rfl (by decide) rfl ?_
      obtain ⟨x30, ex30⟩ : ∃ z : Int, x + 1 = z := ⟨_, rfl⟩
      refine AW.iinc [(2, vi x30), (1, vi f2), (0, rf Γ 65)] dX7_rightSteps_30 1 rfl (by decide) x30 ex30 rfl ?_
      refine AW.goto 4 dX7_rightSteps_33 (by decide) ?_
      refine AW.sub [0, 1, 2] rfl ?_
      exact ih (p + 1) x30 f2 (by omega) (by omega) (by rw [ef2, g2]; rfl) (by omega)

set_option maxRecDepth 20000 in
theorem C_rightSteps (Γ : GC) (M : Mm) (r : Nat → Int) (ho : OkR r) (hw : wayF M r) : Ct Γ uX7_rightSteps [rf Γ 65] M (Pu (stF r (fun p => 1 - sdF r (r 0).toNat p) (r 0).toNat) M) := by
  refine Ct.of (by decide) (Nat.le_of_ble_eq_true rfl) ?_
  show AW Γ uX7_rightSteps 0 [(0, rf Γ 65)] [] M _
  refine AW.iconst dX7_rightSteps_0 ?_
  refine AW.top (fun x1 ex1 => ?_)
  refine AW.istore_n [(1, vi x1), (0, rf Γ 65)] dX7_rightSteps_1 rfl (by decide) rfl ?_
  refine AW.iconst dX7_rightSteps_2 ?_
  refine AW.top (fun x3 ex3 => ?_)
  refine AW.istore_n [(2, vi x3), (1, vi x1), (0, rf Γ 65)] dX7_rightSteps_3 rfl (by decide) rfl ?_
  refine AW.sub [0, 1, 2] rfl ?_
  exact rightSteps_loop Γ M r ho hw 14 0 x3 x1 (by omega) (by have := ho.1; omega) (by rw [ex1]; rfl) (by omega)

def leastS (r : Nat → Int) (c : Int) : Int := if c = 0 then EF r (r 0).toNat (r 0).toNat 0 else if c = 1 then WF r (r 0).toNat (r 0).toNat 0 else if c = 2 then stF r (sdF r (r 0).toNat) (r 0).toNat else if c = 3 then stF r (fun p => 1 - sdF r (r 0).toNat p) (r 0).toNat else -1
def armS (r : Nat → Int) (i c : Int) : Int := if (0 ≤ i ∧ i < r 0) ∧ (0 ≤ c ∧ c ≤ 1) then (if c = 0 then dirP r (i.toNat + 1) (sdF r (r 0).toNat (i.toNat + 1)) else dirP r (i.toNat + 1) (1 - sdF r (r 0).toNat (i.toNat + 1))) else -1

set_option maxRecDepth 20000 in
theorem C_least (Γ : GC) (M : Mm) (r : Nat → Int) (ho : OkR r) (hr : stRel M 1 r) (h0 : M 66 0 = 0 ∧ M 67 0 = 0) (c : Int) (hc0 : R32 c) : Ct Γ uX8_least [rf Γ 0, vi c] M (fun z M' => z = leastS r c ∧ (∀ a : Nat, (a < 65 ∨ 70 < a) → M' a = M a) ∧ (M' 66 0 = 0 ∧ M' 67 0 = 0)) := by
  refine Ct.of (by decide) (Nat.le_of_ble_eq_true rfl) ?_
  show AW Γ uX8_least 0 [(0, rf Γ 0), (1, vi c)] [] M _
  refine AW.iload_n dX8_least_0 1 rfl rfl ?_
  refine AW.if_lt 9 dX8_least_1 (by decide) (by omega) (fun c1 => ?_) (fun c1 => ?_)
  · refine AW.iconst dX8_least_9 ?_
    exact AW.iret rfl dX8_least_10 ⟨by unfold leastS; rw [if_neg (by omega), if_neg (by omega), if_neg (by omega), if_neg (by omega)], fun _ _ => rfl, h0⟩
  · refine AW.iload_n dX8_least_4 1 rfl rfl ?_
    refine AW.iconst dX8_least_5 ?_
    refine AW.icmp_le 11 dX8_least_6 (by decide) (by omega) (by omega) (fun c6 => ?_) (fun c6 => ?_)
    · refine AW.aload_n dX8_least_11 0 rfl rfl ?_
      refine AW.getR dX8_least_12 fl_X8_39 (show sh 0 = (0, 8, [some 1, some 5, some 31, some 35, none, some 61, some 65, some 71, some 76, some 79, some 83, some 85]) from rfl) rfl ?_
      refine AW.aload_n dX8_least_15 0 rfl rfl ?_
      refine AW.getR dX8_least_16 fl_X8_10 (show sh 0 = (0, 8, [some 1, some 5, some 31, some 35, none, some 61, some 65, some 71, some 76, some 79, some 83, some 85]) from rfl) rfl ?_
      refine AW.callV1v (C_find Γ M r ho hr h0) dX8_least_19 mc_X8_165 (show sh 65 = (0, 7, [some 66, some 67, some 68, some 69, some 70, none]) from rfl) (fun _ => rfl) ⟨Nat.le_of_ble_eq_true rfl, Nat.le_of_ble_eq_true rfl⟩ (Nat.le_of_ble_eq_true rfl) (fun z19 M19 h19 => ?_)
      obtain ⟨wf, of⟩ := h19
      have z0 : M19 66 0 = 0 ∧ M19 67 0 = 0 := wf.1.2 0 (by have := ho.1; omega)
      refine AW.iload_n dX8_least_22 1 rfl rfl ?_
      rcases (show c = 0 ∨ c = 1 ∨ c = 2 ∨ (c < 0 ∨ 2 < c) by omega) with hc | hc | hc | hc
      · refine AW.tabIn 48 dX8_least_23 hc0 (by omega) (by omega) (by rw [hc]; rfl) (by decide) ?_
        refine AW.aload_n dX8_least_48 0 rfl rfl ?_
        refine AW.getR dX8_least_49 fl_X8_39 (show sh 0 = (0, 8, [some 1, some 5, some 31, some 35, none, some 61, some 65, some 71, some 76, some 79, some 83, some 85]) from rfl) rfl ?_
        refine AW.callV0ip (C_leastEffort Γ _ r ho wf) dX8_least_52 mc_X8_168 (show sh 65 = (0, 7, [some 66, some 67, some 68, some 69, some 70, none]) from rfl) (fun _ => rfl) ⟨Nat.le_of_ble_eq_true rfl, Nat.le_of_ble_eq_true rfl⟩ (Nat.le_of_ble_eq_true rfl) ?_
        exact AW.iret rfl dX8_least_55 ⟨by unfold leastS; first | (rw [if_pos (by omega)]; done) | (rw [if_neg (by omega), if_pos (by omega)]; done) | (rw [if_neg (by omega), if_neg (by omega), if_pos (by omega)]; done) | (rw [if_neg (by omega), if_neg (by omega), if_neg (by omega), if_pos (by omega)]; done), of, z0⟩
      · refine AW.tabIn 56 dX8_least_23 hc0 (by omega) (by omega) (by rw [hc]; rfl) (by decide) ?_
        refine AW.aload_n dX8_least_56 0 rfl rfl ?_
        refine AW.getR dX8_least_57 fl_X8_39 (show sh 0 = (0, 8, [some 1, some 5, some 31, some 35, none, some 61, some 65, some 71, some 76, some 79, some 83, some 85]) from rfl) rfl ?_
        refine AW.callV0ip (C_howMany Γ _ r ho wf) dX8_least_60 mc_X8_171 (show sh 65 = (0, 7, [some 66, some 67, some 68, some 69, some 70, none]) from rfl) (fun _ => rfl) ⟨Nat.le_of_ble_eq_true rfl, Nat.le_of_ble_eq_true rfl⟩ (Nat.le_of_ble_eq_true rfl) ?_
        exact AW.iret rfl dX8_least_63 ⟨by unfold leastS; first | (rw [if_pos (by omega)]; done) | (rw [if_neg (by omega), if_pos (by omega)]; done) | (rw [if_neg (by omega), if_neg (by omega), if_pos (by omega)]; done) | (rw [if_neg (by omega), if_neg (by omega), if_neg (by omega), if_pos (by omega)]; done), of, z0⟩
      · refine AW.tabIn 64 dX8_least_23 hc0 (by omega) (by omega) (by rw [hc]; rfl) (by decide) ?_
        refine AW.aload_n dX8_least_64 0 rfl rfl ?_
        refine AW.getR dX8_least_65 fl_X8_39 (show sh 0 = (0, 8, [some 1, some 5, some 31, some 35, none, some 61, some 65, some 71, some 76, some 79, some 83, some 85]) from rfl) rfl ?_
        refine AW.callV0ip (C_leftSteps Γ _ r ho wf) dX8_least_68 mc_X8_174 (show sh 65 = (0, 7, [some 66, some 67, some 68, some 69, some 70, none]) from rfl) (fun _ => rfl) ⟨Nat.le_of_ble_eq_true rfl, Nat.le_of_ble_eq_true rfl⟩ (Nat.le_of_ble_eq_true rfl) ?_
        exact AW.iret rfl dX8_least_71 ⟨by unfold leastS; first | (rw [if_pos (by omega)]; done) | (rw [if_neg (by omega), if_pos (by omega)]; done) | (rw [if_neg (by omega), if_neg (by omega), if_pos (by omega)]; done) | (rw [if_neg (by omega), if_neg (by omega), if_neg (by omega), if_pos (by omega)]; done), of, z0⟩
      · refine AW.tabOut 72 dX8_least_23 hc0 hc (by decide) ?_
        refine AW.aload_n dX8_least_72 0 rfl rfl ?_
        refine AW.getR dX8_least_73 fl_X8_39 (show sh 0 = (0, 8, [some 1, some 5, some 31, some 35, none, some 61, some 65, some 71, some 76, some 79, some 83, some 85]) from rfl) rfl ?_
        refine AW.callV0ip (C_rightSteps Γ _ r ho wf) dX8_least_76 mc_X8_177 (show sh 65 = (0, 7, [some 66, some 67, some 68, some 69, some 70, none]) from rfl) (fun _ => rfl) ⟨Nat.le_of_ble_eq_true rfl, Nat.le_of_ble_eq_true rfl⟩ (Nat.le_of_ble_eq_true rfl) ?_
        exact AW.iret rfl dX8_least_79 ⟨by unfold leastS; first | (rw [if_pos (by omega)]; done) | (rw [if_neg (by omega), if_pos (by omega)]; done) | (rw [if_neg (by omega), if_neg (by omega), if_pos (by omega)]; done) | (rw [if_neg (by omega), if_neg (by omega), if_neg (by omega), if_pos (by omega)]; done), of, z0⟩
    · refine AW.iconst dX8_least_9 ?_
      exact AW.iret rfl dX8_least_10 ⟨by unfold leastS; rw [if_neg (by omega), if_neg (by omega), if_neg (by omega), if_neg (by omega)], fun _ _ => rfl, h0⟩

set_option maxRecDepth 20000 in
theorem C_arm (Γ : GC) (M : Mm) (r : Nat → Int) (ho : OkR r) (hr : stRel M 1 r) (h0 : M 66 0 = 0 ∧ M 67 0 = 0) (i c : Int) (hi : R32 i) (hc0 : R32 c) : Ct Γ uX8_arm [rf Γ 0, vi i, vi c] M (fun z M' => z = armS r i c ∧ (∀ a : Nat, (a < 65 ∨ 70 < a) → M' a = M a) ∧ (M' 66 0 = 0 ∧ M' 67 0 = 0)) := by
  refine Ct.of (by decide) (Nat.le_of_ble_eq_true rfl) ?_
  show AW Γ uX8_arm 0 [(0, rf Γ 0), (1, vi i), (2, vi c)] [] M _
  have h1 := (st1u hr).1; have o0 := ho.1
  refine AW.iload_n dX8_arm_0 1 rfl rfl ?_
  refine AW.if_lt 24 dX8_arm_1 (by decide) (by omega) (fun c1 => ?_) (fun c1 => ?_)
  · refine AW.iconst dX8_arm_24 ?_
    exact AW.iret rfl dX8_arm_25 ⟨by unfold armS; rw [if_neg (by omega)], fun _ _ => rfl, h0⟩
  · refine AW.iload_n dX8_arm_4 1 rfl rfl ?_
    refine AW.aload_n dX8_arm_5 0 rfl rfl ?_
    refine AW.getR dX8_arm_6 fl_X8_10 (show sh 0 = (0, 8, [some 1, some 5, some 31, some 35, none, some 61, some 65, some 71, some 76, some 79, some 83, some 85]) from rfl) rfl ?_
    refine AW.getI dX8_arm_9 fl_X8_137 (show sh 1 = (0, 5, [some 2, none, some 3, some 4, none, none, none, none]) from rfl) rfl ?_
    refine AW.icmp_ge 24 dX8_arm_12 (by decide) (by omega) (by omega) (fun c12 => ?_) (fun c12 => ?_)
    · refine AW.iconst dX8_arm_24 ?_
      exact AW.iret rfl dX8_arm_25 ⟨by unfold armS; rw [if_neg (by omega)], fun _ _ => rfl, h0⟩
    · refine AW.iload_n dX8_arm_15 2 rfl rfl ?_
      refine AW.if_lt 24 dX8_arm_16 (by decide) (by omega) (fun c16 => ?_) (fun c16 => ?_)
      · refine AW.iconst dX8_arm_24 ?_
        exact AW.iret rfl dX8_arm_25 ⟨by unfold armS; rw [if_neg (by omega)], fun _ _ => rfl, h0⟩
      · refine AW.iload_n dX8_arm_19 2 rfl rfl ?_
        refine AW.iconst dX8_arm_20 ?_
        refine AW.icmp_le 26 dX8_arm_21 (by decide) (by omega) (by omega) (fun c21 => ?_) (fun c21 => ?_)
        · refine AW.aload_n dX8_arm_26 0 rfl rfl ?_
          refine AW.getR dX8_arm_27 fl_X8_39 (show sh 0 = (0, 8, [some 1, some 5, some 31, some 35, none, some 61, some 65, some 71, some 76, some 79, some 83, some 85]) from rfl) rfl ?_
          refine AW.aload_n dX8_arm_30 0 rfl rfl ?_
          refine AW.getR dX8_arm_31 fl_X8_10 (show sh 0 = (0, 8, [some 1, some 5, some 31, some 35, none, some 61, some 65, some 71, some 76, some 79, some 83, some 85]) from rfl) rfl ?_
          refine AW.callV1v (C_find Γ M r ho hr h0) dX8_arm_34 mc_X8_165 (show sh 65 = (0, 7, [some 66, some 67, some 68, some 69, some 70, none]) from rfl) (fun _ => rfl) ⟨Nat.le_of_ble_eq_true rfl, Nat.le_of_ble_eq_true rfl⟩ (Nat.le_of_ble_eq_true rfl) (fun z34 M34 h34 => ?_)
          obtain ⟨wf, of⟩ := h34
          have z0 : M34 66 0 = 0 ∧ M34 67 0 = 0 := wf.1.2 0 (by have := ho.1; omega)
          refine AW.iload_n dX8_arm_37 2 rfl rfl ?_
          refine AW.if_ne 54 dX8_arm_38 (by decide) (by omega) (fun c38 => ?_) (fun c38 => ?_)
          · refine AW.aload_n dX8_arm_54 0 rfl rfl ?_
            refine AW.getR dX8_arm_55 fl_X8_39 (show sh 0 = (0, 8, [some 1, some 5, some 31, some 35, none, some 61, some 65, some 71, some 76, some 79, some 83, some 85]) from rfl) rfl ?_
            refine AW.iload_n dX8_arm_58 1 rfl rfl ?_
            refine AW.iconst dX8_arm_59 ?_
            refine AW.iadd dX8_arm_60 ?_
            refine AW.callV1ip (C_rightAt Γ _ r ho wf _ (i.toNat + 1) (by omega) (by omega)) dX8_arm_61 mc_X8_183 (show sh 65 = (0, 7, [some 66, some 67, some 68, some 69, some 70, none]) from rfl) (fun _ => rfl) ⟨Nat.le_of_ble_eq_true rfl, Nat.le_of_ble_eq_true rfl⟩ (Nat.le_of_ble_eq_true rfl) ?_
            exact AW.iret rfl dX8_arm_64 ⟨by unfold armS; rw [if_pos (by omega)]; first | (rw [if_pos (by omega)]; done) | (rw [if_neg (by omega)]; done), of, z0⟩
          · refine AW.aload_n dX8_arm_41 0 rfl rfl ?_
            refine AW.getR dX8_arm_42 fl_X8_39 (show sh 0 = (0, 8, [some 1, some 5, some 31, some 35, none, some 61, some 65, some 71, some 76, some 79, some 83, some 85]) from rfl) rfl ?_
            refine AW.iload_n dX8_arm_45 1 rfl rfl ?_
            refine AW.iconst dX8_arm_46 ?_
            refine AW.iadd dX8_arm_47 ?_
            refine AW.callV1ip (C_leftAt Γ _ r ho wf _ (i.toNat + 1) (by omega) (by omega)) dX8_arm_48 mc_X8_180 (show sh 65 = (0, 7, [some 66, some 67, some 68, some 69, some 70, none]) from rfl) (fun _ => rfl) ⟨Nat.le_of_ble_eq_true rfl, Nat.le_of_ble_eq_true rfl⟩ (Nat.le_of_ble_eq_true rfl) ?_
            refine AW.goto 64 dX8_arm_51 (by decide) ?_
            exact AW.iret rfl dX8_arm_64 ⟨by unfold armS; rw [if_pos (by omega)]; first | (rw [if_pos (by omega)]; done) | (rw [if_neg (by omega)]; done), of, z0⟩
        · refine AW.iconst dX8_arm_24 ?_
          exact AW.iret rfl dX8_arm_25 ⟨by unfold armS; rw [if_neg (by omega)], fun _ _ => rfl, h0⟩
