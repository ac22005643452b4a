/-! SHORT, as the other side finds it -/
set_option maxRecDepth 20000 in
theorem C9_side (Γ : GC) (M : Mm) (hsg : SG M) (x y : Int) (g s : Nat) (hx : x = g) (hy : y = s) (hg : g < 27) (hs : s < 2) : Ct Γ uX9_side [rf Γ 94, vi x, vi y] M (Pu (sgD g s) M) := by
  refine Ct.of (by decide) (Nat.le_of_ble_eq_true rfl) ?_
  show AW Γ uX9_side 0 [(0, rf Γ 94), (1, vi x), (2, vi y)] [] M _
  refine AW.iload_n dX9_side_0 2 rfl rfl ?_
  refine AW.if_ne 12 dX9_side_1 (by decide) (by omega) (fun c1 => ?_) (fun c1 => ?_)
  · refine AW.aload_n dX9_side_12 0 rfl rfl ?_
    refine AW.iload_n dX9_side_13 1 rfl rfl ?_
    refine AW.callV1ip (C9_high Γ M hsg _ (by omega)) dX9_side_14 mc_X9_65 (show sh 94 = (0, 9, [some 95, some 96, some 97, none, none, none, some 98, some 99, some 100, none, none, none, none, some 101, none, none, none, some 102, none, some 103, some 104, none, some 105, some 106, some 107, some 108]) from rfl) (fun _ => rfl) ⟨Nat.le_of_ble_eq_true rfl, Nat.le_of_ble_eq_true rfl⟩ (Nat.le_of_ble_eq_true rfl) ?_
    exact AW.iret rfl dX9_side_17 ⟨by unfold sgD; rw [hx]; first | (rw [if_pos (by omega)]; rfl) | (rw [if_neg (by omega)]; rfl), rfl⟩
  · refine AW.aload_n dX9_side_4 0 rfl rfl ?_
    refine AW.iload_n dX9_side_5 1 rfl rfl ?_
    refine AW.callV1ip (C9_low Γ M hsg _ (by omega)) dX9_side_6 mc_X9_61 (show sh 94 = (0, 9, [some 95, some 96, some 97, none, none, none, some 98, some 99, some 100, none, none, none, none, some 101, none, none, none, some 102, none, some 103, some 104, none, some 105, some 106, some 107, some 108]) from rfl) (fun _ => rfl) ⟨Nat.le_of_ble_eq_true rfl, Nat.le_of_ble_eq_true rfl⟩ (Nat.le_of_ble_eq_true rfl) ?_
    refine AW.goto 17 dX9_side_9 (by decide) ?_
    exact AW.iret rfl dX9_side_17 ⟨by unfold sgD; rw [hx]; first | (rw [if_pos (by omega)]; rfl) | (rw [if_neg (by omega)]; rfl), rfl⟩

set_option maxRecDepth 20000 in
theorem C9_legOf (Γ : GC) (M : Mm) (r : Nat → Int) (e96 : M 96 = r) (a b c d : Int) (ha : D8 a) (hb : D8 b) (hc : D8 c) (hd : D8 d) : Ct Γ uX9_legOf [rf Γ 94, vi a, vi b, vi c, vi d] M (Pu (100 * efD r a b c d + 1) M) := by
  refine Ct.of (by decide) (Nat.le_of_ble_eq_true rfl) ?_
  show AW Γ uX9_legOf 0 [(0, rf Γ 94), (1, vi a), (2, vi b), (3, vi c), (4, vi d)] [] M _
  refine AW.bipush (z := (100)) dX9_legOf_0 (by decide) ?_
  refine AW.aload_n dX9_legOf_2 0 rfl rfl ?_
  refine AW.getR dX9_legOf_3 fl_X9_13 (show sh 94 = (0, 9, [some 95, some 96, some 97, none, none, none, some 98, some 99, some 100, none, none, none, none, some 101, none, none, none, some 102, none, some 103, some 104, none, some 105, some 106, some 107, some 108]) from rfl) rfl ?_
  refine AW.iconst dX9_legOf_6 ?_
  refine AW.ialdN 2 dX9_legOf_7 (show sh 96 = (1, 59, []) from rfl) rfl (by decide) (by decide) ?_
  refine AW.iload_n dX9_legOf_8 1 rfl rfl ?_
  refine AW.iload_n dX9_legOf_9 3 rfl rfl ?_
  refine AW.callS2ip (C9_steps Γ M _ _ ha hc) dX9_legOf_10 mc_X9_71 (fun _ => rfl) ⟨Nat.le_of_ble_eq_true rfl, Nat.le_of_ble_eq_true rfl⟩ (Nat.le_of_ble_eq_true rfl) ?_
  refine AW.imul dX9_legOf_13 ?_
  refine AW.aload_n dX9_legOf_14 0 rfl rfl ?_
  refine AW.getR dX9_legOf_15 fl_X9_13 (show sh 94 = (0, 9, [some 95, some 96, some 97, none, none, none, some 98, some 99, some 100, none, none, none, none, some 101, none, none, none, some 102, none, some 103, some 104, none, some 105, some 106, some 107, some 108]) from rfl) rfl ?_
  refine AW.iconst dX9_legOf_18 ?_
  refine AW.ialdN 3 dX9_legOf_19 (show sh 96 = (1, 59, []) from rfl) rfl (by decide) (by decide) ?_
  refine AW.iload_n dX9_legOf_20 2 rfl rfl ?_
  refine AW.iload dX9_legOf_21 4 rfl ?_
  refine AW.callS2ip (C9_steps Γ M _ _ hb hd) dX9_legOf_23 mc_X9_71 (fun _ => rfl) ⟨Nat.le_of_ble_eq_true rfl, Nat.le_of_ble_eq_true rfl⟩ (Nat.le_of_ble_eq_true rfl) ?_
  refine AW.imul dX9_legOf_26 ?_
  refine AW.iadd dX9_legOf_27 ?_
  refine AW.imul dX9_legOf_28 ?_
  refine AW.iconst dX9_legOf_29 ?_
  refine AW.iadd dX9_legOf_30 ?_
  exact AW.iret rfl dX9_legOf_31 ⟨by rw [e96]; rfl, rfl⟩

set_option maxRecDepth 20000 in
theorem C9_lowers (Γ : GC) (M : Mm) (x v : Int) (t : Nat) (hx : x = t) (ht : t < 702) (hv : R32 v) (hm : R32 (M 98 t)) : Ct Γ uX9_lowers [rf Γ 94, vi x, vi v] M (fun _ M' => M' = up2 M 98 t (min (M 98 t) v)) := by
  refine Ct.of (by decide) (Nat.le_of_ble_eq_true rfl) ?_
  show AW Γ uX9_lowers 0 [(0, rf Γ 94), (1, vi x), (2, vi v)] [] M _
  refine AW.aload_n dX9_lowers_0 0 rfl rfl ?_
  refine AW.getR dX9_lowers_1 fl_X9_19 (show sh 94 = (0, 9, [some 95, some 96, some 97, none, none, none, some 98, some 99, some 100, none, none, none, none, some 101, none, none, none, some 102, none, some 103, some 104, none, some 105, some 106, some 107, some 108]) from rfl) rfl ?_
  refine AW.iload_n dX9_lowers_4 1 rfl rfl ?_
  refine AW.iload_n dX9_lowers_5 2 rfl rfl ?_
  refine AW.aload_n dX9_lowers_6 0 rfl rfl ?_
  refine AW.getR dX9_lowers_7 fl_X9_19 (show sh 94 = (0, 9, [some 95, some 96, some 97, none, none, none, some 98, some 99, some 100, none, none, none, none, some 101, none, none, none, some 102, none, some 103, some 104, none, some 105, some 106, some 107, some 108]) from rfl) rfl ?_
  refine AW.iload_n dX9_lowers_10 1 rfl rfl ?_
  refine AW.ialdN t dX9_lowers_11 (show sh 98 = (1, 702, []) from rfl) (by omega) (by omega) (by decide) ?_
  refine AW.icmp_ge 19 dX9_lowers_12 (by decide) (by omega) (by omega) (fun c12 => ?_) (fun c12 => ?_)
  · refine AW.aload_n dX9_lowers_19 0 rfl rfl ?_
    refine AW.getR dX9_lowers_20 fl_X9_19 (show sh 94 = (0, 9, [some 95, some 96, some 97, none, none, none, some 98, some 99, some 100, none, none, none, none, some 101, none, none, none, some 102, none, some 103, some 104, none, some 105, some 106, some 107, some 108]) from rfl) rfl ?_
    refine AW.iload_n dX9_lowers_23 1 rfl rfl ?_
    refine AW.ialdN t dX9_lowers_24 (show sh 98 = (1, 702, []) from rfl) (by omega) (by omega) (by decide) ?_
    refine AW.iastN t dX9_lowers_25 (show sh 98 = (1, 702, []) from rfl) (by omega) (by omega) (by decide) ?_
    exact AW.vret rfl dX9_lowers_26 (by first | (rw [Int.min_eq_right (by omega)]; done) | (rw [Int.min_eq_left (by omega)]; done))
  · refine AW.iload_n dX9_lowers_15 2 rfl rfl ?_
    refine AW.goto 25 dX9_lowers_16 (by decide) ?_
    refine AW.iastN t dX9_lowers_25 (show sh 98 = (1, 702, []) from rfl) (by omega) (by omega) (by decide) ?_
    exact AW.vret rfl dX9_lowers_26 (by first | (rw [Int.min_eq_right (by omega)]; done) | (rw [Int.min_eq_left (by omega)]; done))

set_option maxRecDepth 20000 in
theorem stands_loop (Γ : GC) (M : Mm) (ho : OkR (M 96)) (kx px : Int) (k p : Nat) (hkx : kx = k) (hpx : px = p) (hk : (k : Int) < M 96 1) (hp : p ≤ 12) : ∀ (n i : Nat) (x fl : Int), x = i → (i : Int) ≤ M 96 (17 + 7 * k) → ((fl = 1 ∧ (p : Int) + M 96 (17 + 7 * k) ≤ M 96 0 ∧ ∀ j : Nat, j < i → M 96 (5 + (p + j)) = M 96 (18 + 7 * k + j)) ∨ (fl = 0 ∧ ¬ stdP (M 96) k p)) → 6 - i < n → AW Γ uX9_stands 25 [(4, vi x), (3, vi fl), (0, rf Γ 94), (1, vi kx), (2, vi px)] [] M (fun z M' => M' = M ∧ ((z = 1 ∧ stdP (M 96) k p) ∨ (z = 0 ∧ ¬ stdP (M 96) k p))) := by
  obtain ⟨o0, o1, o2, o3, o4, o5, o6⟩ := id ho
  obtain ⟨k1, k2⟩ := o6 k hk
  intro n
  induction n with
  | zero => intro i x fl g0 g1 g2 gm; omega
  | succ n ih =>
    intro i x fl g0 g1 g2 gm
    refine AW.iload dX9_stands_25 0 rfl ?_
    refine AW.aload_n dX9_stands_27 2 rfl rfl ?_
    refine AW.iload_n dX9_stands_28 3 rfl rfl ?_
    refine AW.callV1ip (C9_sizeOf Γ M kx k hkx (by omega)) dX9_stands_29 mc_X9_100 (show sh 94 = (0, 9, [some 95, some 96, some 97, none, none, none, some 98, some 99, some 100, none, none, none, none, some 101, none, none, none, some 102, none, some 103, some 104, none, some 105, some 106, some 107, some 108]) from rfl) (fun _ => rfl) ⟨Nat.le_of_ble_eq_true rfl, Nat.le_of_ble_eq_true rfl⟩ (Nat.le_of_ble_eq_true rfl) ?_
    refine AW.icmp_ge 69 dX9_stands_32 (by decide) (by omega) (by omega) (fun c32 => ?_) (fun c32 => ?_)
    · refine AW.iload_n dX9_stands_69 1 rfl rfl ?_
      exact AW.zret rfl dX9_stands_70 (by omega) ⟨rfl, by
          rcases g2 with ⟨q1, q2, q3⟩ | ⟨q1, q2⟩
          · exact Or.inl ⟨q1, q2, fun j hj => q3 j (by omega)⟩
          · exact Or.inr ⟨q1, q2⟩⟩
    · refine AW.iload_n dX9_stands_35 1 rfl rfl ?_
      refine AW.if_eq 69 dX9_stands_36 (by decide) (by omega) (fun c36 => ?_) (fun c36 => ?_)
      · refine AW.iload_n dX9_stands_69 1 rfl rfl ?_
        exact AW.zret rfl dX9_stands_70 (by omega) ⟨rfl, by
            rcases g2 with ⟨q1, q2, q3⟩ | ⟨q1, q2⟩
            · exact Or.inl ⟨q1, q2, fun j hj => q3 j (by omega)⟩
            · exact Or.inr ⟨q1, q2⟩⟩
      · refine AW.aload_n dX9_stands_39 2 rfl rfl ?_
        refine AW.iload_n dX9_stands_40 4 rfl rfl ?_
        refine AW.iload dX9_stands_41 0 rfl ?_
        refine AW.iadd dX9_stands_43 ?_
        refine AW.callV1ip (C9_at Γ M _ (p + i) (by omega) (by omega)) dX9_stands_44 mc_X9_91 (show sh 94 = (0, 9, [some 95, some 96, some 97, none, none, none, some 98, some 99, some 100, none, none, none, none, some 101, none, none, none, some 102, none, some 103, some 104, none, some 105, some 106, some 107, some 108]) from rfl) (fun _ => rfl) ⟨Nat.le_of_ble_eq_true rfl, Nat.le_of_ble_eq_true rfl⟩ (Nat.le_of_ble_eq_true rfl) ?_
        refine AW.aload_n dX9_stands_47 2 rfl rfl ?_
        refine AW.iload_n dX9_stands_48 3 rfl rfl ?_
        refine AW.iload dX9_stands_49 0 rfl ?_
        refine AW.callV2ip (C9_ofWord Γ M kx x k i hkx g0 (by omega) (by omega)) dX9_stands_51 mc_X9_103 (show sh 94 = (0, 9, [some 95, some 96, some 97, none, none, none, some 98, some 99, some 100, none, none, none, none, some 101, none, none, none, some 102, none, some 103, some 104, none, some 105, some 106, some 107, some 108]) from rfl) (fun _ => rfl) ⟨Nat.le_of_ble_eq_true rfl, Nat.le_of_ble_eq_true rfl⟩ (Nat.le_of_ble_eq_true rfl) ?_
        have hb1 := o5 (p + i) (by omega)
        have hb2 := k2 i (by omega)
        refine AW.icmp_ne 61 dX9_stands_54 (by decide) (by omega) (by omega) (fun c54 => ?_) (fun c54 => ?_)
        · refine AW.iconst dX9_stands_61 ?_
          refine AW.top (fun f2 ef2 => ?_)
          refine AW.istore_n [(3, vi f2), (4, vi x), (0, rf Γ 94), (1, vi kx), (2, vi px)] dX9_stands_62 rfl (by decide) rfl ?_
          obtain ⟨x63, ex63⟩ : ∃ z : Int, x + 1 = z := ⟨_, rfl⟩
          refine AW.iinc [(4, vi x63), (3, vi f2), (0, rf Γ 94), (1, vi kx), (2, vi px)] dX9_stands_63 1 rfl (by decide) x63 ex63 rfl ?_
          refine AW.goto 25 dX9_stands_66 (by decide) ?_
          refine AW.sub [0, 1, 2, 3, 4] rfl ?_
          refine ih (i + 1) x63 f2 (by omega) (by omega) ?_ (by omega)
          rcases g2 with ⟨q1, q2, q3⟩ | ⟨q1, q2⟩
          · first
              | exact Or.inl ⟨by omega, q2, fun j hj => by
                  by_cases e : j = i
                  · rw [e]; omega
                  · exact q3 j (by omega)⟩
              | exact Or.inr ⟨by omega, fun q => by have := q.2 i (by omega); omega⟩
          · omega
        · refine AW.iconst dX9_stands_57 ?_
          refine AW.goto 62 dX9_stands_58 (by decide) ?_
          refine AW.top (fun f2 ef2 => ?_)
          refine AW.istore_n [(3, vi f2), (4, vi x), (0, rf Γ 94), (1, vi kx), (2, vi px)] dX9_stands_62 rfl (by decide) rfl ?_
          obtain ⟨x63, ex63⟩ : ∃ z : Int, x + 1 = z := ⟨_, rfl⟩
          refine AW.iinc [(4, vi x63), (3, vi f2), (0, rf Γ 94), (1, vi kx), (2, vi px)] dX9_stands_63 1 rfl (by decide) x63 ex63 rfl ?_
          refine AW.goto 25 dX9_stands_66 (by decide) ?_
          refine AW.sub [0, 1, 2, 3, 4] rfl ?_
          refine ih (i + 1) x63 f2 (by omega) (by omega) ?_ (by omega)
          rcases g2 with ⟨q1, q2, q3⟩ | ⟨q1, q2⟩
          · first
              | exact Or.inl ⟨by omega, q2, fun j hj => by
                  by_cases e : j = i
                  · rw [e]; omega
                  · exact q3 j (by omega)⟩
              | exact Or.inr ⟨by omega, fun q => by have := q.2 i (by omega); omega⟩
          · omega

set_option maxRecDepth 20000 in
theorem C9_stands (Γ : GC) (M : Mm) (ho : OkR (M 96)) (kx px : Int) (k p : Nat) (hkx : kx = k) (hpx : px = p) (hk : (k : Int) < M 96 1) (hp : p ≤ 12) : Ct Γ uX9_stands [rf Γ 94, vi kx, vi px] M (fun z M' => M' = M ∧ ((z = 1 ∧ stdP (M 96) k p) ∨ (z = 0 ∧ ¬ stdP (M 96) k p))) := by
  refine Ct.of (by decide) (Nat.le_of_ble_eq_true rfl) ?_
  show AW Γ uX9_stands 0 [(0, rf Γ 94), (1, vi kx), (2, vi px)] [] M _
  obtain ⟨o0, o1, o2, o3, o4, o5, o6⟩ := id ho
  obtain ⟨k1, k2⟩ := o6 k hk
  refine AW.iload_n dX9_stands_0 2 rfl rfl ?_
  refine AW.aload_n dX9_stands_1 0 rfl rfl ?_
  refine AW.iload_n dX9_stands_2 1 rfl rfl ?_
  refine AW.callV1ip (C9_sizeOf Γ M kx k hkx (by omega)) dX9_stands_3 mc_X9_100 (show sh 94 = (0, 9, [some 95, some 96, some 97, none, none, none, some 98, some 99, some 100, none, none, none, none, some 101, none, none, none, some 102, none, some 103, some 104, none, some 105, some 106, some 107, some 108]) from rfl) (fun _ => rfl) ⟨Nat.le_of_ble_eq_true rfl, Nat.le_of_ble_eq_true rfl⟩ (Nat.le_of_ble_eq_true rfl) ?_
  refine AW.iadd dX9_stands_6 ?_
  refine AW.aload_n dX9_stands_7 0 rfl rfl ?_
  refine AW.getR dX9_stands_8 fl_X9_13 (show sh 94 = (0, 9, [some 95, some 96, some 97, none, none, none, some 98, some 99, some 100, none, none, none, none, some 101, none, none, none, some 102, none, some 103, some 104, none, some 105, some 106, some 107, some 108]) from rfl) rfl ?_
  refine AW.iconst dX9_stands_11 ?_
  refine AW.ialdN 0 dX9_stands_12 (show sh 96 = (1, 59, []) from rfl) rfl (by decide) (by decide) ?_
  refine AW.icmp_gt 20 dX9_stands_13 (by decide) (by omega) (by omega) (fun c13 => ?_) (fun c13 => ?_)
  · refine AW.iconst dX9_stands_20 ?_
    refine AW.top (fun x21 ex21 => ?_)
    refine AW.istore_n [(3, vi x21), (0, rf Γ 94), (1, vi kx), (2, vi px)] dX9_stands_21 rfl (by decide) rfl ?_
    refine AW.iconst dX9_stands_22 ?_
    refine AW.top (fun x23 ex23 => ?_)
    refine AW.istore [(4, vi x23), (3, vi x21), (0, rf Γ 94), (1, vi kx), (2, vi px)] dX9_stands_23 (by decide) rfl ?_
    refine AW.sub [0, 1, 2, 3, 4] rfl ?_
    exact stands_loop Γ M ho kx px k p hkx hpx hk hp 8 0 x23 x21 (by omega) (by omega) (by first | exact Or.inl ⟨by omega, by omega, fun j hj => by omega⟩ | exact Or.inr ⟨by omega, fun q => by have := q.1; omega⟩) (by omega)
  · refine AW.iconst dX9_stands_16 ?_
    refine AW.goto 21 dX9_stands_17 (by decide) ?_
    refine AW.top (fun x21 ex21 => ?_)
    refine AW.istore_n [(3, vi x21), (0, rf Γ 94), (1, vi kx), (2, vi px)] dX9_stands_21 rfl (by decide) rfl ?_
    refine AW.iconst dX9_stands_22 ?_
    refine AW.top (fun x23 ex23 => ?_)
    refine AW.istore [(4, vi x23), (3, vi x21), (0, rf Γ 94), (1, vi kx), (2, vi px)] dX9_stands_23 (by decide) rfl ?_
    refine AW.sub [0, 1, 2, 3, 4] rfl ?_
    exact stands_loop Γ M ho kx px k p hkx hpx hk hp 8 0 x23 x21 (by omega) (by omega) (by first | exact Or.inl ⟨by omega, by omega, fun j hj => by omega⟩ | exact Or.inr ⟨by omega, fun q => by have := q.1; omega⟩) (by omega)

/-- what a leg costs from last (2 g + s) at place m -/
def cst (r : Nat → Int) (m l g : Nat) (b : Int) (w : Nat) : Int := if b < 0 then 100 * efT r (lD m (l / 2) (l % 2)) (rD m (l / 2) (l % 2)) g (w % 2) + 1 else (100 * efT r (lD m (l / 2) (l % 2)) (rD m (l / 2) (l % 2)) 26 (w / 2) + 1) + (100 * efT r (sgD 26 (w / 2)) (sgD 26 (1 - w / 2)) g (w % 2) + 1)
theorem cst_b {r : Nat → Int} (ho : OkR r) (m l g : Nat) (b : Int) (w : Nat) : 1 ≤ cst r m l g b w ∧ cst r m l g b w ≤ 6402 := by
  have h1 := efT_b ho (lD_d m (l / 2) (l % 2)) (rD_d m (l / 2) (l % 2)) g (w % 2)
  have h2 := efT_b ho (lD_d m (l / 2) (l % 2)) (rD_d m (l / 2) (l % 2)) 26 (w / 2)
  have h3 := efT_b ho (sgD_d 26 (w / 2)) (sgD_d 26 (1 - w / 2)) g (w % 2)
  unfold cst; split <;> omega
def CG (r : Nat → Int) (M : Mm) (m g : Nat) (b : Int) (e0 w0 s : Nat) (c : Int) : Prop := ∃ l w : Nat, (l < 54 ∧ w < 4) ∧ (l < e0 ∨ (l = e0 ∧ w < w0)) ∧ w % 2 = s ∧ M 98 (54 * m + l) < 1000000 ∧ c = M 98 (54 * m + l) + cst r m l g b w
theorem CG_m {r : Nat → Int} {M : Mm} {m g e0 w0 e1 w1 s : Nat} {b c : Int} (h : CG r M m g b e0 w0 s c) (hh : e0 < e1 ∨ (e0 = e1 ∧ w0 ≤ w1)) : CG r M m g b e1 w1 s c := by
  obtain ⟨l, w, a1, a2, a3⟩ := h; exact ⟨l, w, a1, by omega, a3⟩
theorem CG_o {r : Nat → Int} {M : Mm} {m g e0 w0 s : Nat} {b c : Int} (hs : s ≠ w0 % 2) (h : CG r M m g b e0 (w0 + 1) s c) : CG r M m g b e0 w0 s c := by
  obtain ⟨l, w, a1, a2, a3, a4⟩ := h
  exact ⟨l, w, a1, by have : ¬ (l = e0 ∧ w = w0) := fun q => hs (by rw [← q.2]; exact a3.symm); omega, a3, a4⟩
theorem CG_s {r : Nat → Int} {M : Mm} {m g e0 w0 s : Nat} {b c : Int} (h : CG r M m g b e0 (w0 + 1) s c) : CG r M m g b e0 w0 s c ∨ c = M 98 (54 * m + e0) + cst r m e0 g b w0 := by
  obtain ⟨l, w, a1, a2, a3, a4, a5⟩ := h
  by_cases q : l = e0 ∧ w = w0
  · rw [q.1, q.2] at a5; exact Or.inr a5
  · exact Or.inl ⟨l, w, a1, by omega, a3, a4, a5⟩
theorem CG_4 {r : Nat → Int} {M : Mm} {m g e0 s : Nat} {b c : Int} (h : CG r M m g b (e0 + 1) 0 s c) : CG r M m g b e0 4 s c := by
  obtain ⟨l, w, a1, a2, a3⟩ := h; exact ⟨l, w, a1, by omega, a3⟩
theorem CG_n {r : Nat → Int} {M : Mm} {m g e0 s : Nat} {b c : Int} (hn : ¬ M 98 (54 * m + e0) < 1000000) (h : CG r M m g b (e0 + 1) 0 s c) : CG r M m g b e0 0 s c := by
  obtain ⟨l, w, a1, a2, a3, a4, a5⟩ := h
  exact ⟨l, w, a1, by have : ¬ l = e0 := fun q => hn (by rw [← q]; exact a4); omega, a3, a4, a5⟩
def gP (r : Nat → Int) (M N : Mm) (m tgt g : Nat) (b : Int) (e0 w0 : Nat) : Prop := (∀ a : Nat, a ≠ 98 → N a = M a) ∧ (∀ c : Nat, c ≠ tgt + 0 → c ≠ tgt + 1 → N 98 c = M 98 c) ∧ ∀ s : Nat, s < 2 → minP (N 98 (tgt + s)) (M 98 (tgt + s)) (CG r M m g b e0 w0 s)
theorem gP_4 {r : Nat → Int} {M N : Mm} {m tgt g e0 : Nat} {b : Int} (h : gP r M N m tgt g b e0 4) : gP r M N m tgt g b (e0 + 1) 0 :=
  ⟨h.1, h.2.1, fun s hs => minP_o (h.2.2 s hs) (fun _ x => CG_4 x) (fun _ x => CG_m x (by omega))⟩
theorem gP_n {r : Nat → Int} {M N : Mm} {m tgt g e0 : Nat} {b : Int} (h : gP r M N m tgt g b e0 0) (hn : ¬ M 98 (54 * m + e0) < 1000000) : gP r M N m tgt g b (e0 + 1) 0 :=
  ⟨h.1, h.2.1, fun s hs => minP_o (h.2.2 s hs) (fun _ x => CG_n hn x) (fun _ x => CG_m x (by omega))⟩
theorem gP_s {r : Nat → Int} {M N : Mm} {m tgt g e0 w0 : Nat} {b : Int} (h : gP r M N m tgt g b e0 w0) (he : e0 < 54) (hw : w0 < 4) (hn : M 98 (54 * m + e0) < 1000000) : gP r M (up2 N 98 (tgt + w0 % 2) (min (N 98 (tgt + w0 % 2)) (M 98 (54 * m + e0) + cst r m e0 g b w0))) m tgt g b e0 (w0 + 1) := by
  obtain ⟨a1, a2, a3⟩ := h
  refine ⟨fun a q => by rw [up2_c q]; exact a1 a q, fun c q1 q2 => by rw [up2_i (by omega)]; exact a2 c q1 q2, fun s hs => ?_⟩
  by_cases q : s = w0 % 2
  · subst q
    rw [up2_s]
    exact minP_s (a3 _ hs) (fun _ x => CG_s x) (fun _ x => CG_m x (by omega)) ⟨e0, w0, ⟨he, hw⟩, by omega, rfl, hn, rfl⟩
  · rw [up2_i (by omega)]
    exact minP_o (a3 s hs) (fun _ x => CG_o q x) (fun _ x => CG_m x (by omega))
def rInv (r : Nat → Int) (m q : Nat) (N : Mm) : Prop := ∀ n g s : Nat, n ≤ 12 → g < 27 → s < 2 → (∀ (κ : Nat) (E S : Int), PB r m q n κ g s E S → N 98 (54 * n + 2 * g + s) ≤ 100 * E + S) ∧ (N 98 (54 * n + 2 * g + s) = 1000000 ∨ ∃ (κ : Nat) (E S : Int), PB r m q n κ g s E S ∧ N 98 (54 * n + 2 * g + s) = 100 * E + S)
theorem PBr {r : Nat → Int} (ho : OkR r) {m q n κ g s : Nat} {E S : Int} (h : PB r m q n κ g s E S) : 0 ≤ 100 * E + S ∧ 100 * E + S ≤ 80000 := by
  have := Pth_b ho (PB_Pth h); have := ho.1; omega
theorem rInv_b {r : Nat → Int} (ho : OkR r) {m q : Nat} {N : Mm} (h : rInv r m q N) (c : Nat) (hc : c < 702) : 0 ≤ N 98 c ∧ N 98 c ≤ 1000000 := by
  have h1 := (h (c / 54) (c % 54 / 2) (c % 2) (by omega) (by omega) (by omega)).2
  rw [show 54 * (c / 54) + 2 * (c % 54 / 2) + c % 2 = c by omega] at h1
  rcases h1 with q | ⟨g, E, S, q1, q2⟩
  · omega
  · have := PBr ho q1; omega
theorem rInv.frame {r : Nat → Int} {m q : Nat} {M N : Mm} (h : rInv r m q M) (h2 : N 98 = M 98) : rInv r m q N := by
  unfold rInv; rw [h2]; exact h
theorem rInv_e {r : Nat → Int} (ho : OkR r) {m q : Nat} {M : Mm} (h : rInv r m q M) {g s : Nat} {E S : Int} (hp : Pth r m g s E S) : M 98 (54 * m + (2 * g + s)) ≤ 100 * E + S ∧ 100 * E + S < 1000000 := by
  obtain ⟨κ, k1, hb⟩ := Pth_PB ho hp (Nat.le_refl m) q
  have hpb := Pth_b ho hp
  have := ho.1
  have := (h m g s (by omega) (by omega) (by omega)).1 κ E S hb
  have := PBr ho hb
  rw [← Nat.add_assoc]
  omega
theorem rInv_f {r : Nat → Int} {m q : Nat} (hm : m ≤ 12) {M : Mm} (h : rInv r m q M) {l : Nat} (hl : l < 54) (hn : M 98 (54 * m + l) < 1000000) : ∃ E S : Int, Pth r m (l / 2) (l % 2) E S ∧ M 98 (54 * m + l) = 100 * E + S := by
  have h1 := (h m (l / 2) (l % 2) hm (by omega) (by omega)).2
  rw [show 54 * m + 2 * (l / 2) + l % 2 = 54 * m + l by omega] at h1
  rcases h1 with x | ⟨κ, E, S, x1, x2⟩
  · omega
  · exact ⟨E, S, PB_Pth x1, x2⟩
theorem lemR {r : Nat → Int} (ho : OkR r) {m q t g : Nat} {b : Int} {M N : Mm} (hm : (m : Int) < r 0) (hg27 : g < 27) (h : rInv r m q M) (hl : gP r M N m (54 * t + 2 * g) g b 54 0)
    (hE : ∀ (g' s' n g2 s : Nat) (e c : Int), s' < 2 → Edg r m g' s' q n g2 s e c → (n = t ∧ g2 = g) ∧ ∃ w : Nat, w < 4 ∧ w % 2 = s ∧ cst r m (2 * g' + s') g b w = 100 * e + c)
    (hE2 : ∀ (l w : Nat), l < 54 → w < 4 → ∃ e c : Int, Edg r m (l / 2) (l % 2) q t g (w % 2) e c ∧ cst r m l g b w = 100 * e + c) : rInv r m (q + 1) N := by
  obtain ⟨a1, a2, a3⟩ := hl
  have hr0 := ho.1
  intro n g2 s hn hg hs
  by_cases x : n = t ∧ g2 = g
  · obtain ⟨x1, x2⟩ := x
    subst x1; subst x2
    obtain ⟨b1, b2, b3⟩ := a3 s hs
    refine ⟨fun κ E S hp => ?_, ?_⟩
    · rcases PB_split hp with hp | ⟨hk, g', s', e, c, E', S', p1, p2, p3, p4⟩
      · have := (h n g2 s hn hg hs).1 κ E S hp; omega
      · rw [hk] at p2
        have hb := Pth_b ho p1
        obtain ⟨_, w, w1, w2, w3⟩ := hE g' s' n g2 s e c (by omega) p2
        have y := rInv_e ho h p1
        have := b2 _ ⟨2 * g' + s', w, ⟨by omega, w1⟩, Or.inl (by omega), w2, by omega, rfl⟩
        omega
    · rcases b3 with y | ⟨l, w, y1, y2, y3, y4, y5⟩
      · rcases (h n g2 s hn hg hs).2 with z | ⟨κ, E, S, z1, z2⟩
        · exact Or.inl (by omega)
        · exact Or.inr ⟨κ, E, S, PB_up z1 (by omega), by omega⟩
      · obtain ⟨E, S, p1, p2⟩ := rInv_f (by omega) h y1.1 y4
        obtain ⟨e, c, e1, e2⟩ := hE2 l w y1.1 y1.2
        rw [y3] at e1
        exact Or.inr ⟨q, E + e, S + c, PB_new p1 e1, by omega⟩
  · have hne : 54 * n + 2 * g2 + s ≠ 54 * t + 2 * g + 0 ∧ 54 * n + 2 * g2 + s ≠ 54 * t + 2 * g + 1 := by
      constructor <;> (intro y; apply x; constructor <;> omega)
    rw [a2 _ hne.1 hne.2]
    obtain ⟨b1, b2⟩ := h n g2 s hn hg hs
    refine ⟨fun κ E S hp => ?_, ?_⟩
    · rcases PB_split hp with hp | ⟨hk, g', s', e, c, E', S', p1, p2, p3, p4⟩
      · exact b1 κ E S hp
      · rw [hk] at p2
        exact absurd (hE g' s' n g2 s e c (Pth_b ho p1).2.2.2.2 p2).1 x
    · rcases b2 with z | ⟨κ, E, S, z1, z2⟩
      · exact Or.inl z
      · exact Or.inr ⟨κ, E, S, PB_up z1 (by omega), z2⟩

theorem lemR1 {r : Nat → Int} (ho : OkR r) {m : Nat} {M N : Mm} (hm : (m : Int) < r 0) (h : rInv r m 0 M) (hl : gP r M N m (54 * (m + 1) + 2 * (r (5 + m)).toNat) (r (5 + m)).toNat (-1) 54 0) : rInv r m 1 N := by
  have hb := ho.2.2.2.2.2.1 m hm
  refine lemR ho hm (by omega) h hl (fun g' s' n g2 s e c hs' hd => ?_) (fun l w hl hw => ?_)
  · obtain ⟨⟨d1, d2⟩, d⟩ := hd
    rcases d with ⟨_, e1, e2, e3, e4⟩ | ⟨f, e1, _⟩
    · refine ⟨⟨e1, e2⟩, s, by omega, by omega, ?_⟩
      unfold cst; rw [if_pos (by decide), e3, e4, e2, show (2 * g' + s') / 2 = g' by omega, show (2 * g' + s') % 2 = s' by omega, show s % 2 = s by omega]
    · omega
  · refine ⟨_, _, ⟨⟨hm, by omega⟩, Or.inl ⟨rfl, rfl, rfl, rfl, rfl⟩⟩, ?_⟩
    unfold cst; rw [if_pos (by decide)]
theorem lemR2 {r : Nat → Int} (ho : OkR r) {m k : Nat} {M N : Mm} (hm : (m : Int) < r 0) (hk : (k : Int) < r 1) (hst : stdP r k m) (h : rInv r m (k + 1) M) (hl : gP r M N m (54 * (m + (r (17 + 7 * k)).toNat) + 2 * k) k 26 54 0) : rInv r m (k + 2) N := by
  have h1 := ho.2.1
  refine lemR ho hm (by omega) h hl (fun g' s' n g2 s e c hs' hd => ?_) (fun l w hl hw => ?_)
  · obtain ⟨⟨d1, d2⟩, d⟩ := hd
    rcases d with ⟨e1, _⟩ | ⟨f, e1, e2, e3, e4, e5, e6, e7⟩
    · omega
    · have hg : g2 = k := by omega
      subst hg
      refine ⟨⟨e5, rfl⟩, 2 * f + s, by omega, by omega, ?_⟩
      unfold cst; rw [if_neg (by decide), e6, e7, show (2 * g' + s') / 2 = g' by omega, show (2 * g' + s') % 2 = s' by omega, show (2 * f + s) % 2 = s by omega, show (2 * f + s) / 2 = f by omega]
      omega
  · refine ⟨_, _, ⟨⟨hm, by omega⟩, Or.inr ⟨w / 2, rfl, hk, hst, by omega, rfl, rfl, rfl⟩⟩, ?_⟩
    unfold cst; rw [if_neg (by decide)]; omega
theorem lemR3 {r : Nat → Int} {m k : Nat} {N : Mm} (h : rInv r m (k + 1) N) (hs : ¬ stdP r k m) : rInv r m (k + 2) N := by
  intro n g s hn hg hs2
  obtain ⟨b1, b2⟩ := h n g s hn hg hs2
  refine ⟨fun κ E S hp => ?_, ?_⟩
  · rcases PB_split hp with hp | ⟨q, g', s', e, c, E', S', p1, p2, p3, p4⟩
    · exact b1 κ E S hp
    · exfalso
      rcases p2.2 with ⟨d1, _⟩ | ⟨f, d1, d2, d3, _⟩
      · omega
      · exact hs (by rw [show k = g by omega]; exact d3)
  · rcases b2 with x | ⟨κ, E, S, x1, x2⟩
    · exact Or.inl x
    · exact Or.inr ⟨κ, E, S, PB_up x1 (by omega), x2⟩
theorem rInv_next {r : Nat → Int} (ho : OkR r) {m : Nat} {N : Mm} (h : rInv r m ((r 1).toNat + 1) N) : rInv r (m + 1) 0 N := fun n g s hn hg hs => by
  obtain ⟨a, b⟩ := h n g s hn hg hs
  refine ⟨fun κ E S hp => a κ E S ((PB_next ho).mp hp), ?_⟩
  rcases b with b | ⟨κ, E, S, b1, b2⟩
  · exact Or.inl b
  · exact Or.inr ⟨κ, E, S, (PB_next ho).mpr b1, b2⟩
theorem gP_b {r : Nat → Int} (ho : OkR r) {M N : Mm} {m tgt g e0 w0 s q : Nat} {b : Int} (hm : (m : Int) < r 0) (h : rInv r m q M) (hl : gP r M N m tgt g b e0 w0) (hs : s < 2) (ht : tgt + s < 702) : 0 ≤ N 98 (tgt + s) ∧ N 98 (tgt + s) ≤ 1000000 := by
  have hr0 := ho.1
  obtain ⟨d1, d2, d3⟩ := hl.2.2 s hs
  have y := rInv_b ho h (tgt + s) ht
  refine ⟨?_, by omega⟩
  rcases d3 with x | ⟨l, w, q1, q2, q3, q4, q5⟩
  · omega
  · have z := rInv_b ho h (54 * m + l) (by omega)
    have := cst_b ho m l g b w
    omega

set_option maxRecDepth 20000 in
theorem goesOn_loop1 (Γ : GC) (M : Mm) (hsg : SG M) (r : Nat → Int) (e96 : M 96 = r) (ho : OkR r) (m g o q : Nat) (mx gx on b : Int) (hmx : mx = m) (hgx : gx = g) (hon : on = o) (hb : b = -1 ∨ b = 26) (hm : (m : Int) < r 0) (hg : g < 27) (ho1 : 1 ≤ o ∧ m + o ≤ 12) (hI : rInv r m q M) (e : Nat) (x had fl fr : Int) (hxe : x = e) (he : e < 54) (hhad : had = M 98 (54 * m + e)) (hfl : fl = lD m (e / 2) (e % 2)) (hfr : fr = rD m (e / 2) (e % 2)) (Q : Int → Mm → Prop) (hx : ∀ (y : Int) (N : Mm), gP r M N m (54 * (m + o) + 2 * g) g b (e + 1) 0 → AW Γ uX9_goesOn 224 [(9, vi y), (8, vi fr), (7, vi fl), (6, vi had), (5, vi x), (0, rf Γ 94), (1, vi mx), (2, vi gx), (3, vi on), (4, vi b)] [] N Q) : ∀ (n v : Nat) (y : Int) (N : Mm), y = v → v ≤ 4 → gP r M N m (54 * (m + o) + 2 * g) g b e v → (0 < v → M 98 (54 * m + e) < 1000000) → 4 - v < n → AW Γ uX9_goesOn 73 [(9, vi y), (8, vi fr), (7, vi fl), (6, vi had), (5, vi x), (0, rf Γ 94), (1, vi mx), (2, vi gx), (3, vi on), (4, vi b)] [] N Q := by
  have hr0 := ho.1
  have bb := rInv_b ho hI (54 * m + e) (by omega)
  intro n
  induction n with
  | zero => intro v y N g0 g1 g2 g3 gm; omega
  | succ n ih =>
    intro v y N g0 g1 g2 g3 gm
    have eN : N 96 = r := by rw [g2.1 96 (by decide)]; exact e96
    have sgN : SG N := fun j hj => by rw [g2.1 95 (by decide)]; exact hsg j hj
    refine AW.iload dX9_goesOn_73 0 rfl ?_
    refine AW.iconst dX9_goesOn_75 ?_
    refine AW.icmp_ge 224 dX9_goesOn_76 (by decide) (by omega) (by omega) (fun c76 => ?_) (fun c76 => ?_)
    · refine AW.sub [0, 1, 2, 3, 4, 5, 6, 7, 8, 9] rfl ?_
      exact hx y N (gP_4 (by rw [show 4 = v by omega]; exact g2))
    · refine AW.iload dX9_goesOn_79 3 rfl ?_
      refine AW.ldc (z := 1000000) dX9_goesOn_81 kc_X9_166 (by decide +kernel) ?_
      refine AW.icmp_ge 224 dX9_goesOn_83 (by decide) (by omega) (by omega) (fun c83 => ?_) (fun c83 => ?_)
      · refine AW.sub [0, 1, 2, 3, 4, 5, 6, 7, 8, 9] rfl ?_
        exact hx y N (by
          rcases (show v = 0 ∨ 0 < v by omega) with q | q
          · subst q; exact gP_n g2 (by omega)
          · have := g3 q; omega)
      · refine AW.iload dX9_goesOn_86 3 rfl ?_
        refine AW.top (fun c0 ec0 => ?_)
        refine AW.istore [(10, vi c0), (9, vi y), (8, vi fr), (7, vi fl), (6, vi had), (5, vi x), (0, rf Γ 94), (1, vi mx), (2, vi gx), (3, vi on), (4, vi b)] dX9_goesOn_88 (by decide) rfl ?_
        refine AW.iload dX9_goesOn_90 3 rfl ?_
        refine AW.top (fun l0 el0 => ?_)
        refine AW.istore [(11, vi l0), (10, vi c0), (9, vi y), (8, vi fr), (7, vi fl), (6, vi had), (5, vi x), (0, rf Γ 94), (1, vi mx), (2, vi gx), (3, vi on), (4, vi b)] dX9_goesOn_92 (by decide) rfl ?_
        refine AW.iload dX9_goesOn_94 3 rfl ?_
        refine AW.top (fun r0 er0 => ?_)
        refine AW.istore [(12, vi r0), (11, vi l0), (10, vi c0), (9, vi y), (8, vi fr), (7, vi fl), (6, vi had), (5, vi x), (0, rf Γ 94), (1, vi mx), (2, vi gx), (3, vi on), (4, vi b)] dX9_goesOn_96 (by decide) rfl ?_
        refine AW.iload dX9_goesOn_98 12 rfl ?_
        refine AW.if_lt 164 dX9_goesOn_100 (by decide) (by omega) (fun c100 => ?_) (fun c100 => ?_)
        · refine AW.iload dX9_goesOn_164 2 rfl ?_
          refine AW.aload_n dX9_goesOn_166 8 rfl rfl ?_
          refine AW.iload dX9_goesOn_167 1 rfl ?_
          refine AW.iload dX9_goesOn_169 0 rfl ?_
          refine AW.aload_n dX9_goesOn_171 8 rfl rfl ?_
          refine AW.iload_n dX9_goesOn_172 10 rfl rfl ?_
          refine AW.iload dX9_goesOn_173 3 rfl ?_
          refine AW.iconst dX9_goesOn_175 ?_
          refine AW.irem dX9_goesOn_176 (by omega) (by omega) ?_
          refine AW.callV2ip (C9_side Γ N sgN _ _ g (v % 2) (by omega) (by omega) (by omega) (by omega)) dX9_goesOn_177 mc_X9_163 (show sh 94 = (0, 9, [some 95, some 96, some 97, none, none, none, some 98, some 99, some 100, none, none, none, none, some 101, none, none, none, some 102, none, some 103, some 104, none, some 105, some 106, some 107, some 108]) from rfl) (fun _ => rfl) ⟨Nat.le_of_ble_eq_true rfl, Nat.le_of_ble_eq_true rfl⟩ (Nat.le_of_ble_eq_true rfl) ?_
          refine AW.aload_n dX9_goesOn_180 8 rfl rfl ?_
          refine AW.iload_n dX9_goesOn_181 10 rfl rfl ?_
          refine AW.iconst dX9_goesOn_182 ?_
          refine AW.iload dX9_goesOn_183 3 rfl ?_
          refine AW.iconst dX9_goesOn_185 ?_
          refine AW.irem dX9_goesOn_186 (by omega) (by omega) ?_
          refine AW.isub dX9_goesOn_187 ?_
          refine AW.callV2ip (C9_side Γ N sgN _ _ g (1 - v % 2) (by omega) (by omega) (by omega) (by omega)) dX9_goesOn_188 mc_X9_163 (show sh 94 = (0, 9, [some 95, some 96, some 97, none, none, none, some 98, some 99, some 100, none, none, none, none, some 101, none, none, none, some 102, none, some 103, some 104, none, some 105, some 106, some 107, some 108]) from rfl) (fun _ => rfl) ⟨Nat.le_of_ble_eq_true rfl, Nat.le_of_ble_eq_true rfl⟩ (Nat.le_of_ble_eq_true rfl) ?_
          refine AW.callV4ip (C9_legOf Γ N r eN _ _ _ _ (by first | (rw [el1]; exact sgD_d _ _) | (rw [el0, hfl]; exact lD_d _ _ _)) (by first | (rw [er1]; exact sgD_d _ _) | (rw [er0, hfr]; exact rD_d _ _ _)) (sgD_d _ _) (sgD_d _ _)) dX9_goesOn_191 mc_X9_167 (show sh 94 = (0, 9, [some 95, some 96, some 97, none, none, none, some 98, some 99, some 100, none, none, none, none, some 101, none, none, none, some 102, none, some 103, some 104, none, some 105, some 106, some 107, some 108]) from rfl) (fun _ => rfl) ⟨Nat.le_of_ble_eq_true rfl, Nat.le_of_ble_eq_true rfl⟩ (Nat.le_of_ble_eq_true rfl) ?_
          refine AW.iadd dX9_goesOn_194 ?_
          refine AW.top (fun c2 ec2 => ?_)
          refine AW.istore [(10, vi c2), (12, vi r0), (11, vi l0), (9, vi y), (8, vi fr), (7, vi fl), (6, vi had), (5, vi x), (0, rf Γ 94), (1, vi mx), (2, vi gx), (3, vi on), (4, vi b)] dX9_goesOn_195 (by decide) rfl ?_
          have hc2 : c2 = M 98 (54 * m + e) + cst r m e g b v := by
            first
              | (rw [ec2, ec1, ec0, el1, er1, el0, er0, hfl, hfr, hhad]; unfold cst efT; rw [if_neg (by omega)]; omega)
              | (rw [ec2, ec0, el0, er0, hfl, hfr, hhad]; unfold cst efT; rw [if_pos (by omega)])
          have hcb := cst_b ho m e g b v
          have htb := gP_b (s := v % 2) ho hm hI g2 (by omega) (by omega)
          refine AW.aload_n dX9_goesOn_197 8 rfl rfl ?_
          refine AW.bipush (z := (54)) dX9_goesOn_198 (by decide) ?_
          refine AW.iload_n dX9_goesOn_200 9 rfl rfl ?_
          refine AW.iload_n dX9_goesOn_201 11 rfl rfl ?_
          refine AW.iadd dX9_goesOn_202 ?_
          refine AW.imul dX9_goesOn_203 ?_
          refine AW.iconst dX9_goesOn_204 ?_
          refine AW.iload_n dX9_goesOn_205 10 rfl rfl ?_
          refine AW.imul dX9_goesOn_206 ?_
          refine AW.iadd dX9_goesOn_207 ?_
          refine AW.iload dX9_goesOn_208 3 rfl ?_
          refine AW.iconst dX9_goesOn_210 ?_
          refine AW.irem dX9_goesOn_211 (by omega) (by omega) ?_
          refine AW.iadd dX9_goesOn_212 ?_
          refine AW.iload dX9_goesOn_213 0 rfl ?_
          refine AW.callV2v (C9_lowers Γ N _ _ (54 * (m + o) + 2 * g + v % 2) (by omega) (by omega) (by omega) (by omega)) dX9_goesOn_215 mc_X9_170 (show sh 94 = (0, 9, [some 95, some 96, some 97, none, none, none, some 98, some 99, some 100, none, none, none, none, some 101, none, none, none, some 102, none, some 103, some 104, none, some 105, some 106, some 107, some 108]) from rfl) (fun _ => rfl) ⟨Nat.le_of_ble_eq_true rfl, Nat.le_of_ble_eq_true rfl⟩ (Nat.le_of_ble_eq_true rfl) (fun z215 M215 h215 => ?_)
          obtain ⟨x218, ex218⟩ : ∃ z : Int, y + 1 = z := ⟨_, rfl⟩
          refine AW.iinc [(9, vi x218), (10, vi c2), (12, vi r0), (11, vi l0), (8, vi fr), (7, vi fl), (6, vi had), (5, vi x), (0, rf Γ 94), (1, vi mx), (2, vi gx), (3, vi on), (4, vi b)] dX9_goesOn_218 3 rfl (by decide) x218 ex218 rfl ?_
          refine AW.goto 73 dX9_goesOn_221 (by decide) ?_
          refine AW.sub [0, 4, 5, 6, 7, 8, 9, 10, 11, 12] rfl ?_
          refine ih (v + 1) x218 _ (by omega) (by omega) ?_ (fun _ => by omega) (by omega)
          rw [h215, hc2]
          exact gP_s g2 he (by omega) (by omega)
        · refine AW.iload dX9_goesOn_103 2 rfl ?_
          refine AW.aload_n dX9_goesOn_105 8 rfl rfl ?_
          refine AW.iload dX9_goesOn_106 1 rfl ?_
          refine AW.iload dX9_goesOn_108 0 rfl ?_
          refine AW.aload_n dX9_goesOn_110 8 rfl rfl ?_
          refine AW.iload dX9_goesOn_111 12 rfl ?_
          refine AW.iload dX9_goesOn_113 3 rfl ?_
          refine AW.iconst dX9_goesOn_115 ?_
          refine AW.idiv dX9_goesOn_116 (by omega) (by omega) ?_
          refine AW.callV2ip (C9_side Γ N sgN _ _ 26 (v / 2) (by omega) (by omega) (by omega) (by omega)) dX9_goesOn_117 mc_X9_163 (show sh 94 = (0, 9, [some 95, some 96, some 97, none, none, none, some 98, some 99, some 100, none, none, none, none, some 101, none, none, none, some 102, none, some 103, some 104, none, some 105, some 106, some 107, some 108]) from rfl) (fun _ => rfl) ⟨Nat.le_of_ble_eq_true rfl, Nat.le_of_ble_eq_true rfl⟩ (Nat.le_of_ble_eq_true rfl) ?_
          refine AW.aload_n dX9_goesOn_120 8 rfl rfl ?_
          refine AW.iload dX9_goesOn_121 12 rfl ?_
          refine AW.iconst dX9_goesOn_123 ?_
          refine AW.iload dX9_goesOn_124 3 rfl ?_
          refine AW.iconst dX9_goesOn_126 ?_
          refine AW.idiv dX9_goesOn_127 (by omega) (by omega) ?_
          refine AW.isub dX9_goesOn_128 ?_
          refine AW.callV2ip (C9_side Γ N sgN _ _ 26 (1 - v / 2) (by omega) (by omega) (by omega) (by omega)) dX9_goesOn_129 mc_X9_163 (show sh 94 = (0, 9, [some 95, some 96, some 97, none, none, none, some 98, some 99, some 100, none, none, none, none, some 101, none, none, none, some 102, none, some 103, some 104, none, some 105, some 106, some 107, some 108]) from rfl) (fun _ => rfl) ⟨Nat.le_of_ble_eq_true rfl, Nat.le_of_ble_eq_true rfl⟩ (Nat.le_of_ble_eq_true rfl) ?_
          refine AW.callV4ip (C9_legOf Γ N r eN _ _ _ _ (by rw [el0, hfl]; exact lD_d _ _ _) (by rw [er0, hfr]; exact rD_d _ _ _) (sgD_d _ _) (sgD_d _ _)) dX9_goesOn_132 mc_X9_167 (show sh 94 = (0, 9, [some 95, some 96, some 97, none, none, none, some 98, some 99, some 100, none, none, none, none, some 101, none, none, none, some 102, none, some 103, some 104, none, some 105, some 106, some 107, some 108]) from rfl) (fun _ => rfl) ⟨Nat.le_of_ble_eq_true rfl, Nat.le_of_ble_eq_true rfl⟩ (Nat.le_of_ble_eq_true rfl) ?_
          refine AW.iadd dX9_goesOn_135 ?_
          refine AW.top (fun c1 ec1 => ?_)
          refine AW.istore [(10, vi c1), (12, vi r0), (11, vi l0), (9, vi y), (8, vi fr), (7, vi fl), (6, vi had), (5, vi x), (0, rf Γ 94), (1, vi mx), (2, vi gx), (3, vi on), (4, vi b)] dX9_goesOn_136 (by decide) rfl ?_
          refine AW.aload_n dX9_goesOn_138 8 rfl rfl ?_
          refine AW.iload dX9_goesOn_139 12 rfl ?_
          refine AW.iload dX9_goesOn_141 3 rfl ?_
          refine AW.iconst dX9_goesOn_143 ?_
          refine AW.idiv dX9_goesOn_144 (by omega) (by omega) ?_
          refine AW.callV2ip (C9_side Γ N sgN _ _ 26 (v / 2) (by omega) (by omega) (by omega) (by omega)) dX9_goesOn_145 mc_X9_163 (show sh 94 = (0, 9, [some 95, some 96, some 97, none, none, none, some 98, some 99, some 100, none, none, none, none, some 101, none, none, none, some 102, none, some 103, some 104, none, some 105, some 106, some 107, some 108]) from rfl) (fun _ => rfl) ⟨Nat.le_of_ble_eq_true rfl, Nat.le_of_ble_eq_true rfl⟩ (Nat.le_of_ble_eq_true rfl) ?_
          refine AW.top (fun l1 el1 => ?_)
          refine AW.istore [(11, vi l1), (10, vi c1), (12, vi r0), (9, vi y), (8, vi fr), (7, vi fl), (6, vi had), (5, vi x), (0, rf Γ 94), (1, vi mx), (2, vi gx), (3, vi on), (4, vi b)] dX9_goesOn_148 (by decide) rfl ?_
          refine AW.aload_n dX9_goesOn_150 8 rfl rfl ?_
          refine AW.iload dX9_goesOn_151 12 rfl ?_
          refine AW.iconst dX9_goesOn_153 ?_
          refine AW.iload dX9_goesOn_154 3 rfl ?_
          refine AW.iconst dX9_goesOn_156 ?_
          refine AW.idiv dX9_goesOn_157 (by omega) (by omega) ?_
          refine AW.isub dX9_goesOn_158 ?_
          refine AW.callV2ip (C9_side Γ N sgN _ _ 26 (1 - v / 2) (by omega) (by omega) (by omega) (by omega)) dX9_goesOn_159 mc_X9_163 (show sh 94 = (0, 9, [some 95, some 96, some 97, none, none, none, some 98, some 99, some 100, none, none, none, none, some 101, none, none, none, some 102, none, some 103, some 104, none, some 105, some 106, some 107, some 108]) from rfl) (fun _ => rfl) ⟨Nat.le_of_ble_eq_true rfl, Nat.le_of_ble_eq_true rfl⟩ (Nat.le_of_ble_eq_true rfl) ?_
          refine AW.top (fun r1 er1 => ?_)
          refine AW.istore [(12, vi r1), (11, vi l1), (10, vi c1), (9, vi y), (8, vi fr), (7, vi fl), (6, vi had), (5, vi x), (0, rf Γ 94), (1, vi mx), (2, vi gx), (3, vi on), (4, vi b)] dX9_goesOn_162 (by decide) rfl ?_
          refine AW.iload dX9_goesOn_164 2 rfl ?_
          refine AW.aload_n dX9_goesOn_166 8 rfl rfl ?_
          refine AW.iload dX9_goesOn_167 1 rfl ?_
          refine AW.iload dX9_goesOn_169 0 rfl ?_
          refine AW.aload_n dX9_goesOn_171 8 rfl rfl ?_
          refine AW.iload_n dX9_goesOn_172 10 rfl rfl ?_
          refine AW.iload dX9_goesOn_173 3 rfl ?_
          refine AW.iconst dX9_goesOn_175 ?_
          refine AW.irem dX9_goesOn_176 (by omega) (by omega) ?_
          refine AW.callV2ip (C9_side Γ N sgN _ _ g (v % 2) (by omega) (by omega) (by omega) (by omega)) dX9_goesOn_177 mc_X9_163 (show sh 94 = (0, 9, [some 95, some 96, some 97, none, none, none, some 98, some 99, some 100, none, none, none, none, some 101, none, none, none, some 102, none, some 103, some 104, none, some 105, some 106, some 107, some 108]) from rfl) (fun _ => rfl) ⟨Nat.le_of_ble_eq_true rfl, Nat.le_of_ble_eq_true rfl⟩ (Nat.le_of_ble_eq_true rfl) ?_
          refine AW.aload_n dX9_goesOn_180 8 rfl rfl ?_
          refine AW.iload_n dX9_goesOn_181 10 rfl rfl ?_
          refine AW.iconst dX9_goesOn_182 ?_
          refine AW.iload dX9_goesOn_183 3 rfl ?_
          refine AW.iconst dX9_goesOn_185 ?_
          refine AW.irem dX9_goesOn_186 (by omega) (by omega) ?_
          refine AW.isub dX9_goesOn_187 ?_
          refine AW.callV2ip (C9_side Γ N sgN _ _ g (1 - v % 2) (by omega) (by omega) (by omega) (by omega)) dX9_goesOn_188 mc_X9_163 (show sh 94 = (0, 9, [some 95, some 96, some 97, none, none, none, some 98, some 99, some 100, none, none, none, none, some 101, none, none, none, some 102, none, some 103, some 104, none, some 105, some 106, some 107, some 108]) from rfl) (fun _ => rfl) ⟨Nat.le_of_ble_eq_true rfl, Nat.le_of_ble_eq_true rfl⟩ (Nat.le_of_ble_eq_true rfl) ?_
          refine AW.callV4ip (C9_legOf Γ N r eN _ _ _ _ (by first | (rw [el1]; exact sgD_d _ _) | (rw [el0, hfl]; exact lD_d _ _ _)) (by first | (rw [er1]; exact sgD_d _ _) | (rw [er0, hfr]; exact rD_d _ _ _)) (sgD_d _ _) (sgD_d _ _)) dX9_goesOn_191 mc_X9_167 (show sh 94 = (0, 9, [some 95, some 96, some 97, none, none, none, some 98, some 99, some 100, none, none, none, none, some 101, none, none, none, some 102, none, some 103, some 104, none, some 105, some 106, some 107, some 108]) from rfl) (fun _ => rfl) ⟨Nat.le_of_ble_eq_true rfl, Nat.le_of_ble_eq_true rfl⟩ (Nat.le_of_ble_eq_true rfl) ?_
          refine AW.iadd dX9_goesOn_194 ?_
          refine AW.top (fun c2 ec2 => ?_)
          refine AW.istore [(10, vi c2), (12, vi r1), (11, vi l1), (9, vi y), (8, vi fr), (7, vi fl), (6, vi had), (5, vi x), (0, rf Γ 94), (1, vi mx), (2, vi gx), (3, vi on), (4, vi b)] dX9_goesOn_195 (by decide) rfl ?_
          have hc2 : c2 = M 98 (54 * m + e) + cst r m e g b v := by
            first
              | (rw [ec2, ec1, ec0, el1, er1, el0, er0, hfl, hfr, hhad]; unfold cst efT; rw [if_neg (by omega)]; omega)
              | (rw [ec2, ec0, el0, er0, hfl, hfr, hhad]; unfold cst efT; rw [if_pos (by omega)])
          have hcb := cst_b ho m e g b v
          have htb := gP_b (s := v % 2) ho hm hI g2 (by omega) (by omega)
          refine AW.aload_n dX9_goesOn_197 8 rfl rfl ?_
          refine AW.bipush (z := (54)) dX9_goesOn_198 (by decide) ?_
          refine AW.iload_n dX9_goesOn_200 9 rfl rfl ?_
          refine AW.iload_n dX9_goesOn_201 11 rfl rfl ?_
          refine AW.iadd dX9_goesOn_202 ?_
          refine AW.imul dX9_goesOn_203 ?_
          refine AW.iconst dX9_goesOn_204 ?_
          refine AW.iload_n dX9_goesOn_205 10 rfl rfl ?_
          refine AW.imul dX9_goesOn_206 ?_
          refine AW.iadd dX9_goesOn_207 ?_
          refine AW.iload dX9_goesOn_208 3 rfl ?_
          refine AW.iconst dX9_goesOn_210 ?_
          refine AW.irem dX9_goesOn_211 (by omega) (by omega) ?_
          refine AW.iadd dX9_goesOn_212 ?_
          refine AW.iload dX9_goesOn_213 0 rfl ?_
          refine AW.callV2v (C9_lowers Γ N _ _ (54 * (m + o) + 2 * g + v % 2) (by omega) (by omega) (by omega) (by omega)) dX9_goesOn_215 mc_X9_170 (show sh 94 = (0, 9, [some 95, some 96, some 97, none, none, none, some 98, some 99, some 100, none, none, none, none, some 101, none, none, none, some 102, none, some 103, some 104, none, some 105, some 106, some 107, some 108]) from rfl) (fun _ => rfl) ⟨Nat.le_of_ble_eq_true rfl, Nat.le_of_ble_eq_true rfl⟩ (Nat.le_of_ble_eq_true rfl) (fun z215 M215 h215 => ?_)
          obtain ⟨x218, ex218⟩ : ∃ z : Int, y + 1 = z := ⟨_, rfl⟩
          refine AW.iinc [(9, vi x218), (10, vi c2), (12, vi r1), (11, vi l1), (8, vi fr), (7, vi fl), (6, vi had), (5, vi x), (0, rf Γ 94), (1, vi mx), (2, vi gx), (3, vi on), (4, vi b)] dX9_goesOn_218 3 rfl (by decide) x218 ex218 rfl ?_
          refine AW.goto 73 dX9_goesOn_221 (by decide) ?_
          refine AW.sub [0, 4, 5, 6, 7, 8, 9, 10, 11, 12] rfl ?_
          refine ih (v + 1) x218 _ (by omega) (by omega) ?_ (fun _ => by omega) (by omega)
          rw [h215, hc2]
          exact gP_s g2 he (by omega) (by omega)

set_option maxRecDepth 20000 in
theorem goesOn_loop2 (Γ : GC) (M : Mm) (hsg : SG M) (r : Nat → Int) (e96 : M 96 = r) (ho : OkR r) (m g o q : Nat) (mx gx on b : Int) (hmx : mx = m) (hgx : gx = g) (hon : on = o) (hb : b = -1 ∨ b = 26) (hm : (m : Int) < r 0) (hg : g < 27) (ho1 : 1 ≤ o ∧ m + o ≤ 12) (hI : rInv r m q M) : ∀ (n e : Nat) (x : Int) (N : Mm), x = e → e ≤ 54 → gP r M N m (54 * (m + o) + 2 * g) g b e 0 → 54 - e < n → AW Γ uX9_goesOn 3 [(5, vi x), (0, rf Γ 94), (1, vi mx), (2, vi gx), (3, vi on), (4, vi b)] [] N (fun _ M' => gP r M M' m (54 * (m + o) + 2 * g) g b 54 0) := by
  have hr0 := ho.1
  intro n
  induction n with
  | zero => intro e x N g0 g1 g2 gm; omega
  | succ n ih =>
    intro e x N g0 g1 g2 gm
    have sgN : SG N := fun j hj => by rw [g2.1 95 (by decide)]; exact hsg j hj
    refine AW.iload dX9_goesOn_3 0 rfl ?_
    refine AW.bipush (z := (54)) dX9_goesOn_5 (by decide) ?_
    refine AW.icmp_ge 230 dX9_goesOn_7 (by decide) (by omega) (by omega) (fun c7 => ?_) (fun c7 => ?_)
    · exact AW.vret rfl dX9_goesOn_230 (by obtain rfl : e = 54 := (by omega); exact g2)
    · refine AW.aload_n dX9_goesOn_10 1 rfl rfl ?_
      refine AW.getR dX9_goesOn_11 fl_X9_19 (show sh 94 = (0, 9, [some 95, some 96, some 97, none, none, none, some 98, some 99, some 100, none, none, none, none, some 101, none, none, none, some 102, none, some 103, some 104, none, some 105, some 106, some 107, some 108]) from rfl) rfl ?_
      refine AW.bipush (z := (54)) dX9_goesOn_14 (by decide) ?_
      refine AW.iload_n dX9_goesOn_16 2 rfl rfl ?_
      refine AW.imul dX9_goesOn_17 ?_
      refine AW.iload dX9_goesOn_18 0 rfl ?_
      refine AW.iadd dX9_goesOn_20 ?_
      refine AW.ialdN (54 * m + e) dX9_goesOn_21 (show sh 98 = (1, 702, []) from rfl) (by omega) (by omega) (by decide) ?_
      rw [(g2.2.1 (54 * m + e) (by omega) (by omega))]
      refine AW.top (fun had ehad => ?_)
      refine AW.istore [(6, vi had), (5, vi x), (0, rf Γ 94), (1, vi mx), (2, vi gx), (3, vi on), (4, vi b)] dX9_goesOn_22 (by decide) rfl ?_
      refine AW.iload_n dX9_goesOn_24 3 rfl rfl ?_
      refine AW.if_ne 32 dX9_goesOn_25 (by decide) (by omega) (fun c25 => ?_) (fun c25 => ?_)
      · refine AW.aload_n dX9_goesOn_32 2 rfl rfl ?_
        refine AW.iload dX9_goesOn_33 1 rfl ?_
        refine AW.iconst dX9_goesOn_35 ?_
        refine AW.idiv dX9_goesOn_36 (by omega) (by omega) ?_
        refine AW.iload dX9_goesOn_37 1 rfl ?_
        refine AW.iconst dX9_goesOn_39 ?_
        refine AW.irem dX9_goesOn_40 (by omega) (by omega) ?_
        refine AW.callV2ip (C9_side Γ N sgN _ _ (e / 2) (e % 2) (by omega) (by omega) (by omega) (by omega)) dX9_goesOn_41 mc_X9_163 (show sh 94 = (0, 9, [some 95, some 96, some 97, none, none, none, some 98, some 99, some 100, none, none, none, none, some 101, none, none, none, some 102, none, some 103, some 104, none, some 105, some 106, some 107, some 108]) from rfl) (fun _ => rfl) ⟨Nat.le_of_ble_eq_true rfl, Nat.le_of_ble_eq_true rfl⟩ (Nat.le_of_ble_eq_true rfl) ?_
        refine AW.top (fun fl efl => ?_)
        refine AW.istore [(7, vi fl), (6, vi had), (5, vi x), (0, rf Γ 94), (1, vi mx), (2, vi gx), (3, vi on), (4, vi b)] dX9_goesOn_44 (by decide) rfl ?_
        refine AW.iload_n dX9_goesOn_46 4 rfl rfl ?_
        refine AW.if_ne 54 dX9_goesOn_47 (by decide) (by omega) (fun c47 => ?_) (fun c47 => ?_)
        · refine AW.aload_n dX9_goesOn_54 3 rfl rfl ?_
          refine AW.iload dX9_goesOn_55 2 rfl ?_
          refine AW.iconst dX9_goesOn_57 ?_
          refine AW.idiv dX9_goesOn_58 (by omega) (by omega) ?_
          refine AW.iconst dX9_goesOn_59 ?_
          refine AW.iload dX9_goesOn_60 2 rfl ?_
          refine AW.iconst dX9_goesOn_62 ?_
          refine AW.irem dX9_goesOn_63 (by omega) (by omega) ?_
          refine AW.isub dX9_goesOn_64 ?_
          refine AW.callV2ip (C9_side Γ N sgN _ _ (e / 2) (1 - e % 2) (by omega) (by omega) (by omega) (by omega)) dX9_goesOn_65 mc_X9_163 (show sh 94 = (0, 9, [some 95, some 96, some 97, none, none, none, some 98, some 99, some 100, none, none, none, none, some 101, none, none, none, some 102, none, some 103, some 104, none, some 105, some 106, some 107, some 108]) from rfl) (fun _ => rfl) ⟨Nat.le_of_ble_eq_true rfl, Nat.le_of_ble_eq_true rfl⟩ (Nat.le_of_ble_eq_true rfl) ?_
          refine AW.top (fun fr efr => ?_)
          refine AW.istore [(8, vi fr), (7, vi fl), (6, vi had), (5, vi x), (0, rf Γ 94), (1, vi mx), (2, vi gx), (3, vi on), (4, vi b)] dX9_goesOn_68 (by decide) rfl ?_
          refine AW.iconst dX9_goesOn_70 ?_
          refine AW.top (fun x71 ex71 => ?_)
          refine AW.istore [(9, vi x71), (8, vi fr), (7, vi fl), (6, vi had), (5, vi x), (0, rf Γ 94), (1, vi mx), (2, vi gx), (3, vi on), (4, vi b)] dX9_goesOn_71 (by decide) rfl ?_
          refine AW.sub [0, 1, 2, 3, 4, 5, 6, 7, 8, 9] rfl ?_
          refine goesOn_loop1 Γ M hsg r e96 ho m g o q mx gx on b hmx hgx hon hb hm hg ho1 hI e x had fl fr g0 (by omega) ehad (by rw [efl]; unfold lD; first | (rw [if_pos (by omega)]; done) | (rw [if_neg (by omega)]; done) | (exfalso; omega)) (by rw [efr]; unfold rD; first | (rw [if_pos (by omega)]; done) | (rw [if_neg (by omega)]; done) | (exfalso; omega)) _ (fun y2 N2 z => ?_) 6 0 x71 N (by omega) (by omega) g2 (fun q => by omega) (by omega)
          obtain ⟨x224, ex224⟩ : ∃ z : Int, x + 1 = z := ⟨_, rfl⟩
          refine AW.iinc [(5, vi x224), (9, vi y2), (8, vi fr), (7, vi fl), (6, vi had), (0, rf Γ 94), (1, vi mx), (2, vi gx), (3, vi on), (4, vi b)] dX9_goesOn_224 4 rfl (by decide) x224 ex224 rfl ?_
          refine AW.goto 3 dX9_goesOn_227 (by decide) ?_
          refine AW.sub [0, 5, 6, 7, 8, 9] rfl ?_
          exact ih (e + 1) x224 N2 (by omega) (by omega) z (by omega)
        · refine AW.iconst dX9_goesOn_50 ?_
          refine AW.goto 68 dX9_goesOn_51 (by decide) ?_
          refine AW.top (fun fr efr => ?_)
          refine AW.istore [(8, vi fr), (7, vi fl), (6, vi had), (5, vi x), (0, rf Γ 94), (1, vi mx), (2, vi gx), (3, vi on), (4, vi b)] dX9_goesOn_68 (by decide) rfl ?_
          refine AW.iconst dX9_goesOn_70 ?_
          refine AW.top (fun x71 ex71 => ?_)
          refine AW.istore [(9, vi x71), (8, vi fr), (7, vi fl), (6, vi had), (5, vi x), (0, rf Γ 94), (1, vi mx), (2, vi gx), (3, vi on), (4, vi b)] dX9_goesOn_71 (by decide) rfl ?_
          refine AW.sub [0, 1, 2, 3, 4, 5, 6, 7, 8, 9] rfl ?_
          refine goesOn_loop1 Γ M hsg r e96 ho m g o q mx gx on b hmx hgx hon hb hm hg ho1 hI e x had fl fr g0 (by omega) ehad (by rw [efl]; unfold lD; first | (rw [if_pos (by omega)]; done) | (rw [if_neg (by omega)]; done) | (exfalso; omega)) (by rw [efr]; unfold rD; first | (rw [if_pos (by omega)]; done) | (rw [if_neg (by omega)]; done) | (exfalso; omega)) _ (fun y2 N2 z => ?_) 6 0 x71 N (by omega) (by omega) g2 (fun q => by omega) (by omega)
          obtain ⟨x224, ex224⟩ : ∃ z : Int, x + 1 = z := ⟨_, rfl⟩
          refine AW.iinc [(5, vi x224), (9, vi y2), (8, vi fr), (7, vi fl), (6, vi had), (0, rf Γ 94), (1, vi mx), (2, vi gx), (3, vi on), (4, vi b)] dX9_goesOn_224 4 rfl (by decide) x224 ex224 rfl ?_
          refine AW.goto 3 dX9_goesOn_227 (by decide) ?_
          refine AW.sub [0, 5, 6, 7, 8, 9] rfl ?_
          exact ih (e + 1) x224 N2 (by omega) (by omega) z (by omega)
      · refine AW.iconst dX9_goesOn_28 ?_
        refine AW.goto 44 dX9_goesOn_29 (by decide) ?_
        refine AW.top (fun fl efl => ?_)
        refine AW.istore [(7, vi fl), (6, vi had), (5, vi x), (0, rf Γ 94), (1, vi mx), (2, vi gx), (3, vi on), (4, vi b)] dX9_goesOn_44 (by decide) rfl ?_
        refine AW.iload_n dX9_goesOn_46 4 rfl rfl ?_
        refine AW.if_ne 54 dX9_goesOn_47 (by decide) (by omega) (fun c47 => ?_) (fun c47 => ?_)
        · refine AW.aload_n dX9_goesOn_54 3 rfl rfl ?_
          refine AW.iload dX9_goesOn_55 2 rfl ?_
          refine AW.iconst dX9_goesOn_57 ?_
          refine AW.idiv dX9_goesOn_58 (by omega) (by omega) ?_
          refine AW.iconst dX9_goesOn_59 ?_
          refine AW.iload dX9_goesOn_60 2 rfl ?_
          refine AW.iconst dX9_goesOn_62 ?_
          refine AW.irem dX9_goesOn_63 (by omega) (by omega) ?_
          refine AW.isub dX9_goesOn_64 ?_
          refine AW.callV2ip (C9_side Γ N sgN _ _ (e / 2) (1 - e % 2) (by omega) (by omega) (by omega) (by omega)) dX9_goesOn_65 mc_X9_163 (show sh 94 = (0, 9, [some 95, some 96, some 97, none, none, none, some 98, some 99, some 100, none, none, none, none, some 101, none, none, none, some 102, none, some 103, some 104, none, some 105, some 106, some 107, some 108]) from rfl) (fun _ => rfl) ⟨Nat.le_of_ble_eq_true rfl, Nat.le_of_ble_eq_true rfl⟩ (Nat.le_of_ble_eq_true rfl) ?_
          refine AW.top (fun fr efr => ?_)
          refine AW.istore [(8, vi fr), (7, vi fl), (6, vi had), (5, vi x), (0, rf Γ 94), (1, vi mx), (2, vi gx), (3, vi on), (4, vi b)] dX9_goesOn_68 (by decide) rfl ?_
          refine AW.iconst dX9_goesOn_70 ?_
          refine AW.top (fun x71 ex71 => ?_)
          refine AW.istore [(9, vi x71), (8, vi fr), (7, vi fl), (6, vi had), (5, vi x), (0, rf Γ 94), (1, vi mx), (2, vi gx), (3, vi on), (4, vi b)] dX9_goesOn_71 (by decide) rfl ?_
          refine AW.sub [0, 1, 2, 3, 4, 5, 6, 7, 8, 9] rfl ?_
          refine goesOn_loop1 Γ M hsg r e96 ho m g o q mx gx on b hmx hgx hon hb hm hg ho1 hI e x had fl fr g0 (by omega) ehad (by rw [efl]; unfold lD; first | (rw [if_pos (by omega)]; done) | (rw [if_neg (by omega)]; done) | (exfalso; omega)) (by rw [efr]; unfold rD; first | (rw [if_pos (by omega)]; done) | (rw [if_neg (by omega)]; done) | (exfalso; omega)) _ (fun y2 N2 z => ?_) 6 0 x71 N (by omega) (by omega) g2 (fun q => by omega) (by omega)
          obtain ⟨x224, ex224⟩ : ∃ z : Int, x + 1 = z := ⟨_, rfl⟩
          refine AW.iinc [(5, vi x224), (9, vi y2), (8, vi fr), (7, vi fl), (6, vi had), (0, rf Γ 94), (1, vi mx), (2, vi gx), (3, vi on), (4, vi b)] dX9_goesOn_224 4 rfl (by decide) x224 ex224 rfl ?_
          refine AW.goto 3 dX9_goesOn_227 (by decide) ?_
          refine AW.sub [0, 5, 6, 7, 8, 9] rfl ?_
          exact ih (e + 1) x224 N2 (by omega) (by omega) z (by omega)
        · refine AW.iconst dX9_goesOn_50 ?_
          refine AW.goto 68 dX9_goesOn_51 (by decide) ?_
          refine AW.top (fun fr efr => ?_)
          refine AW.istore [(8, vi fr), (7, vi fl), (6, vi had), (5, vi x), (0, rf Γ 94), (1, vi mx), (2, vi gx), (3, vi on), (4, vi b)] dX9_goesOn_68 (by decide) rfl ?_
          refine AW.iconst dX9_goesOn_70 ?_
          refine AW.top (fun x71 ex71 => ?_)
          refine AW.istore [(9, vi x71), (8, vi fr), (7, vi fl), (6, vi had), (5, vi x), (0, rf Γ 94), (1, vi mx), (2, vi gx), (3, vi on), (4, vi b)] dX9_goesOn_71 (by decide) rfl ?_
          refine AW.sub [0, 1, 2, 3, 4, 5, 6, 7, 8, 9] rfl ?_
          refine goesOn_loop1 Γ M hsg r e96 ho m g o q mx gx on b hmx hgx hon hb hm hg ho1 hI e x had fl fr g0 (by omega) ehad (by rw [efl]; unfold lD; first | (rw [if_pos (by omega)]; done) | (rw [if_neg (by omega)]; done) | (exfalso; omega)) (by rw [efr]; unfold rD; first | (rw [if_pos (by omega)]; done) | (rw [if_neg (by omega)]; done) | (exfalso; omega)) _ (fun y2 N2 z => ?_) 6 0 x71 N (by omega) (by omega) g2 (fun q => by omega) (by omega)
          obtain ⟨x224, ex224⟩ : ∃ z : Int, x + 1 = z := ⟨_, rfl⟩
          refine AW.iinc [(5, vi x224), (9, vi y2), (8, vi fr), (7, vi fl), (6, vi had), (0, rf Γ 94), (1, vi mx), (2, vi gx), (3, vi on), (4, vi b)] dX9_goesOn_224 4 rfl (by decide) x224 ex224 rfl ?_
          refine AW.goto 3 dX9_goesOn_227 (by decide) ?_
          refine AW.sub [0, 5, 6, 7, 8, 9] rfl ?_
          exact ih (e + 1) x224 N2 (by omega) (by omega) z (by omega)

set_option maxRecDepth 20000 in
theorem C9_goesOn (Γ : GC) (M : Mm) (hsg : SG M) (r : Nat → Int) (e96 : M 96 = r) (ho : OkR r) (m g o q : Nat) (mx gx on b : Int) (hmx : mx = m) (hgx : gx = g) (hon : on = o) (hb : b = -1 ∨ b = 26) (hm : (m : Int) < r 0) (hg : g < 27) (ho1 : 1 ≤ o ∧ m + o ≤ 12) (hI : rInv r m q M) : Ct Γ uX9_goesOn [rf Γ 94, vi mx, vi gx, vi on, vi b] M (fun _ M' => gP r M M' m (54 * (m + o) + 2 * g) g b 54 0) := by
  refine Ct.of (by decide) (Nat.le_of_ble_eq_true rfl) ?_
  show AW Γ uX9_goesOn 0 [(0, rf Γ 94), (1, vi mx), (2, vi gx), (3, vi on), (4, vi b)] [] M _
  refine AW.iconst dX9_goesOn_0 ?_
  refine AW.top (fun x1 ex1 => ?_)
  refine AW.istore [(5, vi x1), (0, rf Γ 94), (1, vi mx), (2, vi gx), (3, vi on), (4, vi b)] dX9_goesOn_1 (by decide) rfl ?_
  refine AW.sub [0, 1, 2, 3, 4, 5] rfl ?_
  exact goesOn_loop2 Γ M hsg r e96 ho m g o q mx gx on b hmx hgx hon hb hm hg ho1 hI 56 0 x1 M (by omega) (by omega) ⟨fun _ _ => rfl, fun _ _ _ => rfl, fun s hs => ⟨Int.le_refl _, fun c ⟨l, w, _, y, _⟩ => by omega, Or.inl rfl⟩⟩ (by omega)

set_option maxRecDepth 20000 in
theorem brief_loop0 (Γ : GC) (M : Mm) (c : Int) (Q : Int → Mm → Prop) (hx : ∀ x : Int, x = 0 + (702 : Nat) → AW Γ uX9_brief 35 [(2, vi x), (0, rf Γ 94), (1, vi c)] [] (upM M 98 (flFi (M 98) 1000000 702)) Q) : ∀ (n i : Nat) (x : Int), x = 0 + i → i ≤ 702 → 702 - i < n → AW Γ uX9_brief 14 [(2, vi x), (0, rf Γ 94), (1, vi c)] [] (upM M 98 (flFi (M 98) 1000000 i)) Q := by
  intro n
  induction n with
  | zero => intro i x g0 g1 gm; omega
  | succ n ih =>
    intro i x g0 g1 gm
    refine AW.iload_n dX9_brief_14 0 rfl rfl ?_
    refine AW.sipush (z := (702)) dX9_brief_15 (by decide) ?_
    refine AW.icmp_ge 35 dX9_brief_18 (by decide) (by omega) (by omega) (fun c18 => ?_) (fun c18 => ?_)
    · refine AW.sub [0, 1, 2] rfl ?_
      rw [show i = 702 by omega]
      exact hx x (by omega)
    · refine AW.aload_n dX9_brief_21 1 rfl rfl ?_
      refine AW.getR dX9_brief_22 fl_X9_19 (show sh 94 = (0, 9, [some 95, some 96, some 97, none, none, none, some 98, some 99, some 100, none, none, none, none, some 101, none, none, none, some 102, none, some 103, some 104, none, some 105, some 106, some 107, some 108]) from rfl) rfl ?_
      refine AW.iload_n dX9_brief_25 0 rfl rfl ?_
      refine AW.ldc (z := 1000000) dX9_brief_26 kc_X9_166 (by decide +kernel) ?_
      refine AW.iastN i dX9_brief_28 (show sh 98 = (1, 702, []) from rfl) (by omega) (by omega) (by decide) ?_
      obtain ⟨x29, ex29⟩ : ∃ z : Int, x + 1 = z := ⟨_, rfl⟩
      refine AW.iinc [(2, vi x29), (0, rf Γ 94), (1, vi c)] dX9_brief_29 0 rfl (by decide) x29 ex29 rfl ?_
      refine AW.goto 14 dX9_brief_32 (by decide) ?_
      refine AW.sub [0, 1, 2] rfl ?_
      refine AW.toM (show _ = (upM M 98 (flFi (M 98) 1000000 (i + 1))) from ?_) (ih (i + 1) x29 (by omega) (by omega) (by omega))
      rw [upM_up2, flFi_step]

set_option maxRecDepth 20000 in
theorem brief_loop1 (Γ : GC) (M : Mm) (hsg : SG M) (r : Nat → Int) (e96 : M 96 = r) (ho : OkR r) (c x : Int) (m : Nat) (hxm : x = m) (hm : (m : Int) < r 0) (Q : Int → Mm → Prop) (hx : ∀ (kx : Int) (N : Mm), rInv r (m + 1) 0 N → (∀ a : Nat, a ≠ 98 → N a = M a) → AW Γ uX9_brief 106 [(3, vi kx), (2, vi x), (0, rf Γ 94), (1, vi c)] [] N Q) : ∀ (n k : Nat) (kx : Int) (N : Mm), kx = k → (k : Int) ≤ r 1 → rInv r m (k + 1) N → (∀ a : Nat, a ≠ 98 → N a = M a) → 6 - k < n → AW Γ uX9_brief 68 [(3, vi kx), (2, vi x), (0, rf Γ 94), (1, vi c)] [] N Q := by
  obtain ⟨o0, o1, o2, o3, o4, o5, o6⟩ := id ho
  intro n
  induction n with
  | zero => intro k kx N g0 g1 g2 g3 gm; omega
  | succ n ih =>
    intro k kx N g0 g1 g2 g3 gm
    have eN : N 96 = r := by rw [g3 96 (by decide)]; exact e96
    have sgN : SG N := fun j hj => by rw [g3 95 (by decide)]; exact hsg j hj
    refine AW.iload_n dX9_brief_68 0 rfl rfl ?_
    refine AW.aload_n dX9_brief_69 2 rfl rfl ?_
    refine AW.getR dX9_brief_70 fl_X9_13 (show sh 94 = (0, 9, [some 95, some 96, some 97, none, none, none, some 98, some 99, some 100, none, none, none, none, some 101, none, none, none, some 102, none, some 103, some 104, none, some 105, some 106, some 107, some 108]) from rfl) rfl ?_
    refine AW.iconst dX9_brief_73 ?_
    refine AW.ialdN 1 dX9_brief_74 (show sh 96 = (1, 59, []) from rfl) rfl (by decide) (by decide) ?_
    rw [eN]
    refine AW.icmp_ge 106 dX9_brief_75 (by decide) (by omega) (by omega) (fun c75 => ?_) (fun c75 => ?_)
    · refine AW.sub [0, 1, 2, 3] rfl ?_
      exact hx kx N (rInv_next ho (by rw [show (r 1).toNat = k by omega]; exact g2)) g3
    · refine AW.aload_n dX9_brief_78 2 rfl rfl ?_
      refine AW.iload_n dX9_brief_79 0 rfl rfl ?_
      refine AW.iload_n dX9_brief_80 1 rfl rfl ?_
      refine AW.callV2i (C9_stands Γ N (by rw [eN]; exact ho) kx x k m g0 hxm (by rw [eN]; omega) (by omega)) dX9_brief_81 mc_X9_178 (show sh 94 = (0, 9, [some 95, some 96, some 97, none, none, none, some 98, some 99, some 100, none, none, none, none, some 101, none, none, none, some 102, none, some 103, some 104, none, some 105, some 106, some 107, some 108]) from rfl) (fun _ => rfl) ⟨Nat.le_of_ble_eq_true rfl, Nat.le_of_ble_eq_true rfl⟩ (Nat.le_of_ble_eq_true rfl) (fun z81 M81 h81 => ?_)
      obtain ⟨e81, h81⟩ := h81
      subst e81
      rw [eN] at h81
      refine AW.if_eq 100 dX9_brief_84 (by decide) (by omega) (fun c84 => ?_) (fun c84 => ?_)
      · have hst := (h81.resolve_left (fun q => by omega)).2
        obtain ⟨x100, ex100⟩ : ∃ z : Int, kx + 1 = z := ⟨_, rfl⟩
        refine AW.iinc [(3, vi x100), (2, vi x), (0, rf Γ 94), (1, vi c)] dX9_brief_100 0 rfl (by decide) x100 ex100 rfl ?_
        refine AW.goto 68 dX9_brief_103 (by decide) ?_
        refine AW.sub [0, 1, 2, 3] rfl ?_
        exact ih (k + 1) x100 M81 (by omega) (by omega) (lemR3 g2 hst) g3 (by omega)
      · have hst := (h81.resolve_right (fun q => by omega)).2
        have k1 := (o6 k (by omega)).1
        have hst1 := hst.1
        refine AW.aload_n dX9_brief_87 2 rfl rfl ?_
        refine AW.iload_n dX9_brief_88 1 rfl rfl ?_
        refine AW.iload_n dX9_brief_89 0 rfl rfl ?_
        refine AW.aload_n dX9_brief_90 2 rfl rfl ?_
        refine AW.iload_n dX9_brief_91 0 rfl rfl ?_
        refine AW.callV1ip (C9_sizeOf Γ M81 kx k g0 (by omega)) dX9_brief_92 mc_X9_100 (show sh 94 = (0, 9, [some 95, some 96, some 97, none, none, none, some 98, some 99, some 100, none, none, none, none, some 101, none, none, none, some 102, none, some 103, some 104, none, some 105, some 106, some 107, some 108]) from rfl) (fun _ => rfl) ⟨Nat.le_of_ble_eq_true rfl, Nat.le_of_ble_eq_true rfl⟩ (Nat.le_of_ble_eq_true rfl) ?_
        rw [eN]
        refine AW.bipush (z := (26)) dX9_brief_95 (by decide) ?_
        refine AW.callV4v (C9_goesOn Γ M81 sgN r eN ho m k (r (17 + 7 * k)).toNat (k + 1) x kx _ 26 hxm g0 (by omega) (Or.inr rfl) (by omega) (by omega) (by omega) g2) dX9_brief_97 mc_X9_174 (show sh 94 = (0, 9, [some 95, some 96, some 97, none, none, none, some 98, some 99, some 100, none, none, none, none, some 101, none, none, none, some 102, none, some 103, some 104, none, some 105, some 106, some 107, some 108]) from rfl) (fun _ => rfl) ⟨Nat.le_of_ble_eq_true rfl, Nat.le_of_ble_eq_true rfl⟩ (Nat.le_of_ble_eq_true rfl) (fun z97 M97 h97 => ?_)
        obtain ⟨x100, ex100⟩ : ∃ z : Int, kx + 1 = z := ⟨_, rfl⟩
        refine AW.iinc [(3, vi x100), (2, vi x), (0, rf Γ 94), (1, vi c)] dX9_brief_100 0 rfl (by decide) x100 ex100 rfl ?_
        refine AW.goto 68 dX9_brief_103 (by decide) ?_
        refine AW.sub [0, 1, 2, 3] rfl ?_
        exact ih (k + 1) x100 M97 (by omega) (by omega) (lemR2 ho hm (by omega) hst g2 h97) (fun a q => by rw [h97.1 a q]; exact g3 a q) (by omega)

set_option maxRecDepth 20000 in
theorem brief_loop2 (Γ : GC) (M : Mm) (hsg : SG M) (r : Nat → Int) (e96 : M 96 = r) (ho : OkR r) (c : Int) (Q : Int → Mm → Prop) (hx : ∀ (x : Int) (N : Mm), rInv r (r 0).toNat 0 N → (∀ a : Nat, a ≠ 98 → N a = M a) → AW Γ uX9_brief 112 [(2, vi x), (0, rf Γ 94), (1, vi c)] [] N Q) : ∀ (n m : Nat) (x : Int) (N : Mm), x = m → (m : Int) ≤ r 0 → rInv r m 0 N → (∀ a : Nat, a ≠ 98 → N a = M a) → 12 - m < n → AW Γ uX9_brief 44 [(2, vi x), (0, rf Γ 94), (1, vi c)] [] N Q := by
  obtain ⟨o0, o1, o2, o3, o4, o5, o6⟩ := id ho
  intro n
  induction n with
  | zero => intro m x N g0 g1 g2 g3 gm; omega
  | succ n ih =>
    intro m x N g0 g1 g2 g3 gm
    have eN : N 96 = r := by rw [g3 96 (by decide)]; exact e96
    have sgN : SG N := fun j hj => by rw [g3 95 (by decide)]; exact hsg j hj
    refine AW.iload_n dX9_brief_44 0 rfl rfl ?_
    refine AW.aload_n dX9_brief_45 1 rfl rfl ?_
    refine AW.getR dX9_brief_46 fl_X9_13 (show sh 94 = (0, 9, [some 95, some 96, some 97, none, none, none, some 98, some 99, some 100, none, none, none, none, some 101, none, none, none, some 102, none, some 103, some 104, none, some 105, some 106, some 107, some 108]) from rfl) rfl ?_
    refine AW.iconst dX9_brief_49 ?_
    refine AW.ialdN 0 dX9_brief_50 (show sh 96 = (1, 59, []) from rfl) rfl (by decide) (by decide) ?_
    rw [eN]
    refine AW.icmp_ge 112 dX9_brief_51 (by decide) (by omega) (by omega) (fun c51 => ?_) (fun c51 => ?_)
    · refine AW.sub [0, 1, 2] rfl ?_
      exact hx x N (by rw [show (r 0).toNat = m by omega]; exact g2) g3
    · refine AW.aload_n dX9_brief_54 1 rfl rfl ?_
      refine AW.iload_n dX9_brief_55 0 rfl rfl ?_
      refine AW.aload_n dX9_brief_56 1 rfl rfl ?_
      refine AW.iload_n dX9_brief_57 0 rfl rfl ?_
      refine AW.callV1ip (C9_at Γ N x m g0 (by omega)) dX9_brief_58 mc_X9_91 (show sh 94 = (0, 9, [some 95, some 96, some 97, none, none, none, some 98, some 99, some 100, none, none, none, none, some 101, none, none, none, some 102, none, some 103, some 104, none, some 105, some 106, some 107, some 108]) from rfl) (fun _ => rfl) ⟨Nat.le_of_ble_eq_true rfl, Nat.le_of_ble_eq_true rfl⟩ (Nat.le_of_ble_eq_true rfl) ?_
      rw [eN]
      have hlb := o5 m (by omega)
      refine AW.iconst dX9_brief_61 ?_
      refine AW.iconst dX9_brief_62 ?_
      refine AW.callV4v (C9_goesOn Γ N sgN r eN ho m (r (5 + m)).toNat 1 0 x _ 1 (-1) g0 (by omega) rfl (Or.inl rfl) (by omega) (by omega) (by omega) g2) dX9_brief_63 mc_X9_174 (show sh 94 = (0, 9, [some 95, some 96, some 97, none, none, none, some 98, some 99, some 100, none, none, none, none, some 101, none, none, none, some 102, none, some 103, some 104, none, some 105, some 106, some 107, some 108]) from rfl) (fun _ => rfl) ⟨Nat.le_of_ble_eq_true rfl, Nat.le_of_ble_eq_true rfl⟩ (Nat.le_of_ble_eq_true rfl) (fun z63 M63 h63 => ?_)
      refine AW.iconst dX9_brief_66 ?_
      refine AW.top (fun x67 ex67 => ?_)
      refine AW.istore_n [(3, vi x67), (2, vi x), (0, rf Γ 94), (1, vi c)] dX9_brief_67 rfl (by decide) rfl ?_
      refine AW.sub [0, 1, 2, 3] rfl ?_
      refine brief_loop1 Γ M hsg r e96 ho c x m g0 (by omega) _ (fun k2 N2 z1 z2 => ?_) 8 0 x67 M63 (by omega) (by omega) (lemR1 ho (by omega) g2 h63) (fun a q => by rw [h63.1 a q]; exact g3 a q) (by omega)
      obtain ⟨x106, ex106⟩ : ∃ z : Int, x + 1 = z := ⟨_, rfl⟩
      refine AW.iinc [(2, vi x106), (3, vi k2), (0, rf Γ 94), (1, vi c)] dX9_brief_106 1 rfl (by decide) x106 ex106 rfl ?_
      refine AW.goto 44 dX9_brief_109 (by decide) ?_
      refine AW.sub [0, 2, 3] rfl ?_
      exact ih (m + 1) x106 N2 (by omega) (by omega) z1 z2 (by omega)

def brC (r : Nat → Int) (M : Mm) (e0 : Nat) (c : Int) : Prop := ∃ e : Nat, e < e0 ∧ c = M 98 (54 * (r 0).toNat + e)
theorem br_mn {r : Nat → Int} (ho : OkR r) {M : Mm} {v : Int} (h : rInv r (r 0).toNat 0 M) (hm : minP v 1000000 (brC r M 54)) : ∃ E S : Int, mnP 100 r E S ∧ v = 100 * E + S := by
  obtain ⟨a1, a2, a3⟩ := hm
  have o0 := ho.1
  obtain ⟨g, s, E, S, hp⟩ := Pth_ex (r := r) (r 0).toNat (by omega)
  have lb : ∀ (g s : Nat) (E S : Int), Pth r (r 0).toNat g s E S → v ≤ 100 * E + S := fun g s E S hp => by
    have hb := Pth_b ho hp
    have x := rInv_e ho h hp
    have := a2 _ ⟨2 * g + s, by omega, rfl⟩
    omega
  have hv := lb g s E S hp
  have hb := Pth_b ho hp
  rcases a3 with q | ⟨e, e1, e2⟩
  · omega
  · obtain ⟨E', S', y1, y2⟩ := rInv_f (r := r) (m := (r 0).toNat) (by omega) h e1 (by omega)
    exact ⟨E', S', ⟨⟨_, _, y1⟩, fun g2 s2 E2 S2 hp2 => by have := lb g2 s2 E2 S2 hp2; omega⟩, by omega⟩

set_option maxRecDepth 20000 in
theorem brief_loop3 (Γ : GC) (M : Mm) (r : Nat → Int) (e96 : M 96 = r) (ho : OkR r) (c : Int) (hI : rInv r (r 0).toNat 0 M) (Q : Int → Mm → Prop) (hx : ∀ (x le : Int), minP le 1000000 (brC r M 54) → AW Γ uX9_brief 170 [(3, vi x), (2, vi le), (0, rf Γ 94), (1, vi c)] [] M Q) : ∀ (n e : Nat) (x le : Int), x = e → e ≤ 54 → minP le 1000000 (brC r M e) → (0 ≤ le ∧ le ≤ 1000000) → 54 - e < n → AW Γ uX9_brief 117 [(3, vi x), (2, vi le), (0, rf Γ 94), (1, vi c)] [] M Q := by
  have o0 := ho.1
  intro n
  induction n with
  | zero => intro e x le g0 g1 g2 g3 gm; omega
  | succ n ih =>
    intro e x le g0 g1 g2 g3 gm
    refine AW.iload_n dX9_brief_117 0 rfl rfl ?_
    refine AW.bipush (z := (54)) dX9_brief_118 (by decide) ?_
    refine AW.icmp_ge 170 dX9_brief_120 (by decide) (by omega) (by omega) (fun c120 => ?_) (fun c120 => ?_)
    · refine AW.sub [0, 1, 2, 3] rfl ?_
      exact hx x le (by obtain rfl : e = 54 := (by omega); exact g2)
    · refine AW.aload_n dX9_brief_123 2 rfl rfl ?_
      refine AW.getR dX9_brief_124 fl_X9_19 (show sh 94 = (0, 9, [some 95, some 96, some 97, none, none, none, some 98, some 99, some 100, none, none, none, none, some 101, none, none, none, some 102, none, some 103, some 104, none, some 105, some 106, some 107, some 108]) from rfl) rfl ?_
      refine AW.bipush (z := (54)) dX9_brief_127 (by decide) ?_
      refine AW.aload_n dX9_brief_129 2 rfl rfl ?_
      refine AW.getR dX9_brief_130 fl_X9_13 (show sh 94 = (0, 9, [some 95, some 96, some 97, none, none, none, some 98, some 99, some 100, none, none, none, none, some 101, none, none, none, some 102, none, some 103, some 104, none, some 105, some 106, some 107, some 108]) from rfl) rfl ?_
      refine AW.iconst dX9_brief_133 ?_
      refine AW.ialdN 0 dX9_brief_134 (show sh 96 = (1, 59, []) from rfl) rfl (by decide) (by decide) ?_
      rw [e96]
      refine AW.imul dX9_brief_135 ?_
      refine AW.iload_n dX9_brief_136 0 rfl rfl ?_
      refine AW.iadd dX9_brief_137 ?_
      refine AW.ialdN (54 * (r 0).toNat + e) dX9_brief_138 (show sh 98 = (1, 702, []) from rfl) (by omega) (by omega) (by decide) ?_
      have hb9 := rInv_b ho hI (54 * (r 0).toNat + e) (by omega)
      refine AW.iload_n dX9_brief_139 1 rfl rfl ?_
      refine AW.icmp_ge 162 dX9_brief_140 (by decide) (by omega) (by omega) (fun c140 => ?_) (fun c140 => ?_)
      · refine AW.iload_n dX9_brief_162 1 rfl rfl ?_
        refine AW.top (fun l2 el2 => ?_)
        refine AW.istore_n [(2, vi l2), (3, vi x), (0, rf Γ 94), (1, vi c)] dX9_brief_163 rfl (by decide) rfl ?_
        obtain ⟨x164, ex164⟩ : ∃ z : Int, x + 1 = z := ⟨_, rfl⟩
        refine AW.iinc [(3, vi x164), (2, vi l2), (0, rf Γ 94), (1, vi c)] dX9_brief_164 1 rfl (by decide) x164 ex164 rfl ?_
        refine AW.goto 117 dX9_brief_167 (by decide) ?_
        refine AW.sub [0, 1, 2, 3] rfl ?_
        refine ih (e + 1) x164 l2 (by omega) (by omega) ?_ (by omega) (by omega)
        have hl2 : l2 = min le (M 98 (54 * (r 0).toNat + e)) := by omega
        rw [hl2]
        refine minP_s g2 (fun c hc => ?_) (fun c ⟨u, u1, u2⟩ => ⟨u, by omega, u2⟩) ⟨e, by omega, rfl⟩
        obtain ⟨u, u1, u2⟩ := hc
        by_cases q : u = e
        · exact Or.inr (by rw [u2, q])
        · exact Or.inl ⟨u, by omega, u2⟩
      · refine AW.aload_n dX9_brief_143 2 rfl rfl ?_
        refine AW.getR dX9_brief_144 fl_X9_19 (show sh 94 = (0, 9, [some 95, some 96, some 97, none, none, none, some 98, some 99, some 100, none, none, none, none, some 101, none, none, none, some 102, none, some 103, some 104, none, some 105, some 106, some 107, some 108]) from rfl) rfl ?_
        refine AW.bipush (z := (54)) dX9_brief_147 (by decide) ?_
        refine AW.aload_n dX9_brief_149 2 rfl rfl ?_
        refine AW.getR dX9_brief_150 fl_X9_13 (show sh 94 = (0, 9, [some 95, some 96, some 97, none, none, none, some 98, some 99, some 100, none, none, none, none, some 101, none, none, none, some 102, none, some 103, some 104, none, some 105, some 106, some 107, some 108]) from rfl) rfl ?_
        refine AW.iconst dX9_brief_153 ?_
        refine AW.ialdN 0 dX9_brief_154 (show sh 96 = (1, 59, []) from rfl) rfl (by decide) (by decide) ?_
        rw [e96]
        refine AW.imul dX9_brief_155 ?_
        refine AW.iload_n dX9_brief_156 0 rfl rfl ?_
        refine AW.iadd dX9_brief_157 ?_
        refine AW.ialdN (54 * (r 0).toNat + e) dX9_brief_158 (show sh 98 = (1, 702, []) from rfl) (by omega) (by omega) (by decide) ?_
        refine AW.goto 163 dX9_brief_159 (by decide) ?_
        refine AW.top (fun l2 el2 => ?_)
        refine AW.istore_n [(2, vi l2), (3, vi x), (0, rf Γ 94), (1, vi c)] dX9_brief_163 rfl (by decide) rfl ?_
        obtain ⟨x164, ex164⟩ : ∃ z : Int, x + 1 = z := ⟨_, rfl⟩
        refine AW.iinc [(3, vi x164), (2, vi l2), (0, rf Γ 94), (1, vi c)] dX9_brief_164 1 rfl (by decide) x164 ex164 rfl ?_
        refine AW.goto 117 dX9_brief_167 (by decide) ?_
        refine AW.sub [0, 1, 2, 3] rfl ?_
        refine ih (e + 1) x164 l2 (by omega) (by omega) ?_ (by omega) (by omega)
        have hl2 : l2 = min le (M 98 (54 * (r 0).toNat + e)) := by omega
        rw [hl2]
        refine minP_s g2 (fun c hc => ?_) (fun c ⟨u, u1, u2⟩ => ⟨u, by omega, u2⟩) ⟨e, by omega, rfl⟩
        obtain ⟨u, u1, u2⟩ := hc
        by_cases q : u = e
        · exact Or.inr (by rw [u2, q])
        · exact Or.inl ⟨u, by omega, u2⟩

set_option maxRecDepth 20000 in
theorem C9_brief (Γ : GC) (M : Mm) (hsg : SG M) (ho : OkR (M 96)) (c : Int) (hc : R32 c) : Ct Γ uX9_brief [rf Γ 94, vi c] M (fun z M' => briefS 100 (M 96) c z ∧ (∀ a : Nat, a ≠ 98 → M' a = M a)) := by
  refine Ct.of (by decide) (Nat.le_of_ble_eq_true rfl) ?_
  show AW Γ uX9_brief 0 [(0, rf Γ 94), (1, vi c)] [] M _
  refine AW.iload_n dX9_brief_0 1 rfl rfl ?_
  refine AW.i2l dX9_brief_1 (by omega) ?_
  refine AW.lconst (z := (0)) dX9_brief_2 rfl ?_
  refine AW.lconst (z := (1)) dX9_brief_3 rfl ?_
  refine AW.callS3ip (C9_in Γ M _ _ _ (by omega) (by decide) (by decide)) dX9_brief_4 mc_X9_76 (fun _ => rfl) ⟨Nat.le_of_ble_eq_true rfl, Nat.le_of_ble_eq_true rfl⟩ (Nat.le_of_ble_eq_true rfl) ?_
  refine AW.if_ne 12 dX9_brief_7 (by decide) (bI_r _) (fun c7 => ?_) (fun c7 => ?_)
  · have d7 := bI1.mp c7
    refine AW.iconst dX9_brief_12 ?_
    refine AW.top (fun x13 ex13 => ?_)
    refine AW.istore_n [(2, vi x13), (0, rf Γ 94), (1, vi c)] dX9_brief_13 rfl (by decide) rfl ?_
    refine AW.sub [0, 1, 2] rfl ?_
    refine AW.toM (flFi_0 M 98 1000000) (brief_loop0 Γ M c _ (fun x hx => ?_) 703 0 x13 (by omega) (by omega) (by omega))
    refine AW.aload_n dX9_brief_35 1 rfl rfl ?_
    refine AW.getR dX9_brief_36 fl_X9_19 (show sh 94 = (0, 9, [some 95, some 96, some 97, none, none, none, some 98, some 99, some 100, none, none, none, none, some 101, none, none, none, some 102, none, some 103, some 104, none, some 105, some 106, some 107, some 108]) from rfl) rfl ?_
    refine AW.iconst dX9_brief_39 ?_
    refine AW.iconst dX9_brief_40 ?_
    refine AW.iastN 0 dX9_brief_41 (show sh 98 = (1, 702, []) from rfl) rfl (by decide) (by decide) ?_
    obtain ⟨N, hN⟩ : ∃ z : Mm, z = up2 (upM M 98 (flFi (M 98) 1000000 702)) 98 0 0 := ⟨_, rfl⟩
    rw [← hN]
    have n98 : ∀ q : Nat, q < 702 → N 98 q = if q = 0 then 0 else 1000000 := fun q hq => by
      rw [hN]
      by_cases y : q = 0
      · rw [if_pos y, y, up2_s]
      · rw [if_neg y, up2_i y, upM_s]; simp only [flFi]; rw [if_pos hq]
    have nE : ∀ a : Nat, a ≠ 98 → N a = M a := fun a q => by rw [hN, up2_c q, upM_n q]
    refine AW.iconst dX9_brief_42 ?_
    refine AW.top (fun x43 ex43 => ?_)
    refine AW.istore_n [(2, vi x43), (0, rf Γ 94), (1, vi c)] dX9_brief_43 rfl (by decide) rfl ?_
    refine AW.sub [0, 1, 2] rfl ?_
    refine brief_loop2 Γ M hsg (M 96) rfl ho c _ (fun x N2 z1 z2 => ?_) 14 0 x43 N (by omega) (by have := ho.1; omega) ?_ nE (by omega)
    rotate_left
    · intro n g s hn hg hs
      rw [n98 _ (by omega)]
      by_cases q : 54 * n + 2 * g + s = 0
      · rw [if_pos q]
        have q1 : n = 0 := by omega
        have q2 : g = 0 := by omega
        have q3 : s = 0 := by omega
        subst q1; subst q2; subst q3
        exact ⟨fun κ E S hp => (PBr ho hp).1, Or.inr ⟨0, 0, 0, Or.inl ⟨rfl, rfl, rfl, rfl, rfl, rfl⟩, rfl⟩⟩
      · rw [if_neg q]
        refine ⟨fun κ E S hp => ?_, Or.inl rfl⟩
        rcases hp with ⟨p1, p2, p3, p4, _⟩ | ⟨p, g', s', e, c, E', S', p1, _⟩ <;> omega
    refine AW.ldc (z := 1000000) dX9_brief_112 kc_X9_166 (by decide +kernel) ?_
    refine AW.top (fun le ele => ?_)
    refine AW.istore_n [(2, vi le), (0, rf Γ 94), (1, vi c)] dX9_brief_114 rfl (by decide) rfl ?_
    refine AW.iconst dX9_brief_115 ?_
    refine AW.top (fun x3 ex3 => ?_)
    refine AW.istore_n [(3, vi x3), (2, vi le), (0, rf Γ 94), (1, vi c)] dX9_brief_116 rfl (by decide) rfl ?_
    refine AW.sub [0, 1, 2, 3] rfl ?_
    refine brief_loop3 Γ N2 (M 96) (z2 96 (by decide)) ho c z1 _ (fun x4 le4 hz => ?_) 56 0 x3 le (by omega) (by omega) (by rw [ele]; exact ⟨Int.le_refl _, fun c ⟨e, q, _⟩ => by omega, Or.inl rfl⟩) (by omega) (by omega)
    obtain ⟨E, S, mn, hle⟩ := br_mn ho z1 hz
    have hb : (0 ≤ E ∧ E ≤ 768) ∧ (0 ≤ S ∧ S ≤ 24) := by
      obtain ⟨⟨g, s, q⟩, _⟩ := mn
      have := Pth_b ho q; have := ho.1; omega
    refine AW.iload_n dX9_brief_170 3 rfl rfl ?_
    refine AW.if_ne 181 dX9_brief_171 (by decide) (by omega) (fun c171 => ?_) (fun c171 => ?_)
    · refine AW.iload_n dX9_brief_181 1 rfl rfl ?_
      refine AW.bipush (z := (100)) dX9_brief_182 (by decide) ?_
      refine AW.irem dX9_brief_184 (by omega) (by omega) ?_
      exact AW.iret rfl dX9_brief_185 ⟨by unfold briefS; rw [if_pos (by omega)]; exact ⟨E, S, mn, by first | (rw [if_pos (by omega)]; omega) | (rw [if_neg (by omega)]; omega)⟩, z2⟩
    · refine AW.iload_n dX9_brief_174 1 rfl rfl ?_
      refine AW.bipush (z := (100)) dX9_brief_175 (by decide) ?_
      refine AW.idiv dX9_brief_177 (by omega) (by omega) ?_
      refine AW.goto 185 dX9_brief_178 (by decide) ?_
      exact AW.iret rfl dX9_brief_185 ⟨by unfold briefS; rw [if_pos (by omega)]; exact ⟨E, S, mn, by first | (rw [if_pos (by omega)]; omega) | (rw [if_neg (by omega)]; omega)⟩, z2⟩
  · have d7 := bI0.mp c7
    refine AW.iconst dX9_brief_10 ?_
    exact AW.iret rfl dX9_brief_11 ⟨by unfold briefS; rw [if_neg (by omega)], fun _ _ => rfl⟩
