/-! nearest, on both sides -/
def mLo (r : Nat → Int) : Nat → Int := fun i => tl (r (5 + i)).toNat
def mHi (r : Nat → Int) : Nat → Int := fun i => tg (r (5 + i)).toNat
theorem mLo_d (r : Nat → Int) (m : Int) : D8s (mLo r) m := fun i _ => tl_b _
theorem mHi_d (r : Nat → Int) (m : Int) : D8s (mHi r) m := fun i _ => tg_b _
def pick3 (nr : Int × Int × Int) (c : Int) : Int := if nr.1 = -4 then -4 else if c = 0 then nr.1 else if c = 1 then nr.2.1 else nr.2.2
def nearS (r : Nat → Int) (c : Int) : Int := if 0 ≤ c ∧ c ≤ 2 then pick3 (nearF (mLo r) (mHi r) r (r 0)) c else -1

set_option maxRecDepth 20000 in
theorem C_nearest (Γ : GC) (M : Mm) (r : Nat → Int) (ho : OkR r) (hr : stRel M 1 r) (c : Int) (hc0 : R32 c) : Ct Γ uX8_nearest [rf Γ 0, vi c] M (fun z M' => z = nearS r c ∧ ∀ a : Nat, a ≠ 76 → a ≠ 77 → a ≠ 78 → M' a = M a) := by
  refine Ct.of (by decide) (Nat.le_of_ble_eq_true rfl) ?_
  show AW Γ uX8_nearest 0 [(0, rf Γ 0), (1, vi c)] [] M _
  refine AW.iload_n dX8_nearest_0 1 rfl rfl ?_
  refine AW.if_lt 9 dX8_nearest_1 (by decide) (by omega) (fun c1 => ?_) (fun c1 => ?_)
  · refine AW.iconst dX8_nearest_9 ?_
    exact AW.iret rfl dX8_nearest_10 ⟨by unfold nearS; rw [if_neg (by omega)], fun _ _ _ _ => rfl⟩
  · refine AW.iload_n dX8_nearest_4 1 rfl rfl ?_
    refine AW.iconst dX8_nearest_5 ?_
    refine AW.icmp_le 11 dX8_nearest_6 (by decide) (by omega) (by omega) (fun c6 => ?_) (fun c6 => ?_)
    · refine AW.aload_n dX8_nearest_11 0 rfl rfl ?_
      refine AW.getR dX8_nearest_12 fl_X8_53 (show sh 0 = (0, 8, [some 1, some 5, some 31, some 35, none, some 61, some 65, some 71, some 76, some 79, some 83, some 85]) from rfl) rfl ?_
      refine AW.aload_n dX8_nearest_15 0 rfl rfl ?_
      refine AW.getR dX8_nearest_16 fl_X8_10 (show sh 0 = (0, 8, [some 1, some 5, some 31, some 35, none, some 61, some 65, some 71, some 76, some 79, some 83, some 85]) from rfl) rfl ?_
      refine AW.callV1v (C_seeMessage Γ M 1 st1 (by decide) r ho hr) dX8_nearest_19 mc_X8_193 (show sh 76 = (0, 4, [some 77, some 78, none, none, none, none]) from rfl) (fun _ => rfl) ⟨Nat.le_of_ble_eq_true rfl, Nat.le_of_ble_eq_true rfl⟩ (Nat.le_of_ble_eq_true rfl) (fun z19 M19 h19 => ?_)
      obtain ⟨a1, a2, a3, a4⟩ := h19
      have s1 : stRel M19 1 r := hr.frame (a4 _ (by decide) (by decide) (by decide)) (a4 _ (by decide) (by decide) (by decide)) (a4 _ (by decide) (by decide) (by decide)) (a4 _ (by decide) (by decide) (by decide))
      have b1 : D8s (M19 77) (M19 76 2) := fun i hi => by rw [(a3 i (by omega)).1]; exact tl_b _
      have b2 : D8s (M19 78) (M19 76 2) := fun i hi => by rw [(a3 i (by omega)).2]; exact tg_b _
      have b3 : nearF (M19 77) (M19 78) r (M19 76 2) = nearF (mLo r) (mHi r) r (r 0) := by rw [a1]; exact nearF_congr (fun i hi => a3 i hi)
      refine AW.aload_n dX8_nearest_22 0 rfl rfl ?_
      refine AW.getR dX8_nearest_23 fl_X8_53 (show sh 0 = (0, 8, [some 1, some 5, some 31, some 35, none, some 61, some 65, some 71, some 76, some 79, some 83, some 85]) from rfl) rfl ?_
      refine AW.aload_n dX8_nearest_26 0 rfl rfl ?_
      refine AW.getR dX8_nearest_27 fl_X8_10 (show sh 0 = (0, 8, [some 1, some 5, some 31, some 35, none, some 61, some 65, some 71, some 76, some 79, some 83, some 85]) from rfl) rfl ?_
      refine AW.callV1v (C_compare Γ M19 1 st1 (by decide) r ho s1 (by rw [a1]; exact ho.1) b1 b2) dX8_nearest_30 mc_X8_196 (show sh 76 = (0, 4, [some 77, some 78, none, none, none, none]) from rfl) (fun _ => rfl) ⟨Nat.le_of_ble_eq_true rfl, Nat.le_of_ble_eq_true rfl⟩ (Nat.le_of_ble_eq_true rfl) (fun z30 M30 h30 => ?_)
      rw [b3] at h30
      obtain ⟨⟨e1, e2, e3⟩, e4, e5⟩ := h30
      have nb := nearF_b (r := r) (mLo_d r (r 0)) (mHi_d r (r 0)) ho.1
      have o1 := ho.2.1
      refine AW.aload_n dX8_nearest_33 0 rfl rfl ?_
      refine AW.getR dX8_nearest_34 fl_X8_53 (show sh 0 = (0, 8, [some 1, some 5, some 31, some 35, none, some 61, some 65, some 71, some 76, some 79, some 83, some 85]) from rfl) rfl ?_
      refine AW.getI dX8_nearest_37 fl_X8_199 (show sh 76 = (0, 4, [some 77, some 78, none, none, none, none]) from rfl) rfl ?_
      rw [e1]
      refine AW.bipush (z := (-4)) dX8_nearest_40 (by decide) ?_
      refine AW.icmp_ne 48 dX8_nearest_42 (by decide) (by omega) (by omega) (fun c42 => ?_) (fun c42 => ?_)
      · refine AW.iload_n dX8_nearest_48 1 rfl rfl ?_
        rcases (show c = 0 ∨ c = 1 ∨ c = 2 by omega) with hc | hc | hc
        · refine AW.look 76 dX8_nearest_49 (by decide) (by omega) (by rw [hc] <;> rfl) (by decide) ?_
          refine AW.aload_n dX8_nearest_76 0 rfl rfl ?_
          refine AW.getR dX8_nearest_77 fl_X8_53 (show sh 0 = (0, 8, [some 1, some 5, some 31, some 35, none, some 61, some 65, some 71, some 76, some 79, some 83, some 85]) from rfl) rfl ?_
          refine AW.getI dX8_nearest_80 fl_X8_199 (show sh 76 = (0, 4, [some 77, some 78, none, none, none, none]) from rfl) rfl ?_
          rw [e1]
          exact AW.iret rfl dX8_nearest_83 ⟨by unfold nearS pick3; rw [if_pos (by omega), if_neg (by omega), if_pos (by omega)], fun a q1 q2 q3 => by rw [e5 a q1, a4 a q1 q2 q3]⟩
        · refine AW.look 84 dX8_nearest_49 (by decide) (by omega) (by rw [hc] <;> rfl) (by decide) ?_
          refine AW.aload_n dX8_nearest_84 0 rfl rfl ?_
          refine AW.getR dX8_nearest_85 fl_X8_53 (show sh 0 = (0, 8, [some 1, some 5, some 31, some 35, none, some 61, some 65, some 71, some 76, some 79, some 83, some 85]) from rfl) rfl ?_
          refine AW.getI dX8_nearest_88 fl_X8_202 (show sh 76 = (0, 4, [some 77, some 78, none, none, none, none]) from rfl) rfl ?_
          rw [e2]
          exact AW.iret rfl dX8_nearest_91 ⟨by unfold nearS pick3; rw [if_pos (by omega), if_neg (by omega), if_neg (by omega), if_pos (by omega)], fun a q1 q2 q3 => by rw [e5 a q1, a4 a q1 q2 q3]⟩
        · refine AW.look 92 dX8_nearest_49 (by decide) (by omega) (by rw [hc] <;> rfl) (by decide) ?_
          refine AW.aload_n dX8_nearest_92 0 rfl rfl ?_
          refine AW.getR dX8_nearest_93 fl_X8_53 (show sh 0 = (0, 8, [some 1, some 5, some 31, some 35, none, some 61, some 65, some 71, some 76, some 79, some 83, some 85]) from rfl) rfl ?_
          refine AW.getI dX8_nearest_96 fl_X8_205 (show sh 76 = (0, 4, [some 77, some 78, none, none, none, none]) from rfl) rfl ?_
          rw [e3]
          refine AW.if_eq 106 dX8_nearest_99 (by decide) (by omega) (fun c99 => ?_) (fun c99 => ?_)
          · refine AW.iconst dX8_nearest_106 ?_
            exact AW.iret rfl dX8_nearest_107 ⟨by unfold nearS pick3; rw [if_pos (by omega), if_neg (by omega), if_neg (by omega), if_neg (by omega)]; omega, fun a q1 q2 q3 => by rw [e5 a q1, a4 a q1 q2 q3]⟩
          · refine AW.iconst dX8_nearest_102 ?_
            refine AW.goto 107 dX8_nearest_103 (by decide) ?_
            exact AW.iret rfl dX8_nearest_107 ⟨by unfold nearS pick3; rw [if_pos (by omega), if_neg (by omega), if_neg (by omega), if_neg (by omega)]; omega, fun a q1 q2 q3 => by rw [e5 a q1, a4 a q1 q2 q3]⟩
      · refine AW.bipush (z := (-4)) dX8_nearest_45 (by decide) ?_
        exact AW.iret rfl dX8_nearest_47 ⟨by unfold nearS pick3; rw [if_pos (by omega), if_pos (by omega)], fun a q1 q2 q3 => by rw [e5 a q1, a4 a q1 q2 q3]⟩
    · refine AW.iconst dX8_nearest_9 ?_
      exact AW.iret rfl dX8_nearest_10 ⟨by unfold nearS; rw [if_neg (by omega)], fun _ _ _ _ => rfl⟩

set_option maxRecDepth 20000 in
theorem sees_loop (Γ : GC) (M : Mm) (hsg : SG M) (ho : OkR (M 96)) : ∀ (n i : Nat) (x : Int) (N : Mm), x = i → (i : Int) ≤ M 96 0 → N 94 9 = M 96 0 → (∀ j : Nat, j ≠ 9 → N 94 j = M 94 j) → (∀ q : Nat, q < i → N 99 q = mLo (M 96) q ∧ N 100 q = mHi (M 96) q) → (∀ a : Nat, a ≠ 94 → a ≠ 99 → a ≠ 100 → N a = M a) → 12 - i < n → AW Γ uX9_sees 12 [(1, vi x), (0, rf Γ 94)] [] N (fun _ M' => M' 94 9 = M 96 0 ∧ (∀ j : Nat, j ≠ 9 → M' 94 j = M 94 j) ∧ (∀ i : Nat, (i : Int) < M 96 0 → M' 99 i = mLo (M 96) i ∧ M' 100 i = mHi (M 96) i) ∧ ∀ a : Nat, a ≠ 94 → a ≠ 99 → a ≠ 100 → M' a = M a) := by
  obtain ⟨o0, o1, o2, o3, o4, o5, o6⟩ := id ho
  intro n
  induction n with
  | zero => intro i x N g1 g2 g3 g4 g5 g6 gm; omega
  | succ n ih =>
    intro i x N g1 g2 g3 g4 g5 g6 gm
    have hl : (i : Int) < M 96 0 → 0 ≤ M 96 (5 + i) ∧ M 96 (5 + i) < 26 := o5 i
    have eN : N 96 = M 96 := g6 96 (by decide) (by decide) (by decide)
    have sgN : SG N := fun j hj => by rw [g6 95 (by decide) (by decide) (by decide)]; exact hsg j hj
    refine AW.iload_n dX9_sees_12 0 rfl rfl ?_
    refine AW.aload_n dX9_sees_13 1 rfl rfl ?_
    refine AW.getI dX9_sees_14 fl_X9_182 (show sh 94 = (0, 9, [some 95, some 96, some 97, none, none, none, some 98, some 99, some 100, none, none, none, none, some 101, none, none, none, some 102, none, some 103, some 104, none, some 105, some 106, some 107, some 108]) from rfl) rfl ?_
    rw [g3]
    refine AW.icmp_ge 56 dX9_sees_17 (by decide) (by omega) (by omega) (fun c17 => ?_) (fun c17 => ?_)
    · exact AW.vret rfl dX9_sees_56 ⟨g3, g4, fun q hq => g5 q (by omega), g6⟩
    · refine AW.aload_n dX9_sees_20 1 rfl rfl ?_
      refine AW.getR dX9_sees_21 fl_X9_22 (show sh 94 = (0, 9, [some 95, some 96, some 97, none, none, none, some 98, some 99, some 100, none, none, none, none, some 101, none, none, none, some 102, none, some 103, some 104, none, some 105, some 106, some 107, some 108]) from rfl) rfl ?_
      refine AW.iload_n dX9_sees_24 0 rfl rfl ?_
      refine AW.aload_n dX9_sees_25 1 rfl rfl ?_
      refine AW.aload_n dX9_sees_26 1 rfl rfl ?_
      refine AW.iload_n dX9_sees_27 0 rfl rfl ?_
      refine AW.callV1ip (C9_at Γ _ _ i (by omega) (by omega)) dX9_sees_28 mc_X9_91 (show sh 94 = (0, 9, [some 95, some 96, some 97, none, none, none, some 98, some 99, some 100, none, none, none, none, some 101, none, none, none, some 102, none, some 103, some 104, none, some 105, some 106, some 107, some 108]) from rfl) (fun _ => rfl) ⟨Nat.le_of_ble_eq_true rfl, Nat.le_of_ble_eq_true rfl⟩ (Nat.le_of_ble_eq_true rfl) ?_
      refine AW.callV1ip (C9_low Γ _ sgN _ (by rw [eN]; have := hl (by omega); omega)) dX9_sees_31 mc_X9_61 (show sh 94 = (0, 9, [some 95, some 96, some 97, none, none, none, some 98, some 99, some 100, none, none, none, none, some 101, none, none, none, some 102, none, some 103, some 104, none, some 105, some 106, some 107, some 108]) from rfl) (fun _ => rfl) ⟨Nat.le_of_ble_eq_true rfl, Nat.le_of_ble_eq_true rfl⟩ (Nat.le_of_ble_eq_true rfl) ?_
      refine AW.iastN i dX9_sees_34 (show sh 99 = (1, 12, []) from rfl) (by omega) (by omega) (by decide) ?_
      have sgN2 : ∀ z : Int, SG (up2 N 99 i z) := fun z j hj => by rw [up2_c (by decide)]; exact sgN j hj
      refine AW.aload_n dX9_sees_35 1 rfl rfl ?_
      refine AW.getR dX9_sees_36 fl_X9_25 (show sh 94 = (0, 9, [some 95, some 96, some 97, none, none, none, some 98, some 99, some 100, none, none, none, none, some 101, none, none, none, some 102, none, some 103, some 104, none, some 105, some 106, some 107, some 108]) from rfl) rfl ?_
      refine AW.iload_n dX9_sees_39 0 rfl rfl ?_
      refine AW.aload_n dX9_sees_40 1 rfl rfl ?_
      refine AW.aload_n dX9_sees_41 1 rfl rfl ?_
      refine AW.iload_n dX9_sees_42 0 rfl rfl ?_
      refine AW.callV1ip (C9_at Γ _ _ i (by omega) (by omega)) dX9_sees_43 mc_X9_91 (show sh 94 = (0, 9, [some 95, some 96, some 97, none, none, none, some 98, some 99, some 100, none, none, none, none, some 101, none, none, none, some 102, none, some 103, some 104, none, some 105, some 106, some 107, some 108]) from rfl) (fun _ => rfl) ⟨Nat.le_of_ble_eq_true rfl, Nat.le_of_ble_eq_true rfl⟩ (Nat.le_of_ble_eq_true rfl) ?_
      refine AW.callV1ip (C9_high Γ _ (sgN2 _) _ (by rw [up2_c (by decide), eN]; have := hl (by omega); omega)) dX9_sees_46 mc_X9_65 (show sh 94 = (0, 9, [some 95, some 96, some 97, none, none, none, some 98, some 99, some 100, none, none, none, none, some 101, none, none, none, some 102, none, some 103, some 104, none, some 105, some 106, some 107, some 108]) from rfl) (fun _ => rfl) ⟨Nat.le_of_ble_eq_true rfl, Nat.le_of_ble_eq_true rfl⟩ (Nat.le_of_ble_eq_true rfl) ?_
      refine AW.iastN i dX9_sees_49 (show sh 100 = (1, 12, []) from rfl) (by omega) (by omega) (by decide) ?_
      obtain ⟨x50, ex50⟩ : ∃ z : Int, x + 1 = z := ⟨_, rfl⟩
      refine AW.iinc [(1, vi x50), (0, rf Γ 94)] dX9_sees_50 0 rfl (by decide) x50 ex50 rfl ?_
      refine AW.goto 12 dX9_sees_53 (by decide) ?_
      refine AW.sub [0, 1] rfl ?_
      exact ih (i + 1) x50 _ (by omega) (by omega) (by rw [up2_c (by decide), up2_c (by decide)]; exact g3) (fun j hj => by rw [up2_c (by decide), up2_c (by decide)]; exact g4 j hj) (fun q hq => by
        rcases Nat.lt_or_ge q i with h | h
        · rw [up2_c (by decide), up2_i (by omega), up2_i (by omega), up2_c (by decide)]; exact g5 q h
        · have : q = i := by omega
          subst this
          rw [up2_c (by decide), up2_s, up2_s, up2_c (by decide), eN]; exact ⟨rfl, rfl⟩) (fun a b1 b2 b3 => by rw [up2_c b3, up2_c b2]; exact g6 a b1 b2 b3) (by omega)

set_option maxRecDepth 20000 in
theorem C9_sees (Γ : GC) (M : Mm) (hsg : SG M) (ho : OkR (M 96)) : Ct Γ uX9_sees [rf Γ 94] M (fun _ M' => M' 94 9 = M 96 0 ∧ (∀ j : Nat, j ≠ 9 → M' 94 j = M 94 j) ∧ (∀ i : Nat, (i : Int) < M 96 0 → M' 99 i = mLo (M 96) i ∧ M' 100 i = mHi (M 96) i) ∧ ∀ a : Nat, a ≠ 94 → a ≠ 99 → a ≠ 100 → M' a = M a) := by
  refine Ct.of (by decide) (Nat.le_of_ble_eq_true rfl) ?_
  show AW Γ uX9_sees 0 [(0, rf Γ 94)] [] M _
  refine AW.aload_n dX9_sees_0 0 rfl rfl ?_
  refine AW.aload_n dX9_sees_1 0 rfl rfl ?_
  refine AW.getR dX9_sees_2 fl_X9_13 (show sh 94 = (0, 9, [some 95, some 96, some 97, none, none, none, some 98, some 99, some 100, none, none, none, none, some 101, none, none, none, some 102, none, some 103, some 104, none, some 105, some 106, some 107, some 108]) from rfl) rfl ?_
  refine AW.iconst dX9_sees_5 ?_
  refine AW.ialdN 0 dX9_sees_6 (show sh 96 = (1, 59, []) from rfl) rfl (by decide) (by decide) ?_
  refine AW.putI dX9_sees_7 fp_X9_182 (show sh 94 = (0, 9, [some 95, some 96, some 97, none, none, none, some 98, some 99, some 100, none, none, none, none, some 101, none, none, none, some 102, none, some 103, some 104, none, some 105, some 106, some 107, some 108]) from rfl) rfl ?_
  refine AW.iconst dX9_sees_10 ?_
  refine AW.top (fun x11 ex11 => ?_)
  refine AW.istore_n [(1, vi x11), (0, rf Γ 94)] dX9_sees_11 rfl (by decide) rfl ?_
  refine AW.sub [0, 1] rfl ?_
  exact sees_loop Γ M hsg ho 13 0 x11 _ (by omega) (by have := ho.1; omega) up2_s (fun j hj => up2_i hj) (fun q hq => by omega) (fun a b1 b2 b3 => up2_c b1) (by omega)

def npP (M M' : Mm) (nr : Int × Int × Int) : Prop := (M' 94 10 = nr.1 ∧ M' 94 11 = (if nr.1 = -4 then -4 else nr.2.1) ∧ M' 94 12 = nr.2.2) ∧ (∀ j : Nat, j ≠ 10 → j ≠ 11 → j ≠ 12 → M' 94 j = M 94 j) ∧ ∀ a : Nat, a ≠ 94 → M' a = M a
theorem npP.put {M M' : Mm} {nr : Int × Int × Int} (h : npP M M' nr) (a b b' c : Int) (hb : b = (if a = -4 then -4 else b')) : npP M (up2 (up2 (up2 M' 94 12 c) 94 10 a) 94 11 b) (a, b', c) :=
  ⟨⟨by rw [up2_i (by decide), up2_s], by rw [up2_s]; exact hb, by rw [up2_i (by decide), up2_i (by decide), up2_s]⟩, fun j h1 h2 h3 => by rw [up2_i h2, up2_i h1, up2_i h3]; exact h.2.1 j h1 h2 h3, fun q hq => by rw [up2_c hq, up2_c hq, up2_c hq]; exact h.2.2 q hq⟩

set_option maxRecDepth 20000 in
theorem nears_in (Γ : GC) (N : Mm) (hsg : SG N) (w0 : Nat) (kx : Int) (hkx : kx = w0) (hw : w0 < 6) (hl : ∀ i : Nat, (i : Int) < N 94 9 → 0 ≤ N 96 (18 + 7 * w0 + i) ∧ N 96 (18 + 7 * w0 + i) < 26) (hm : N 96 (17 + 7 * w0) = N 94 9) (hm2 : 0 ≤ N 94 9 ∧ N 94 9 ≤ 6) (hd1 : D8s (N 99) (N 94 9)) (hd2 : D8s (N 100) (N 94 9)) (Q : Int → Mm → Prop) (hx : ∀ x f : Int, f = dsF (N 99) (N 100) (N 96) w0 (N 94 9).toNat → AW Γ uX9_nears 97 [(3, vi x), (2, vi f), (1, vi kx), (0, rf Γ 94)] [] N Q) : ∀ (n i : Nat) (x f : Int), x = i → (i : Int) ≤ N 94 9 → f = dsF (N 99) (N 100) (N 96) w0 i → 12 - i < n → AW Γ uX9_nears 33 [(3, vi x), (2, vi f), (1, vi kx), (0, rf Γ 94)] [] N Q := by
  intro n
  induction n with
  | zero => intro i x f g0 g1 g2 gm; omega
  | succ n ih =>
    intro i x f g0 g1 g2 gm
    refine AW.iload_n dX9_nears_33 0 rfl rfl ?_
    refine AW.aload_n dX9_nears_34 3 rfl rfl ?_
    refine AW.getI dX9_nears_35 fl_X9_182 (show sh 94 = (0, 9, [some 95, some 96, some 97, none, none, none, some 98, some 99, some 100, none, none, none, none, some 101, none, none, none, some 102, none, some 103, some 104, none, some 105, some 106, some 107, some 108]) from rfl) rfl ?_
    refine AW.icmp_ge 97 dX9_nears_38 (by decide) (by omega) (by omega) (fun c38 => ?_) (fun c38 => ?_)
    · refine AW.sub [0, 1, 2, 3] rfl ?_
      exact hx x f (by rw [g2, show i = (N 94 9).toNat by omega])
    · refine AW.aload_n dX9_nears_41 3 rfl rfl ?_
      refine AW.iload_n dX9_nears_42 2 rfl rfl ?_
      refine AW.callV1ip (C9_sizeOf Γ N _ w0 (by omega) (by omega)) dX9_nears_43 mc_X9_100 (show sh 94 = (0, 9, [some 95, some 96, some 97, none, none, none, some 98, some 99, some 100, none, none, none, none, some 101, none, none, none, some 102, none, some 103, some 104, none, some 105, some 106, some 107, some 108]) from rfl) (fun _ => rfl) ⟨Nat.le_of_ble_eq_true rfl, Nat.le_of_ble_eq_true rfl⟩ (Nat.le_of_ble_eq_true rfl) ?_
      refine AW.aload_n dX9_nears_46 3 rfl rfl ?_
      refine AW.getI dX9_nears_47 fl_X9_182 (show sh 94 = (0, 9, [some 95, some 96, some 97, none, none, none, some 98, some 99, some 100, none, none, none, none, some 101, none, none, none, some 102, none, some 103, some 104, none, some 105, some 106, some 107, some 108]) from rfl) rfl ?_
      refine AW.icmp_ne 97 dX9_nears_50 (by decide) (by omega) (by omega) (fun c50 => ?_) (fun c50 => ?_)
      · exfalso; omega
      · refine AW.iload_n dX9_nears_53 1 rfl rfl ?_
        refine AW.aload_n dX9_nears_54 3 rfl rfl ?_
        refine AW.getR dX9_nears_55 fl_X9_22 (show sh 94 = (0, 9, [some 95, some 96, some 97, none, none, none, some 98, some 99, some 100, none, none, none, none, some 101, none, none, none, some 102, none, some 103, some 104, none, some 105, some 106, some 107, some 108]) from rfl) rfl ?_
        refine AW.iload_n dX9_nears_58 0 rfl rfl ?_
        refine AW.ialdN i dX9_nears_59 (show sh 99 = (1, 12, []) from rfl) (by omega) (by omega) (by decide) ?_
        refine AW.aload_n dX9_nears_60 3 rfl rfl ?_
        refine AW.getR dX9_nears_61 fl_X9_25 (show sh 94 = (0, 9, [some 95, some 96, some 97, none, none, none, some 98, some 99, some 100, none, none, none, none, some 101, none, none, none, some 102, none, some 103, some 104, none, some 105, some 106, some 107, some 108]) from rfl) rfl ?_
        refine AW.iload_n dX9_nears_64 0 rfl rfl ?_
        refine AW.ialdN i dX9_nears_65 (show sh 100 = (1, 12, []) from rfl) (by omega) (by omega) (by decide) ?_
        refine AW.aload_n dX9_nears_66 3 rfl rfl ?_
        refine AW.aload_n dX9_nears_67 3 rfl rfl ?_
        refine AW.iload_n dX9_nears_68 2 rfl rfl ?_
        refine AW.iload_n dX9_nears_69 0 rfl rfl ?_
        refine AW.callV2ip (C9_ofWord Γ N _ _ w0 i (by omega) (by omega) (by omega) (by omega)) dX9_nears_70 mc_X9_103 (show sh 94 = (0, 9, [some 95, some 96, some 97, none, none, none, some 98, some 99, some 100, none, none, none, none, some 101, none, none, none, some 102, none, some 103, some 104, none, some 105, some 106, some 107, some 108]) from rfl) (fun _ => rfl) ⟨Nat.le_of_ble_eq_true rfl, Nat.le_of_ble_eq_true rfl⟩ (Nat.le_of_ble_eq_true rfl) ?_
        refine AW.callV1ip (C9_low Γ N hsg _ (by have := hl i (by omega); omega)) dX9_nears_73 mc_X9_61 (show sh 94 = (0, 9, [some 95, some 96, some 97, none, none, none, some 98, some 99, some 100, none, none, none, none, some 101, none, none, none, some 102, none, some 103, some 104, none, some 105, some 106, some 107, some 108]) from rfl) (fun _ => rfl) ⟨Nat.le_of_ble_eq_true rfl, Nat.le_of_ble_eq_true rfl⟩ (Nat.le_of_ble_eq_true rfl) ?_
        refine AW.aload_n dX9_nears_76 3 rfl rfl ?_
        refine AW.aload_n dX9_nears_77 3 rfl rfl ?_
        refine AW.iload_n dX9_nears_78 2 rfl rfl ?_
        refine AW.iload_n dX9_nears_79 0 rfl rfl ?_
        refine AW.callV2ip (C9_ofWord Γ N _ _ w0 i (by omega) (by omega) (by omega) (by omega)) dX9_nears_80 mc_X9_103 (show sh 94 = (0, 9, [some 95, some 96, some 97, none, none, none, some 98, some 99, some 100, none, none, none, none, some 101, none, none, none, some 102, none, some 103, some 104, none, some 105, some 106, some 107, some 108]) from rfl) (fun _ => rfl) ⟨Nat.le_of_ble_eq_true rfl, Nat.le_of_ble_eq_true rfl⟩ (Nat.le_of_ble_eq_true rfl) ?_
        refine AW.callV1ip (C9_high Γ N hsg _ (by have := hl i (by omega); omega)) dX9_nears_83 mc_X9_65 (show sh 94 = (0, 9, [some 95, some 96, some 97, none, none, none, some 98, some 99, some 100, none, none, none, none, some 101, none, none, none, some 102, none, some 103, some 104, none, some 105, some 106, some 107, some 108]) from rfl) (fun _ => rfl) ⟨Nat.le_of_ble_eq_true rfl, Nat.le_of_ble_eq_true rfl⟩ (Nat.le_of_ble_eq_true rfl) ?_
        refine AW.callS4ip (C9_apartOf Γ N _ _ _ _ (hd1 i (by omega)) (hd2 i (by omega)) (tl_b _) (tg_b _)) dX9_nears_86 mc_X9_87 (fun _ => rfl) ⟨Nat.le_of_ble_eq_true rfl, Nat.le_of_ble_eq_true rfl⟩ (Nat.le_of_ble_eq_true rfl) ?_
        refine AW.iadd dX9_nears_89 ?_
        refine AW.top (fun f2 ef2 => ?_)
        refine AW.istore_n [(2, vi f2), (3, vi x), (1, vi kx), (0, rf Γ 94)] dX9_nears_90 rfl (by decide) rfl ?_
        obtain ⟨x91, ex91⟩ : ∃ z : Int, x + 1 = z := ⟨_, rfl⟩
        refine AW.iinc [(3, vi x91), (2, vi f2), (1, vi kx), (0, rf Γ 94)] dX9_nears_91 1 rfl (by decide) x91 ex91 rfl ?_
        refine AW.goto 33 dX9_nears_94 (by decide) ?_
        refine AW.sub [0, 1, 2, 3] rfl ?_
        exact ih (i + 1) x91 f2 (by omega) (by omega) (by rw [ef2, g2]; rfl) (by omega)

theorem npP_eq {M M' : Mm} {a b : Int × Int × Int} (h : npP M M' a) (h1 : a.1 = b.1) (h2 : a.2.1 = b.2.1) (h3 : a.2.2 = b.2.2) : npP M M' b := by
  obtain ⟨a1, a2, a3⟩ := a; obtain ⟨b1, b2, b3⟩ := b
  dsimp only at h1 h2 h3; subst h1; subst h2; subst h3; exact h
set_option maxRecDepth 20000 in
theorem nears_loop (Γ : GC) (M : Mm) (hsg : SG M) (ho : OkR (M 96)) (hm0 : 0 ≤ M 94 9 ∧ M 94 9 ≤ 12) (hd1 : D8s (M 99) (M 94 9)) (hd2 : D8s (M 100) (M 94 9)) : ∀ (n i : Nat) (x : Int) (N : Mm), x = i → (i : Int) ≤ M 96 1 → npP M N (nrF (fun w => dsF (M 99) (M 100) (M 96) w (M 94 9).toNat) (M 96) (M 94 9) i) → 6 - i < n → AW Γ uX9_nears 19 [(1, vi x), (0, rf Γ 94)] [] N (fun _ M' => npP M M' (nearF (M 99) (M 100) (M 96) (M 94 9))) := by
  obtain ⟨o0, o1, o2, o3, o4, o5, o6⟩ := id ho
  intro n
  induction n with
  | zero => intro i x N g1 g2 g3 gm; omega
  | succ n ih =>
    intro i x N g1 g2 g3 gm
    have hb := nrF_b (D := fun w => dsF (M 99) (M 100) (M 96) w (M 94 9).toNat) (r := M 96) (m := M 94 9) (fun w => by have := dsF_b hd1 hd2 (r := M 96) w (M 94 9).toNat (by omega); (try dsimp only); omega) i
    have hdb := dsF_b hd1 hd2 (r := M 96) i (M 94 9).toNat (by omega)
    have e96 : N 96 = M 96 := g3.2.2 96 (by decide)
    have e99 : N 99 = M 99 := g3.2.2 99 (by decide)
    have e100 : N 100 = M 100 := g3.2.2 100 (by decide)
    have eN9 : N 94 9 = M 94 9 := g3.2.1 9 (by decide) (by decide) (by decide)
    have sgN : SG N := fun j hj => by rw [g3.2.2 95 (by decide)]; exact hsg j hj
    have hdN1 : D8s (N 99) (N 94 9) := by rw [e99, eN9]; exact hd1
    have hdN2 : D8s (N 100) (N 94 9) := by rw [e100, eN9]; exact hd2
    have hl7 : (i : Int) < M 96 1 → (1 ≤ M 96 (17 + 7 * i) ∧ M 96 (17 + 7 * i) ≤ 6) := fun q => (o6 i q).1
    refine AW.iload_n dX9_nears_19 0 rfl rfl ?_
    refine AW.aload_n dX9_nears_20 1 rfl rfl ?_
    refine AW.getR dX9_nears_21 fl_X9_13 (show sh 94 = (0, 9, [some 95, some 96, some 97, none, none, none, some 98, some 99, some 100, none, none, none, none, some 101, none, none, none, some 102, none, some 103, some 104, none, some 105, some 106, some 107, some 108]) from rfl) rfl ?_
    refine AW.iconst dX9_nears_24 ?_
    refine AW.ialdN 1 dX9_nears_25 (show sh 96 = (1, 59, []) from rfl) rfl (by decide) (by decide) ?_
    rw [g3.2.2 96 (by decide)]
    refine AW.icmp_ge 208 dX9_nears_26 (by decide) (by omega) (by omega) (fun c26 => ?_) (fun c26 => ?_)
    · exact AW.vret rfl dX9_nears_208 (by unfold nearF; rw [show (M 96 1).toNat = i by omega]; exact g3)
    · refine AW.iconst dX9_nears_29 ?_
      refine AW.top (fun x30 ex30 => ?_)
      refine AW.istore_n [(2, vi x30), (1, vi x), (0, rf Γ 94)] dX9_nears_30 rfl (by decide) rfl ?_
      refine AW.iconst dX9_nears_31 ?_
      refine AW.top (fun x32 ex32 => ?_)
      refine AW.istore_n [(3, vi x32), (2, vi x30), (1, vi x), (0, rf Γ 94)] dX9_nears_32 rfl (by decide) rfl ?_
      refine AW.sub [0, 1, 2, 3] rfl ?_
      by_cases hm : M 96 (17 + 7 * i) = M 94 9
      · refine nears_in Γ N sgN i x (by omega) (by omega) (fun q hq => by rw [e96]; exact (o6 i (by omega)).2 q (by omega)) (by rw [e96, eN9]; exact hm) (by rw [eN9]; have := (o6 i (by omega)).1; omega) hdN1 hdN2 _ (fun x3 f hf => ?_) 14 0 x32 x30 (by omega) (by rw [eN9]; omega) (by rw [ex30]; rfl) (by omega)
        have hfd : f = dsF (M 99) (M 100) (M 96) i (M 94 9).toNat := by rw [hf, e96, e99, e100, eN9]
        by_cases hA : (nrF (fun w => dsF (M 99) (M 100) (M 96) w (M 94 9).toNat) (M 96) (M 94 9) i).1 = -4
        · refine AW.aload_n dX9_nears_97 3 rfl rfl ?_
          refine AW.iload_n dX9_nears_98 2 rfl rfl ?_
          refine AW.callV1ip (C9_sizeOf Γ N _ i (by omega) (by omega)) dX9_nears_99 mc_X9_100 (show sh 94 = (0, 9, [some 95, some 96, some 97, none, none, none, some 98, some 99, some 100, none, none, none, none, some 101, none, none, none, some 102, none, some 103, some 104, none, some 105, some 106, some 107, some 108]) from rfl) (fun _ => rfl) ⟨Nat.le_of_ble_eq_true rfl, Nat.le_of_ble_eq_true rfl⟩ (Nat.le_of_ble_eq_true rfl) ?_
          refine AW.aload_n dX9_nears_102 3 rfl rfl ?_
          refine AW.getI dX9_nears_103 fl_X9_182 (show sh 94 = (0, 9, [some 95, some 96, some 97, none, none, none, some 98, some 99, some 100, none, none, none, none, some 101, none, none, none, some 102, none, some 103, some 104, none, some 105, some 106, some 107, some 108]) from rfl) rfl ?_
          rw [eN9, e96]
          refine AW.icmp_ne 202 dX9_nears_106 (by decide) (by omega) (by omega) (fun c106 => ?_) (fun c106 => ?_)
          · exfalso; omega
          · refine AW.aload_n dX9_nears_109 3 rfl rfl ?_
            refine AW.aload_n dX9_nears_110 3 rfl rfl ?_
            refine AW.getI dX9_nears_111 fl_X9_185 (show sh 94 = (0, 9, [some 95, some 96, some 97, none, none, none, some 98, some 99, some 100, none, none, none, none, some 101, none, none, none, some 102, none, some 103, some 104, none, some 105, some 106, some 107, some 108]) from rfl) rfl ?_
            rw [g3.1.1]
            refine AW.if_lt 140 dX9_nears_114 (by decide) (by omega) (fun c114 => ?_) (fun c114 => ?_)
            · refine AW.iconst dX9_nears_140 ?_
              refine AW.goto 145 dX9_nears_141 (by decide) ?_
              refine AW.putZ dX9_nears_145 fp_X9_191 (show sh 94 = (0, 9, [some 95, some 96, some 97, none, none, none, some 98, some 99, some 100, none, none, none, none, some 101, none, none, none, some 102, none, some 103, some 104, none, some 105, some 106, some 107, some 108]) from rfl) rfl (by omega) ?_
              refine AW.aload_n dX9_nears_148 3 rfl rfl ?_
              refine AW.aload_n dX9_nears_149 3 rfl rfl ?_
              refine AW.getI dX9_nears_150 fl_X9_185 (show sh 94 = (0, 9, [some 95, some 96, some 97, none, none, none, some 98, some 99, some 100, none, none, none, none, some 101, none, none, none, some 102, none, some 103, some 104, none, some 105, some 106, some 107, some 108]) from rfl) rfl ?_
              rw [up2_i (by decide), g3.1.1]
              refine AW.if_lt 164 dX9_nears_153 (by decide) (by omega) (fun c153 => ?_) (fun c153 => ?_)
              · refine AW.iload_n dX9_nears_164 2 rfl rfl ?_
                refine AW.goto 172 dX9_nears_165 (by decide) ?_
                refine AW.putI dX9_nears_172 fp_X9_185 (show sh 94 = (0, 9, [some 95, some 96, some 97, none, none, none, some 98, some 99, some 100, none, none, none, none, some 101, none, none, none, some 102, none, some 103, some 104, none, some 105, some 106, some 107, some 108]) from rfl) rfl ?_
                refine AW.aload_n dX9_nears_175 3 rfl rfl ?_
                refine AW.aload_n dX9_nears_176 3 rfl rfl ?_
                refine AW.getI dX9_nears_177 fl_X9_188 (show sh 94 = (0, 9, [some 95, some 96, some 97, none, none, none, some 98, some 99, some 100, none, none, none, none, some 101, none, none, none, some 102, none, some 103, some 104, none, some 105, some 106, some 107, some 108]) from rfl) rfl ?_
                rw [up2_i (by decide), up2_i (by decide), g3.1.2.1]
                rw [if_pos (show (nrF (fun w => dsF (M 99) (M 100) (M 96) w (M 94 9).toNat) (M 96) (M 94 9) i).1 = -4 by omega)]
                refine AW.if_lt 191 dX9_nears_180 (by decide) (by omega) (fun c180 => ?_) (fun c180 => ?_)
                · refine AW.iload_n dX9_nears_191 1 rfl rfl ?_
                  refine AW.goto 199 dX9_nears_192 (by decide) ?_
                  refine AW.putI dX9_nears_199 fp_X9_188 (show sh 94 = (0, 9, [some 95, some 96, some 97, none, none, none, some 98, some 99, some 100, none, none, none, none, some 101, none, none, none, some 102, none, some 103, some 104, none, some 105, some 106, some 107, some 108]) from rfl) rfl ?_
                  obtain ⟨x202, ex202⟩ : ∃ z : Int, x + 1 = z := ⟨_, rfl⟩
                  refine AW.iinc [(1, vi x202), (3, vi x3), (2, vi f), (0, rf Γ 94)] dX9_nears_202 2 rfl (by decide) x202 ex202 rfl ?_
                  refine AW.goto 19 dX9_nears_205 (by decide) ?_
                  refine AW.sub [0, 3] rfl ?_
                  refine ih (i + 1) x202 _ (by omega) (by omega) ?_ (by omega)
                  simp only [nrF]
                  rw [if_pos (by omega), if_pos (by omega), ← hfd, ← g1]
                  exact g3.put _ _ _ _ (by rw [if_neg (by omega)])
                · exfalso; omega
              · exfalso; omega
            · exfalso; omega
        · by_cases hB : f < (nrF (fun w => dsF (M 99) (M 100) (M 96) w (M 94 9).toNat) (M 96) (M 94 9) i).2.1
          · refine AW.aload_n dX9_nears_97 3 rfl rfl ?_
            refine AW.iload_n dX9_nears_98 2 rfl rfl ?_
            refine AW.callV1ip (C9_sizeOf Γ N _ i (by omega) (by omega)) dX9_nears_99 mc_X9_100 (show sh 94 = (0, 9, [some 95, some 96, some 97, none, none, none, some 98, some 99, some 100, none, none, none, none, some 101, none, none, none, some 102, none, some 103, some 104, none, some 105, some 106, some 107, some 108]) from rfl) (fun _ => rfl) ⟨Nat.le_of_ble_eq_true rfl, Nat.le_of_ble_eq_true rfl⟩ (Nat.le_of_ble_eq_true rfl) ?_
            refine AW.aload_n dX9_nears_102 3 rfl rfl ?_
            refine AW.getI dX9_nears_103 fl_X9_182 (show sh 94 = (0, 9, [some 95, some 96, some 97, none, none, none, some 98, some 99, some 100, none, none, none, none, some 101, none, none, none, some 102, none, some 103, some 104, none, some 105, some 106, some 107, some 108]) from rfl) rfl ?_
            rw [eN9, e96]
            refine AW.icmp_ne 202 dX9_nears_106 (by decide) (by omega) (by omega) (fun c106 => ?_) (fun c106 => ?_)
            · exfalso; omega
            · refine AW.aload_n dX9_nears_109 3 rfl rfl ?_
              refine AW.aload_n dX9_nears_110 3 rfl rfl ?_
              refine AW.getI dX9_nears_111 fl_X9_185 (show sh 94 = (0, 9, [some 95, some 96, some 97, none, none, none, some 98, some 99, some 100, none, none, none, none, some 101, none, none, none, some 102, none, some 103, some 104, none, some 105, some 106, some 107, some 108]) from rfl) rfl ?_
              rw [g3.1.1]
              refine AW.if_lt 140 dX9_nears_114 (by decide) (by omega) (fun c114 => ?_) (fun c114 => ?_)
              · exfalso; omega
              · refine AW.iload_n dX9_nears_117 1 rfl rfl ?_
                refine AW.aload_n dX9_nears_118 3 rfl rfl ?_
                refine AW.getI dX9_nears_119 fl_X9_188 (show sh 94 = (0, 9, [some 95, some 96, some 97, none, none, none, some 98, some 99, some 100, none, none, none, none, some 101, none, none, none, some 102, none, some 103, some 104, none, some 105, some 106, some 107, some 108]) from rfl) rfl ?_
                rw [g3.1.2.1]
                rw [if_neg (show ¬ (nrF (fun w => dsF (M 99) (M 100) (M 96) w (M 94 9).toNat) (M 96) (M 94 9) i).1 = -4 by omega)]
                refine AW.icmp_lt 140 dX9_nears_122 (by decide) (by omega) (by omega) (fun c122 => ?_) (fun c122 => ?_)
                · refine AW.iconst dX9_nears_140 ?_
                  refine AW.goto 145 dX9_nears_141 (by decide) ?_
                  refine AW.putZ dX9_nears_145 fp_X9_191 (show sh 94 = (0, 9, [some 95, some 96, some 97, none, none, none, some 98, some 99, some 100, none, none, none, none, some 101, none, none, none, some 102, none, some 103, some 104, none, some 105, some 106, some 107, some 108]) from rfl) rfl (by omega) ?_
                  refine AW.aload_n dX9_nears_148 3 rfl rfl ?_
                  refine AW.aload_n dX9_nears_149 3 rfl rfl ?_
                  refine AW.getI dX9_nears_150 fl_X9_185 (show sh 94 = (0, 9, [some 95, some 96, some 97, none, none, none, some 98, some 99, some 100, none, none, none, none, some 101, none, none, none, some 102, none, some 103, some 104, none, some 105, some 106, some 107, some 108]) from rfl) rfl ?_
                  rw [up2_i (by decide), g3.1.1]
                  refine AW.if_lt 164 dX9_nears_153 (by decide) (by omega) (fun c153 => ?_) (fun c153 => ?_)
                  · exfalso; omega
                  · refine AW.iload_n dX9_nears_156 1 rfl rfl ?_
                    refine AW.aload_n dX9_nears_157 3 rfl rfl ?_
                    refine AW.getI dX9_nears_158 fl_X9_188 (show sh 94 = (0, 9, [some 95, some 96, some 97, none, none, none, some 98, some 99, some 100, none, none, none, none, some 101, none, none, none, some 102, none, some 103, some 104, none, some 105, some 106, some 107, some 108]) from rfl) rfl ?_
                    rw [up2_i (by decide), g3.1.2.1]
                    rw [if_neg (show ¬ (nrF (fun w => dsF (M 99) (M 100) (M 96) w (M 94 9).toNat) (M 96) (M 94 9) i).1 = -4 by omega)]
                    refine AW.icmp_ge 168 dX9_nears_161 (by decide) (by omega) (by omega) (fun c161 => ?_) (fun c161 => ?_)
                    · exfalso; omega
                    · refine AW.iload_n dX9_nears_164 2 rfl rfl ?_
                      refine AW.goto 172 dX9_nears_165 (by decide) ?_
                      refine AW.putI dX9_nears_172 fp_X9_185 (show sh 94 = (0, 9, [some 95, some 96, some 97, none, none, none, some 98, some 99, some 100, none, none, none, none, some 101, none, none, none, some 102, none, some 103, some 104, none, some 105, some 106, some 107, some 108]) from rfl) rfl ?_
                      refine AW.aload_n dX9_nears_175 3 rfl rfl ?_
                      refine AW.aload_n dX9_nears_176 3 rfl rfl ?_
                      refine AW.getI dX9_nears_177 fl_X9_188 (show sh 94 = (0, 9, [some 95, some 96, some 97, none, none, none, some 98, some 99, some 100, none, none, none, none, some 101, none, none, none, some 102, none, some 103, some 104, none, some 105, some 106, some 107, some 108]) from rfl) rfl ?_
                      rw [up2_i (by decide), up2_i (by decide), g3.1.2.1]
                      rw [if_neg (show ¬ (nrF (fun w => dsF (M 99) (M 100) (M 96) w (M 94 9).toNat) (M 96) (M 94 9) i).1 = -4 by omega)]
                      refine AW.if_lt 191 dX9_nears_180 (by decide) (by omega) (fun c180 => ?_) (fun c180 => ?_)
                      · exfalso; omega
                      · refine AW.iload_n dX9_nears_183 1 rfl rfl ?_
                        refine AW.aload_n dX9_nears_184 3 rfl rfl ?_
                        refine AW.getI dX9_nears_185 fl_X9_188 (show sh 94 = (0, 9, [some 95, some 96, some 97, none, none, none, some 98, some 99, some 100, none, none, none, none, some 101, none, none, none, some 102, none, some 103, some 104, none, some 105, some 106, some 107, some 108]) from rfl) rfl ?_
                        rw [up2_i (by decide), up2_i (by decide), g3.1.2.1]
                        rw [if_neg (show ¬ (nrF (fun w => dsF (M 99) (M 100) (M 96) w (M 94 9).toNat) (M 96) (M 94 9) i).1 = -4 by omega)]
                        refine AW.icmp_ge 195 dX9_nears_188 (by decide) (by omega) (by omega) (fun c188 => ?_) (fun c188 => ?_)
                        · exfalso; omega
                        · refine AW.iload_n dX9_nears_191 1 rfl rfl ?_
                          refine AW.goto 199 dX9_nears_192 (by decide) ?_
                          refine AW.putI dX9_nears_199 fp_X9_188 (show sh 94 = (0, 9, [some 95, some 96, some 97, none, none, none, some 98, some 99, some 100, none, none, none, none, some 101, none, none, none, some 102, none, some 103, some 104, none, some 105, some 106, some 107, some 108]) from rfl) rfl ?_
                          obtain ⟨x202, ex202⟩ : ∃ z : Int, x + 1 = z := ⟨_, rfl⟩
                          refine AW.iinc [(1, vi x202), (3, vi x3), (2, vi f), (0, rf Γ 94)] dX9_nears_202 2 rfl (by decide) x202 ex202 rfl ?_
                          refine AW.goto 19 dX9_nears_205 (by decide) ?_
                          refine AW.sub [0, 3] rfl ?_
                          refine ih (i + 1) x202 _ (by omega) (by omega) ?_ (by omega)
                          simp only [nrF]
                          rw [if_pos (by omega), if_pos (by omega), ← hfd, ← g1]
                          exact g3.put _ _ _ _ (by rw [if_neg (by omega)])
                · exfalso; omega
          · refine AW.aload_n dX9_nears_97 3 rfl rfl ?_
            refine AW.iload_n dX9_nears_98 2 rfl rfl ?_
            refine AW.callV1ip (C9_sizeOf Γ N _ i (by omega) (by omega)) dX9_nears_99 mc_X9_100 (show sh 94 = (0, 9, [some 95, some 96, some 97, none, none, none, some 98, some 99, some 100, none, none, none, none, some 101, none, none, none, some 102, none, some 103, some 104, none, some 105, some 106, some 107, some 108]) from rfl) (fun _ => rfl) ⟨Nat.le_of_ble_eq_true rfl, Nat.le_of_ble_eq_true rfl⟩ (Nat.le_of_ble_eq_true rfl) ?_
            refine AW.aload_n dX9_nears_102 3 rfl rfl ?_
            refine AW.getI dX9_nears_103 fl_X9_182 (show sh 94 = (0, 9, [some 95, some 96, some 97, none, none, none, some 98, some 99, some 100, none, none, none, none, some 101, none, none, none, some 102, none, some 103, some 104, none, some 105, some 106, some 107, some 108]) from rfl) rfl ?_
            rw [eN9, e96]
            refine AW.icmp_ne 202 dX9_nears_106 (by decide) (by omega) (by omega) (fun c106 => ?_) (fun c106 => ?_)
            · exfalso; omega
            · refine AW.aload_n dX9_nears_109 3 rfl rfl ?_
              refine AW.aload_n dX9_nears_110 3 rfl rfl ?_
              refine AW.getI dX9_nears_111 fl_X9_185 (show sh 94 = (0, 9, [some 95, some 96, some 97, none, none, none, some 98, some 99, some 100, none, none, none, none, some 101, none, none, none, some 102, none, some 103, some 104, none, some 105, some 106, some 107, some 108]) from rfl) rfl ?_
              rw [g3.1.1]
              refine AW.if_lt 140 dX9_nears_114 (by decide) (by omega) (fun c114 => ?_) (fun c114 => ?_)
              · exfalso; omega
              · refine AW.iload_n dX9_nears_117 1 rfl rfl ?_
                refine AW.aload_n dX9_nears_118 3 rfl rfl ?_
                refine AW.getI dX9_nears_119 fl_X9_188 (show sh 94 = (0, 9, [some 95, some 96, some 97, none, none, none, some 98, some 99, some 100, none, none, none, none, some 101, none, none, none, some 102, none, some 103, some 104, none, some 105, some 106, some 107, some 108]) from rfl) rfl ?_
                rw [g3.1.2.1]
                rw [if_neg (show ¬ (nrF (fun w => dsF (M 99) (M 100) (M 96) w (M 94 9).toNat) (M 96) (M 94 9) i).1 = -4 by omega)]
                refine AW.icmp_lt 140 dX9_nears_122 (by decide) (by omega) (by omega) (fun c122 => ?_) (fun c122 => ?_)
                · exfalso; omega
                · refine AW.aload_n dX9_nears_125 3 rfl rfl ?_
                  refine AW.getI dX9_nears_126 fl_X9_191 (show sh 94 = (0, 9, [some 95, some 96, some 97, none, none, none, some 98, some 99, some 100, none, none, none, none, some 101, none, none, none, some 102, none, some 103, some 104, none, some 105, some 106, some 107, some 108]) from rfl) rfl ?_
                  rw [g3.1.2.2]
                  refine AW.if_eq 144 dX9_nears_129 (by decide) (by omega) (fun c129 => ?_) (fun c129 => ?_)
                  · refine AW.iconst dX9_nears_144 ?_
                    refine AW.putZ dX9_nears_145 fp_X9_191 (show sh 94 = (0, 9, [some 95, some 96, some 97, none, none, none, some 98, some 99, some 100, none, none, none, none, some 101, none, none, none, some 102, none, some 103, some 104, none, some 105, some 106, some 107, some 108]) from rfl) rfl (by omega) ?_
                    refine AW.aload_n dX9_nears_148 3 rfl rfl ?_
                    refine AW.aload_n dX9_nears_149 3 rfl rfl ?_
                    refine AW.getI dX9_nears_150 fl_X9_185 (show sh 94 = (0, 9, [some 95, some 96, some 97, none, none, none, some 98, some 99, some 100, none, none, none, none, some 101, none, none, none, some 102, none, some 103, some 104, none, some 105, some 106, some 107, some 108]) from rfl) rfl ?_
                    rw [up2_i (by decide), g3.1.1]
                    refine AW.if_lt 164 dX9_nears_153 (by decide) (by omega) (fun c153 => ?_) (fun c153 => ?_)
                    · exfalso; omega
                    · refine AW.iload_n dX9_nears_156 1 rfl rfl ?_
                      refine AW.aload_n dX9_nears_157 3 rfl rfl ?_
                      refine AW.getI dX9_nears_158 fl_X9_188 (show sh 94 = (0, 9, [some 95, some 96, some 97, none, none, none, some 98, some 99, some 100, none, none, none, none, some 101, none, none, none, some 102, none, some 103, some 104, none, some 105, some 106, some 107, some 108]) from rfl) rfl ?_
                      rw [up2_i (by decide), g3.1.2.1]
                      rw [if_neg (show ¬ (nrF (fun w => dsF (M 99) (M 100) (M 96) w (M 94 9).toNat) (M 96) (M 94 9) i).1 = -4 by omega)]
                      refine AW.icmp_ge 168 dX9_nears_161 (by decide) (by omega) (by omega) (fun c161 => ?_) (fun c161 => ?_)
                      · refine AW.aload_n dX9_nears_168 3 rfl rfl ?_
                        refine AW.getI dX9_nears_169 fl_X9_185 (show sh 94 = (0, 9, [some 95, some 96, some 97, none, none, none, some 98, some 99, some 100, none, none, none, none, some 101, none, none, none, some 102, none, some 103, some 104, none, some 105, some 106, some 107, some 108]) from rfl) rfl ?_
                        rw [up2_i (by decide), g3.1.1]
                        refine AW.putI dX9_nears_172 fp_X9_185 (show sh 94 = (0, 9, [some 95, some 96, some 97, none, none, none, some 98, some 99, some 100, none, none, none, none, some 101, none, none, none, some 102, none, some 103, some 104, none, some 105, some 106, some 107, some 108]) from rfl) rfl ?_
                        refine AW.aload_n dX9_nears_175 3 rfl rfl ?_
                        refine AW.aload_n dX9_nears_176 3 rfl rfl ?_
                        refine AW.getI dX9_nears_177 fl_X9_188 (show sh 94 = (0, 9, [some 95, some 96, some 97, none, none, none, some 98, some 99, some 100, none, none, none, none, some 101, none, none, none, some 102, none, some 103, some 104, none, some 105, some 106, some 107, some 108]) from rfl) rfl ?_
                        rw [up2_i (by decide), up2_i (by decide), g3.1.2.1]
                        rw [if_neg (show ¬ (nrF (fun w => dsF (M 99) (M 100) (M 96) w (M 94 9).toNat) (M 96) (M 94 9) i).1 = -4 by omega)]
                        refine AW.if_lt 191 dX9_nears_180 (by decide) (by omega) (fun c180 => ?_) (fun c180 => ?_)
                        · exfalso; omega
                        · refine AW.iload_n dX9_nears_183 1 rfl rfl ?_
                          refine AW.aload_n dX9_nears_184 3 rfl rfl ?_
                          refine AW.getI dX9_nears_185 fl_X9_188 (show sh 94 = (0, 9, [some 95, some 96, some 97, none, none, none, some 98, some 99, some 100, none, none, none, none, some 101, none, none, none, some 102, none, some 103, some 104, none, some 105, some 106, some 107, some 108]) from rfl) rfl ?_
                          rw [up2_i (by decide), up2_i (by decide), g3.1.2.1]
                          rw [if_neg (show ¬ (nrF (fun w => dsF (M 99) (M 100) (M 96) w (M 94 9).toNat) (M 96) (M 94 9) i).1 = -4 by omega)]
                          refine AW.icmp_ge 195 dX9_nears_188 (by decide) (by omega) (by omega) (fun c188 => ?_) (fun c188 => ?_)
                          · refine AW.aload_n dX9_nears_195 3 rfl rfl ?_
                            refine AW.getI dX9_nears_196 fl_X9_188 (show sh 94 = (0, 9, [some 95, some 96, some 97, none, none, none, some 98, some 99, some 100, none, none, none, none, some 101, none, none, none, some 102, none, some 103, some 104, none, some 105, some 106, some 107, some 108]) from rfl) rfl ?_
                            rw [up2_i (by decide), up2_i (by decide), g3.1.2.1, if_neg (show ¬ (nrF (fun w => dsF (M 99) (M 100) (M 96) w (M 94 9).toNat) (M 96) (M 94 9) i).1 = -4 by omega)]
                            refine AW.putI dX9_nears_199 fp_X9_188 (show sh 94 = (0, 9, [some 95, some 96, some 97, none, none, none, some 98, some 99, some 100, none, none, none, none, some 101, none, none, none, some 102, none, some 103, some 104, none, some 105, some 106, some 107, some 108]) from rfl) rfl ?_
                            obtain ⟨x202, ex202⟩ : ∃ z : Int, x + 1 = z := ⟨_, rfl⟩
                            refine AW.iinc [(1, vi x202), (3, vi x3), (2, vi f), (0, rf Γ 94)] dX9_nears_202 2 rfl (by decide) x202 ex202 rfl ?_
                            refine AW.goto 19 dX9_nears_205 (by decide) ?_
                            refine AW.sub [0, 3] rfl ?_
                            refine ih (i + 1) x202 _ (by omega) (by omega) ?_ (by omega)
                            simp only [nrF]
                            rw [if_pos (by omega), if_neg (by omega)]
                            by_cases hC : f = (nrF (fun w => dsF (M 99) (M 100) (M 96) w (M 94 9).toNat) (M 96) (M 94 9) i).2.1
                            · first | (exfalso; omega) | (rw [if_pos (by omega)]; exact (g3.put (nrF (fun w => dsF (M 99) (M 100) (M 96) w (M 94 9).toNat) (M 96) (M 94 9) i).1 _ (nrF (fun w => dsF (M 99) (M 100) (M 96) w (M 94 9).toNat) (M 96) (M 94 9) i).2.1 0 (by rw [if_neg (by omega)])))
                            · first | (exfalso; omega) | (rw [if_neg (by omega)]; refine npP_eq (g3.put (nrF (fun w => dsF (M 99) (M 100) (M 96) w (M 94 9).toNat) (M 96) (M 94 9) i).1 _ (nrF (fun w => dsF (M 99) (M 100) (M 96) w (M 94 9).toNat) (M 96) (M 94 9) i).2.1 _ (by rw [if_neg (by omega)])) rfl rfl ?_; dsimp only; omega)
                          · exfalso; omega
                      · exfalso; omega
                  · refine AW.iload_n dX9_nears_132 1 rfl rfl ?_
                    refine AW.aload_n dX9_nears_133 3 rfl rfl ?_
                    refine AW.getI dX9_nears_134 fl_X9_188 (show sh 94 = (0, 9, [some 95, some 96, some 97, none, none, none, some 98, some 99, some 100, none, none, none, none, some 101, none, none, none, some 102, none, some 103, some 104, none, some 105, some 106, some 107, some 108]) from rfl) rfl ?_
                    rw [g3.1.2.1]
                    rw [if_neg (show ¬ (nrF (fun w => dsF (M 99) (M 100) (M 96) w (M 94 9).toNat) (M 96) (M 94 9) i).1 = -4 by omega)]
                    refine AW.icmp_eq 144 dX9_nears_137 (by decide) (by omega) (by omega) (fun c137 => ?_) (fun c137 => ?_)
                    · refine AW.iconst dX9_nears_144 ?_
                      refine AW.putZ dX9_nears_145 fp_X9_191 (show sh 94 = (0, 9, [some 95, some 96, some 97, none, none, none, some 98, some 99, some 100, none, none, none, none, some 101, none, none, none, some 102, none, some 103, some 104, none, some 105, some 106, some 107, some 108]) from rfl) rfl (by omega) ?_
                      refine AW.aload_n dX9_nears_148 3 rfl rfl ?_
                      refine AW.aload_n dX9_nears_149 3 rfl rfl ?_
                      refine AW.getI dX9_nears_150 fl_X9_185 (show sh 94 = (0, 9, [some 95, some 96, some 97, none, none, none, some 98, some 99, some 100, none, none, none, none, some 101, none, none, none, some 102, none, some 103, some 104, none, some 105, some 106, some 107, some 108]) from rfl) rfl ?_
                      rw [up2_i (by decide), g3.1.1]
                      refine AW.if_lt 164 dX9_nears_153 (by decide) (by omega) (fun c153 => ?_) (fun c153 => ?_)
                      · exfalso; omega
                      · refine AW.iload_n dX9_nears_156 1 rfl rfl ?_
                        refine AW.aload_n dX9_nears_157 3 rfl rfl ?_
                        refine AW.getI dX9_nears_158 fl_X9_188 (show sh 94 = (0, 9, [some 95, some 96, some 97, none, none, none, some 98, some 99, some 100, none, none, none, none, some 101, none, none, none, some 102, none, some 103, some 104, none, some 105, some 106, some 107, some 108]) from rfl) rfl ?_
                        rw [up2_i (by decide), g3.1.2.1]
                        rw [if_neg (show ¬ (nrF (fun w => dsF (M 99) (M 100) (M 96) w (M 94 9).toNat) (M 96) (M 94 9) i).1 = -4 by omega)]
                        refine AW.icmp_ge 168 dX9_nears_161 (by decide) (by omega) (by omega) (fun c161 => ?_) (fun c161 => ?_)
                        · refine AW.aload_n dX9_nears_168 3 rfl rfl ?_
                          refine AW.getI dX9_nears_169 fl_X9_185 (show sh 94 = (0, 9, [some 95, some 96, some 97, none, none, none, some 98, some 99, some 100, none, none, none, none, some 101, none, none, none, some 102, none, some 103, some 104, none, some 105, some 106, some 107, some 108]) from rfl) rfl ?_
                          rw [up2_i (by decide), g3.1.1]
                          refine AW.putI dX9_nears_172 fp_X9_185 (show sh 94 = (0, 9, [some 95, some 96, some 97, none, none, none, some 98, some 99, some 100, none, none, none, none, some 101, none, none, none, some 102, none, some 103, some 104, none, some 105, some 106, some 107, some 108]) from rfl) rfl ?_
                          refine AW.aload_n dX9_nears_175 3 rfl rfl ?_
                          refine AW.aload_n dX9_nears_176 3 rfl rfl ?_
                          refine AW.getI dX9_nears_177 fl_X9_188 (show sh 94 = (0, 9, [some 95, some 96, some 97, none, none, none, some 98, some 99, some 100, none, none, none, none, some 101, none, none, none, some 102, none, some 103, some 104, none, some 105, some 106, some 107, some 108]) from rfl) rfl ?_
                          rw [up2_i (by decide), up2_i (by decide), g3.1.2.1]
                          rw [if_neg (show ¬ (nrF (fun w => dsF (M 99) (M 100) (M 96) w (M 94 9).toNat) (M 96) (M 94 9) i).1 = -4 by omega)]
                          refine AW.if_lt 191 dX9_nears_180 (by decide) (by omega) (fun c180 => ?_) (fun c180 => ?_)
                          · exfalso; omega
                          · refine AW.iload_n dX9_nears_183 1 rfl rfl ?_
                            refine AW.aload_n dX9_nears_184 3 rfl rfl ?_
                            refine AW.getI dX9_nears_185 fl_X9_188 (show sh 94 = (0, 9, [some 95, some 96, some 97, none, none, none, some 98, some 99, some 100, none, none, none, none, some 101, none, none, none, some 102, none, some 103, some 104, none, some 105, some 106, some 107, some 108]) from rfl) rfl ?_
                            rw [up2_i (by decide), up2_i (by decide), g3.1.2.1]
                            rw [if_neg (show ¬ (nrF (fun w => dsF (M 99) (M 100) (M 96) w (M 94 9).toNat) (M 96) (M 94 9) i).1 = -4 by omega)]
                            refine AW.icmp_ge 195 dX9_nears_188 (by decide) (by omega) (by omega) (fun c188 => ?_) (fun c188 => ?_)
                            · refine AW.aload_n dX9_nears_195 3 rfl rfl ?_
                              refine AW.getI dX9_nears_196 fl_X9_188 (show sh 94 = (0, 9, [some 95, some 96, some 97, none, none, none, some 98, some 99, some 100, none, none, none, none, some 101, none, none, none, some 102, none, some 103, some 104, none, some 105, some 106, some 107, some 108]) from rfl) rfl ?_
                              rw [up2_i (by decide), up2_i (by decide), g3.1.2.1, if_neg (show ¬ (nrF (fun w => dsF (M 99) (M 100) (M 96) w (M 94 9).toNat) (M 96) (M 94 9) i).1 = -4 by omega)]
                              refine AW.putI dX9_nears_199 fp_X9_188 (show sh 94 = (0, 9, [some 95, some 96, some 97, none, none, none, some 98, some 99, some 100, none, none, none, none, some 101, none, none, none, some 102, none, some 103, some 104, none, some 105, some 106, some 107, some 108]) from rfl) rfl ?_
                              obtain ⟨x202, ex202⟩ : ∃ z : Int, x + 1 = z := ⟨_, rfl⟩
                              refine AW.iinc [(1, vi x202), (3, vi x3), (2, vi f), (0, rf Γ 94)] dX9_nears_202 2 rfl (by decide) x202 ex202 rfl ?_
                              refine AW.goto 19 dX9_nears_205 (by decide) ?_
                              refine AW.sub [0, 3] rfl ?_
                              refine ih (i + 1) x202 _ (by omega) (by omega) ?_ (by omega)
                              simp only [nrF]
                              rw [if_pos (by omega), if_neg (by omega)]
                              by_cases hC : f = (nrF (fun w => dsF (M 99) (M 100) (M 96) w (M 94 9).toNat) (M 96) (M 94 9) i).2.1
                              · first | (exfalso; omega) | (rw [if_pos (by omega)]; exact (g3.put (nrF (fun w => dsF (M 99) (M 100) (M 96) w (M 94 9).toNat) (M 96) (M 94 9) i).1 _ (nrF (fun w => dsF (M 99) (M 100) (M 96) w (M 94 9).toNat) (M 96) (M 94 9) i).2.1 0 (by rw [if_neg (by omega)])))
                              · first | (exfalso; omega) | (rw [if_neg (by omega)]; refine npP_eq (g3.put (nrF (fun w => dsF (M 99) (M 100) (M 96) w (M 94 9).toNat) (M 96) (M 94 9) i).1 _ (nrF (fun w => dsF (M 99) (M 100) (M 96) w (M 94 9).toNat) (M 96) (M 94 9) i).2.1 _ (by rw [if_neg (by omega)])) rfl rfl ?_; dsimp only; omega)
                            · exfalso; omega
                        · exfalso; omega
                    · refine AW.iconst dX9_nears_140 ?_
                      refine AW.goto 145 dX9_nears_141 (by decide) ?_
                      refine AW.putZ dX9_nears_145 fp_X9_191 (show sh 94 = (0, 9, [some 95, some 96, some 97, none, none, none, some 98, some 99, some 100, none, none, none, none, some 101, none, none, none, some 102, none, some 103, some 104, none, some 105, some 106, some 107, some 108]) from rfl) rfl (by omega) ?_
                      refine AW.aload_n dX9_nears_148 3 rfl rfl ?_
                      refine AW.aload_n dX9_nears_149 3 rfl rfl ?_
                      refine AW.getI dX9_nears_150 fl_X9_185 (show sh 94 = (0, 9, [some 95, some 96, some 97, none, none, none, some 98, some 99, some 100, none, none, none, none, some 101, none, none, none, some 102, none, some 103, some 104, none, some 105, some 106, some 107, some 108]) from rfl) rfl ?_
                      rw [up2_i (by decide), g3.1.1]
                      refine AW.if_lt 164 dX9_nears_153 (by decide) (by omega) (fun c153 => ?_) (fun c153 => ?_)
                      · exfalso; omega
                      · refine AW.iload_n dX9_nears_156 1 rfl rfl ?_
                        refine AW.aload_n dX9_nears_157 3 rfl rfl ?_
                        refine AW.getI dX9_nears_158 fl_X9_188 (show sh 94 = (0, 9, [some 95, some 96, some 97, none, none, none, some 98, some 99, some 100, none, none, none, none, some 101, none, none, none, some 102, none, some 103, some 104, none, some 105, some 106, some 107, some 108]) from rfl) rfl ?_
                        rw [up2_i (by decide), g3.1.2.1]
                        rw [if_neg (show ¬ (nrF (fun w => dsF (M 99) (M 100) (M 96) w (M 94 9).toNat) (M 96) (M 94 9) i).1 = -4 by omega)]
                        refine AW.icmp_ge 168 dX9_nears_161 (by decide) (by omega) (by omega) (fun c161 => ?_) (fun c161 => ?_)
                        · refine AW.aload_n dX9_nears_168 3 rfl rfl ?_
                          refine AW.getI dX9_nears_169 fl_X9_185 (show sh 94 = (0, 9, [some 95, some 96, some 97, none, none, none, some 98, some 99, some 100, none, none, none, none, some 101, none, none, none, some 102, none, some 103, some 104, none, some 105, some 106, some 107, some 108]) from rfl) rfl ?_
                          rw [up2_i (by decide), g3.1.1]
                          refine AW.putI dX9_nears_172 fp_X9_185 (show sh 94 = (0, 9, [some 95, some 96, some 97, none, none, none, some 98, some 99, some 100, none, none, none, none, some 101, none, none, none, some 102, none, some 103, some 104, none, some 105, some 106, some 107, some 108]) from rfl) rfl ?_
                          refine AW.aload_n dX9_nears_175 3 rfl rfl ?_
                          refine AW.aload_n dX9_nears_176 3 rfl rfl ?_
                          refine AW.getI dX9_nears_177 fl_X9_188 (show sh 94 = (0, 9, [some 95, some 96, some 97, none, none, none, some 98, some 99, some 100, none, none, none, none, some 101, none, none, none, some 102, none, some 103, some 104, none, some 105, some 106, some 107, some 108]) from rfl) rfl ?_
                          rw [up2_i (by decide), up2_i (by decide), g3.1.2.1]
                          rw [if_neg (show ¬ (nrF (fun w => dsF (M 99) (M 100) (M 96) w (M 94 9).toNat) (M 96) (M 94 9) i).1 = -4 by omega)]
                          refine AW.if_lt 191 dX9_nears_180 (by decide) (by omega) (fun c180 => ?_) (fun c180 => ?_)
                          · exfalso; omega
                          · refine AW.iload_n dX9_nears_183 1 rfl rfl ?_
                            refine AW.aload_n dX9_nears_184 3 rfl rfl ?_
                            refine AW.getI dX9_nears_185 fl_X9_188 (show sh 94 = (0, 9, [some 95, some 96, some 97, none, none, none, some 98, some 99, some 100, none, none, none, none, some 101, none, none, none, some 102, none, some 103, some 104, none, some 105, some 106, some 107, some 108]) from rfl) rfl ?_
                            rw [up2_i (by decide), up2_i (by decide), g3.1.2.1]
                            rw [if_neg (show ¬ (nrF (fun w => dsF (M 99) (M 100) (M 96) w (M 94 9).toNat) (M 96) (M 94 9) i).1 = -4 by omega)]
                            refine AW.icmp_ge 195 dX9_nears_188 (by decide) (by omega) (by omega) (fun c188 => ?_) (fun c188 => ?_)
                            · refine AW.aload_n dX9_nears_195 3 rfl rfl ?_
                              refine AW.getI dX9_nears_196 fl_X9_188 (show sh 94 = (0, 9, [some 95, some 96, some 97, none, none, none, some 98, some 99, some 100, none, none, none, none, some 101, none, none, none, some 102, none, some 103, some 104, none, some 105, some 106, some 107, some 108]) from rfl) rfl ?_
                              rw [up2_i (by decide), up2_i (by decide), g3.1.2.1, if_neg (show ¬ (nrF (fun w => dsF (M 99) (M 100) (M 96) w (M 94 9).toNat) (M 96) (M 94 9) i).1 = -4 by omega)]
                              refine AW.putI dX9_nears_199 fp_X9_188 (show sh 94 = (0, 9, [some 95, some 96, some 97, none, none, none, some 98, some 99, some 100, none, none, none, none, some 101, none, none, none, some 102, none, some 103, some 104, none, some 105, some 106, some 107, some 108]) from rfl) rfl ?_
                              obtain ⟨x202, ex202⟩ : ∃ z : Int, x + 1 = z := ⟨_, rfl⟩
                              refine AW.iinc [(1, vi x202), (3, vi x3), (2, vi f), (0, rf Γ 94)] dX9_nears_202 2 rfl (by decide) x202 ex202 rfl ?_
                              refine AW.goto 19 dX9_nears_205 (by decide) ?_
                              refine AW.sub [0, 3] rfl ?_
                              refine ih (i + 1) x202 _ (by omega) (by omega) ?_ (by omega)
                              simp only [nrF]
                              rw [if_pos (by omega), if_neg (by omega)]
                              by_cases hC : f = (nrF (fun w => dsF (M 99) (M 100) (M 96) w (M 94 9).toNat) (M 96) (M 94 9) i).2.1
                              · first | (exfalso; omega) | (rw [if_pos (by omega)]; exact (g3.put (nrF (fun w => dsF (M 99) (M 100) (M 96) w (M 94 9).toNat) (M 96) (M 94 9) i).1 _ (nrF (fun w => dsF (M 99) (M 100) (M 96) w (M 94 9).toNat) (M 96) (M 94 9) i).2.1 0 (by rw [if_neg (by omega)])))
                              · first | (exfalso; omega) | (rw [if_neg (by omega)]; refine npP_eq (g3.put (nrF (fun w => dsF (M 99) (M 100) (M 96) w (M 94 9).toNat) (M 96) (M 94 9) i).1 _ (nrF (fun w => dsF (M 99) (M 100) (M 96) w (M 94 9).toNat) (M 96) (M 94 9) i).2.1 _ (by rw [if_neg (by omega)])) rfl rfl ?_; dsimp only; omega)
                            · exfalso; omega
                        · exfalso; omega
      · refine AW.iload_n dX9_nears_33 0 rfl rfl ?_
        refine AW.aload_n dX9_nears_34 3 rfl rfl ?_
        refine AW.getI dX9_nears_35 fl_X9_182 (show sh 94 = (0, 9, [some 95, some 96, some 97, none, none, none, some 98, some 99, some 100, none, none, none, none, some 101, none, none, none, some 102, none, some 103, some 104, none, some 105, some 106, some 107, some 108]) from rfl) rfl ?_
        rw [eN9]
        refine AW.icmp_ge 97 dX9_nears_38 (by decide) (by omega) (by omega) (fun c38 => ?_) (fun c38 => ?_)
        · refine AW.aload_n dX9_nears_97 3 rfl rfl ?_
          refine AW.iload_n dX9_nears_98 2 rfl rfl ?_
          refine AW.callV1ip (C9_sizeOf Γ N _ i (by omega) (by omega)) dX9_nears_99 mc_X9_100 (show sh 94 = (0, 9, [some 95, some 96, some 97, none, none, none, some 98, some 99, some 100, none, none, none, none, some 101, none, none, none, some 102, none, some 103, some 104, none, some 105, some 106, some 107, some 108]) from rfl) (fun _ => rfl) ⟨Nat.le_of_ble_eq_true rfl, Nat.le_of_ble_eq_true rfl⟩ (Nat.le_of_ble_eq_true rfl) ?_
          refine AW.aload_n dX9_nears_102 3 rfl rfl ?_
          refine AW.getI dX9_nears_103 fl_X9_182 (show sh 94 = (0, 9, [some 95, some 96, some 97, none, none, none, some 98, some 99, some 100, none, none, none, none, some 101, none, none, none, some 102, none, some 103, some 104, none, some 105, some 106, some 107, some 108]) from rfl) rfl ?_
          rw [eN9, e96]
          refine AW.icmp_ne 202 dX9_nears_106 (by decide) (by omega) (by omega) (fun c106 => ?_) (fun c106 => ?_)
          · obtain ⟨x202, ex202⟩ : ∃ z : Int, x + 1 = z := ⟨_, rfl⟩
            refine AW.iinc [(1, vi x202), (3, vi x32), (2, vi x30), (0, rf Γ 94)] dX9_nears_202 2 rfl (by decide) x202 ex202 rfl ?_
            refine AW.goto 19 dX9_nears_205 (by decide) ?_
            refine AW.sub [0, 3] rfl ?_
            exact ih (i + 1) x202 _ (by omega) (by omega) (by simp only [nrF]; rw [if_neg hm]; exact g3) (by omega)
          · exfalso; omega
        · refine AW.aload_n dX9_nears_41 3 rfl rfl ?_
          refine AW.iload_n dX9_nears_42 2 rfl rfl ?_
          refine AW.callV1ip (C9_sizeOf Γ N _ i (by omega) (by omega)) dX9_nears_43 mc_X9_100 (show sh 94 = (0, 9, [some 95, some 96, some 97, none, none, none, some 98, some 99, some 100, none, none, none, none, some 101, none, none, none, some 102, none, some 103, some 104, none, some 105, some 106, some 107, some 108]) from rfl) (fun _ => rfl) ⟨Nat.le_of_ble_eq_true rfl, Nat.le_of_ble_eq_true rfl⟩ (Nat.le_of_ble_eq_true rfl) ?_
          refine AW.aload_n dX9_nears_46 3 rfl rfl ?_
          refine AW.getI dX9_nears_47 fl_X9_182 (show sh 94 = (0, 9, [some 95, some 96, some 97, none, none, none, some 98, some 99, some 100, none, none, none, none, some 101, none, none, none, some 102, none, some 103, some 104, none, some 105, some 106, some 107, some 108]) from rfl) rfl ?_
          rw [eN9, e96]
          refine AW.icmp_ne 97 dX9_nears_50 (by decide) (by omega) (by omega) (fun c50 => ?_) (fun c50 => ?_)
          · refine AW.aload_n dX9_nears_97 3 rfl rfl ?_
            refine AW.iload_n dX9_nears_98 2 rfl rfl ?_
            refine AW.callV1ip (C9_sizeOf Γ N _ i (by omega) (by omega)) dX9_nears_99 mc_X9_100 (show sh 94 = (0, 9, [some 95, some 96, some 97, none, none, none, some 98, some 99, some 100, none, none, none, none, some 101, none, none, none, some 102, none, some 103, some 104, none, some 105, some 106, some 107, some 108]) from rfl) (fun _ => rfl) ⟨Nat.le_of_ble_eq_true rfl, Nat.le_of_ble_eq_true rfl⟩ (Nat.le_of_ble_eq_true rfl) ?_
            refine AW.aload_n dX9_nears_102 3 rfl rfl ?_
            refine AW.getI dX9_nears_103 fl_X9_182 (show sh 94 = (0, 9, [some 95, some 96, some 97, none, none, none, some 98, some 99, some 100, none, none, none, none, some 101, none, none, none, some 102, none, some 103, some 104, none, some 105, some 106, some 107, some 108]) from rfl) rfl ?_
            rw [eN9, e96]
            refine AW.icmp_ne 202 dX9_nears_106 (by decide) (by omega) (by omega) (fun c106 => ?_) (fun c106 => ?_)
            · obtain ⟨x202, ex202⟩ : ∃ z : Int, x + 1 = z := ⟨_, rfl⟩
              refine AW.iinc [(1, vi x202), (3, vi x32), (2, vi x30), (0, rf Γ 94)] dX9_nears_202 2 rfl (by decide) x202 ex202 rfl ?_
              refine AW.goto 19 dX9_nears_205 (by decide) ?_
              refine AW.sub [0, 3] rfl ?_
              exact ih (i + 1) x202 _ (by omega) (by omega) (by simp only [nrF]; rw [if_neg hm]; exact g3) (by omega)
            · exfalso; omega
          · exfalso; omega
