/-! nears, nearest; slips -/
set_option maxRecDepth 20000 in
theorem C9_nears (Γ : GC) (M : Mm) (hsg : SG M) (ho : OkR (M 96)) (hm0 : 0 ≤ M 94 9 ∧ M 94 9 ≤ 12) (hd1 : D8s (M 99) (M 94 9)) (hd2 : D8s (M 100) (M 94 9)) : Ct Γ uX9_nears [rf Γ 94] M (fun _ M' => npP M M' (nearF (M 99) (M 100) (M 96) (M 94 9))) := by
  refine Ct.of (by decide) (Nat.le_of_ble_eq_true rfl) ?_
  show AW Γ uX9_nears 0 [(0, rf Γ 94)] [] M _
  refine AW.aload_n dX9_nears_0 0 rfl rfl ?_
  refine AW.bipush (z := (-4)) dX9_nears_1 (by decide) ?_
  refine AW.putI dX9_nears_3 fp_X9_185 (show sh 94 = (0, 9, [some 95, some 96, some 97, none, none, none, some 98, some 99, some 100, none, none, none, none, some 101, none, none, none, some 102, none, some 103, some 104, none, some 105, some 106, some 107, some 108]) from rfl) rfl ?_
  refine AW.aload_n dX9_nears_6 0 rfl rfl ?_
  refine AW.bipush (z := (-4)) dX9_nears_7 (by decide) ?_
  refine AW.putI dX9_nears_9 fp_X9_188 (show sh 94 = (0, 9, [some 95, some 96, some 97, none, none, none, some 98, some 99, some 100, none, none, none, none, some 101, none, none, none, some 102, none, some 103, some 104, none, some 105, some 106, some 107, some 108]) from rfl) rfl ?_
  refine AW.aload_n dX9_nears_12 0 rfl rfl ?_
  refine AW.iconst dX9_nears_13 ?_
  refine AW.putZ dX9_nears_14 fp_X9_191 (show sh 94 = (0, 9, [some 95, some 96, some 97, none, none, none, some 98, some 99, some 100, none, none, none, none, some 101, none, none, none, some 102, none, some 103, some 104, none, some 105, some 106, some 107, some 108]) from rfl) rfl (Or.inl rfl) ?_
  refine AW.iconst dX9_nears_17 ?_
  refine AW.top (fun x18 ex18 => ?_)
  refine AW.istore_n [(1, vi x18), (0, rf Γ 94)] dX9_nears_18 rfl (by decide) rfl ?_
  refine AW.sub [0, 1] rfl ?_
  exact nears_loop Γ M hsg ho hm0 hd1 hd2 7 0 x18 _ (by omega) (by have := ho.2.1; omega) ⟨⟨by rw [up2_i (by decide), up2_i (by decide), up2_s]; rfl, by rw [up2_i (by decide), up2_s]; rfl, by rw [up2_s]; rfl⟩, fun j b1 b2 b3 => by rw [up2_i b3, up2_i b2, up2_i b1], fun a ha => by rw [up2_c ha, up2_c ha, up2_c ha]⟩ (by omega)

set_option maxRecDepth 20000 in
theorem C9_nearest (Γ : GC) (M : Mm) (hsg : SG M) (ho : OkR (M 96)) (c : Int) (hc : R32 c) : Ct Γ uX9_nearest [rf Γ 94, vi c] M (fun z M' => z = nearS (M 96) c ∧ (∀ j : Nat, j ≠ 9 → j ≠ 10 → j ≠ 11 → j ≠ 12 → M' 94 j = M 94 j) ∧ ∀ a : Nat, a ≠ 94 → a ≠ 99 → a ≠ 100 → M' a = M a) := by
  refine Ct.of (by decide) (Nat.le_of_ble_eq_true rfl) ?_
  show AW Γ uX9_nearest 0 [(0, rf Γ 94), (1, vi c)] [] M _
  refine AW.iload_n dX9_nearest_0 1 rfl rfl ?_
  refine AW.i2l dX9_nearest_1 (by omega) ?_
  refine AW.lconst (z := (0)) dX9_nearest_2 rfl ?_
  refine AW.ldc2 (z := 2) dX9_nearest_3 kl_X9_195 (by decide +kernel) ?_
  refine AW.callS3ip (C9_in Γ M _ _ _ (by omega) (by decide) (by decide)) dX9_nearest_6 mc_X9_76 (fun _ => rfl) ⟨Nat.le_of_ble_eq_true rfl, Nat.le_of_ble_eq_true rfl⟩ (Nat.le_of_ble_eq_true rfl) ?_
  refine AW.if_ne 14 dX9_nearest_9 (by decide) (bI_r _) (fun c9 => ?_) (fun c9 => ?_)
  · have d9 := bI1.mp c9
    refine AW.aload_n dX9_nearest_14 0 rfl rfl ?_
    refine AW.callV0v (C9_sees Γ M hsg ho) dX9_nearest_15 mc_X9_197 (show sh 94 = (0, 9, [some 95, some 96, some 97, none, none, none, some 98, some 99, some 100, none, none, none, none, some 101, none, none, none, some 102, none, some 103, some 104, none, some 105, some 106, some 107, some 108]) from rfl) (fun _ => rfl) ⟨Nat.le_of_ble_eq_true rfl, Nat.le_of_ble_eq_true rfl⟩ (Nat.le_of_ble_eq_true rfl) (fun z15 M15 h15 => ?_)
    obtain ⟨a1, a2, a3, a4⟩ := h15
    have t96 : M15 96 = M 96 := a4 96 (by decide) (by decide) (by decide)
    have t95 : SG M15 := fun j hj => by rw [a4 95 (by decide) (by decide) (by decide)]; exact hsg j hj
    have b1 : D8s (M15 99) (M15 94 9) := fun i hi => by rw [(a3 i (by omega)).1]; exact tl_b _
    have b2 : D8s (M15 100) (M15 94 9) := fun i hi => by rw [(a3 i (by omega)).2]; exact tg_b _
    have b3 : nearF (M15 99) (M15 100) (M15 96) (M15 94 9) = nearF (mLo (M 96)) (mHi (M 96)) (M 96) (M 96 0) := by rw [a1, t96]; exact nearF_congr (fun i hi => a3 i hi)
    refine AW.aload_n dX9_nearest_18 0 rfl rfl ?_
    refine AW.callV0v (C9_nears Γ M15 t95 (by rw [t96]; exact ho) (by rw [a1]; exact ho.1) b1 b2) dX9_nearest_19 mc_X9_200 (show sh 94 = (0, 9, [some 95, some 96, some 97, none, none, none, some 98, some 99, some 100, none, none, none, none, some 101, none, none, none, some 102, none, some 103, some 104, none, some 105, some 106, some 107, some 108]) from rfl) (fun _ => rfl) ⟨Nat.le_of_ble_eq_true rfl, Nat.le_of_ble_eq_true rfl⟩ (Nat.le_of_ble_eq_true rfl) (fun z19 M19 h19 => ?_)
    rw [b3] at h19
    obtain ⟨⟨e1, e2, e3⟩, e4, e5⟩ := h19
    have nb := nearF_b (r := M 96) (mLo_d (M 96) (M 96 0)) (mHi_d (M 96) (M 96 0)) ho.1
    have o1 := ho.2.1
    refine AW.iload_n dX9_nearest_22 1 rfl rfl ?_
    refine AW.if_ne 33 dX9_nearest_23 (by decide) (by omega) (fun c23 => ?_) (fun c23 => ?_)
    · refine AW.iload_n dX9_nearest_33 1 rfl rfl ?_
      refine AW.iconst dX9_nearest_34 ?_
      refine AW.icmp_ne 45 dX9_nearest_35 (by decide) (by omega) (by omega) (fun c35 => ?_) (fun c35 => ?_)
      · refine AW.aload_n dX9_nearest_45 0 rfl rfl ?_
        refine AW.getI dX9_nearest_46 fl_X9_185 (show sh 94 = (0, 9, [some 95, some 96, some 97, none, none, none, some 98, some 99, some 100, none, none, none, none, some 101, none, none, none, some 102, none, some 103, some 104, none, some 105, some 106, some 107, some 108]) from rfl) rfl ?_
        rw [e1]
        refine AW.if_ge 57 dX9_nearest_49 (by decide) (by omega) (fun c49 => ?_) (fun c49 => ?_)
        · refine AW.aload_n dX9_nearest_57 0 rfl rfl ?_
          refine AW.getI dX9_nearest_58 fl_X9_191 (show sh 94 = (0, 9, [some 95, some 96, some 97, none, none, none, some 98, some 99, some 100, none, none, none, none, some 101, none, none, none, some 102, none, some 103, some 104, none, some 105, some 106, some 107, some 108]) from rfl) rfl ?_
          rw [e3]
          refine AW.if_eq 68 dX9_nearest_61 (by decide) (by omega) (fun c61 => ?_) (fun c61 => ?_)
          · refine AW.iconst dX9_nearest_68 ?_
            exact AW.iret rfl dX9_nearest_69 ⟨by unfold nearS pick3; rw [if_pos (by omega)]; first | (rw [e1]; split <;> (try rw [if_pos (by omega)]) <;> omega) | (rw [e2]; split <;> (try rw [if_neg (by omega), if_pos (by omega)]) <;> omega) | (split <;> (try rw [if_neg (by omega), if_neg (by omega)]) <;> omega), fun j q1 q2 q3 q4 => by rw [e4 j q2 q3 q4, a2 j q1], fun a q1 q2 q3 => by rw [e5 a q1, a4 a q1 q2 q3]⟩
          · refine AW.iconst dX9_nearest_64 ?_
            refine AW.goto 69 dX9_nearest_65 (by decide) ?_
            exact AW.iret rfl dX9_nearest_69 ⟨by unfold nearS pick3; rw [if_pos (by omega)]; first | (rw [e1]; split <;> (try rw [if_pos (by omega)]) <;> omega) | (rw [e2]; split <;> (try rw [if_neg (by omega), if_pos (by omega)]) <;> omega) | (split <;> (try rw [if_neg (by omega), if_neg (by omega)]) <;> omega), fun j q1 q2 q3 q4 => by rw [e4 j q2 q3 q4, a2 j q1], fun a q1 q2 q3 => by rw [e5 a q1, a4 a q1 q2 q3]⟩
        · refine AW.bipush (z := (-4)) dX9_nearest_52 (by decide) ?_
          refine AW.goto 69 dX9_nearest_54 (by decide) ?_
          exact AW.iret rfl dX9_nearest_69 ⟨by unfold nearS pick3; rw [if_pos (by omega)]; first | (rw [e1]; split <;> (try rw [if_pos (by omega)]) <;> omega) | (rw [e2]; split <;> (try rw [if_neg (by omega), if_pos (by omega)]) <;> omega) | (split <;> (try rw [if_neg (by omega), if_neg (by omega)]) <;> omega), fun j q1 q2 q3 q4 => by rw [e4 j q2 q3 q4, a2 j q1], fun a q1 q2 q3 => by rw [e5 a q1, a4 a q1 q2 q3]⟩
      · refine AW.aload_n dX9_nearest_38 0 rfl rfl ?_
        refine AW.getI dX9_nearest_39 fl_X9_188 (show sh 94 = (0, 9, [some 95, some 96, some 97, none, none, none, some 98, some 99, some 100, none, none, none, none, some 101, none, none, none, some 102, none, some 103, some 104, none, some 105, some 106, some 107, some 108]) from rfl) rfl ?_
        refine AW.goto 69 dX9_nearest_42 (by decide) ?_
        exact AW.iret rfl dX9_nearest_69 ⟨by unfold nearS pick3; rw [if_pos (by omega)]; first | (rw [e1]; split <;> (try rw [if_pos (by omega)]) <;> omega) | (rw [e2]; split <;> (try rw [if_neg (by omega), if_pos (by omega)]) <;> omega) | (split <;> (try rw [if_neg (by omega), if_neg (by omega)]) <;> omega), fun j q1 q2 q3 q4 => by rw [e4 j q2 q3 q4, a2 j q1], fun a q1 q2 q3 => by rw [e5 a q1, a4 a q1 q2 q3]⟩
    · refine AW.aload_n dX9_nearest_26 0 rfl rfl ?_
      refine AW.getI dX9_nearest_27 fl_X9_185 (show sh 94 = (0, 9, [some 95, some 96, some 97, none, none, none, some 98, some 99, some 100, none, none, none, none, some 101, none, none, none, some 102, none, some 103, some 104, none, some 105, some 106, some 107, some 108]) from rfl) rfl ?_
      refine AW.goto 69 dX9_nearest_30 (by decide) ?_
      exact AW.iret rfl dX9_nearest_69 ⟨by unfold nearS pick3; rw [if_pos (by omega)]; first | (rw [e1]; split <;> (try rw [if_pos (by omega)]) <;> omega) | (rw [e2]; split <;> (try rw [if_neg (by omega), if_pos (by omega)]) <;> omega) | (split <;> (try rw [if_neg (by omega), if_neg (by omega)]) <;> omega), fun j q1 q2 q3 q4 => by rw [e4 j q2 q3 q4, a2 j q1], fun a q1 q2 q3 => by rw [e5 a q1, a4 a q1 q2 q3]⟩
  · have d9 := bI0.mp c9
    refine AW.iconst dX9_nearest_12 ?_
    exact AW.iret rfl dX9_nearest_13 ⟨by unfold nearS; rw [if_neg (by omega)], fun _ _ _ _ _ => rfl, fun _ _ _ _ => rfl⟩

/-- a slip v (0 .. 3) of two directions -/
def svP (p : Int) (v : Nat) : Int := if v = 0 then (p + 1) % 8 else if v = 1 then (p + 7) % 8 else p
def svQ (q : Int) (v : Nat) : Int := if v = 2 then (q + 1) % 8 else if v = 3 then (q + 7) % 8 else q
theorem svP_d {p : Int} (h : D8 p) (v : Nat) : D8 (svP p v) := by unfold svP; (repeat' split) <;> constructor <;> omega
theorem svQ_d {p : Int} (h : D8 p) (v : Nat) : D8 (svQ p v) := by unfold svQ; (repeat' split) <;> constructor <;> omega
def isL (p q : Int) : Int := bI (decide (0 ≤ sgn p q ∧ sgn p q < 26))
def slL (r : Nat → Int) (i v : Nat) : Int := isL (svP (mLo r i) v) (svQ (mHi r i) v)
def slN (r : Nat → Int) (word : Int) (i v : Nat) : Int := bI (decide ((nearF (up1 (mLo r) i (svP (mLo r i) v)) (up1 (mHi r) i (svQ (mHi r i) v)) r (r 0)).1 = word ∧ (nearF (up1 (mLo r) i (svP (mLo r i) v)) (up1 (mHi r) i (svQ (mHi r i) v)) r (r 0)).2.2 = 1))
def sum4 (f : Nat → Nat → Int) : Nat → Int
  | 0 => 0
  | i + 1 => sum4 f i + (f i 0 + f i 1 + f i 2 + f i 3)
def sum1 (f : Nat → Nat → Int) : Nat → Int
  | 0 => 0
  | s + 1 => sum1 f s + f (s / 4) (s % 4)
theorem sum1_4 (f : Nat → Nat → Int) : ∀ n : Nat, sum1 f (4 * n) = sum4 f n
  | 0 => rfl
  | n + 1 => by
    rw [show 4 * (n + 1) = 4 * n + 1 + 1 + 1 + 1 by omega]
    simp only [sum1, sum4]
    rw [sum1_4 f n, show (4 * n + 1 + 1 + 1) / 4 = n by omega, show (4 * n + 1 + 1) / 4 = n by omega, show (4 * n + 1) / 4 = n by omega, show 4 * n / 4 = n by omega, show (4 * n + 1 + 1 + 1) % 4 = 3 by omega, show (4 * n + 1 + 1) % 4 = 2 by omega, show (4 * n + 1) % 4 = 1 by omega, show 4 * n % 4 = 0 by omega]
    omega
theorem sum1_neg (f : Nat → Nat → Int) : ∀ n : Nat, sum1 (fun i v => 1 - f i v) n = n - sum1 f n
  | 0 => by simp [sum1]
  | n + 1 => by simp only [sum1]; rw [sum1_neg f n]; omega
theorem sum1_b (f : Nat → Nat → Int) (h : ∀ i v, f i v = 0 ∨ f i v = 1) : ∀ n : Nat, 0 ≤ sum1 f n ∧ sum1 f n ≤ n
  | 0 => by simp [sum1]
  | n + 1 => by have := sum1_b f h n; have := h (n / 4) (n % 4); simp only [sum1]; omega
theorem sum4_b (f : Nat → Nat → Int) (h : ∀ i v, f i v = 0 ∨ f i v = 1) : ∀ n : Nat, 0 ≤ sum4 f n ∧ sum4 f n ≤ 4 * n
  | 0 => by simp [sum4]
  | n + 1 => by have := sum4_b f h n; have := h n 0; have := h n 1; have := h n 2; have := h n 3; simp only [sum4]; omega
theorem sum1_congr {f g : Nat → Nat → Int} : ∀ n : Nat, (∀ s : Nat, s < n → f (s / 4) (s % 4) = g (s / 4) (s % 4)) → sum1 f n = sum1 g n
  | 0, _ => rfl
  | n + 1, h => by simp only [sum1]; rw [sum1_congr n (fun s hs => h s (by omega)), h n (by omega)]
theorem isL_01 (p q : Int) : isL p q = 0 ∨ isL p q = 1 := bI_01 _
def slipS (r : Nat → Int) (c : Int) : Int := if c = 0 then 4 * r 0 - sum4 (slL r) (r 0).toNat else if c = 1 then sum4 (slL r) (r 0).toNat else if c = 2 then (if (nearF (mLo r) (mHi r) r (r 0)).1 = -4 then 0 else sum4 (slN r (nearF (mLo r) (mHi r) r (r 0)).1) (r 0).toNat) else -1

set_option maxRecDepth 20000 in
theorem slipsL_loop (Γ : GC) (M : Mm) (r : Nat → Int) (ho : OkR r) (hr : stRel M 1 r) : ∀ (n i : Nat) (x f : Int), x = i → (i : Int) ≤ r 0 → f = sum4 (slL r) i → 12 - i < n → AW Γ uX8_slipsToLetters 4 [(2, vi x), (1, vi f), (0, rf Γ 0)] [] M (Pu (sum4 (slL r) (r 0).toNat) M) := by
  obtain ⟨h1, h2, h3, h4, h5, h6, h7⟩ := st1u hr
  obtain ⟨o0, o1, o2, o3, o4, o5, o6⟩ := id ho
  intro n
  induction n with
  | zero => intro i x f g0 g1 g2 gm; omega
  | succ n ih =>
    intro i x f g0 g1 g2 gm
    have hl : (i : Int) < r 0 → 0 ≤ r (5 + i) ∧ r (5 + i) < 26 := o5 i
    refine AW.iload_n dX8_slipsToLetters_4 0 rfl rfl ?_
    refine AW.aload_n dX8_slipsToLetters_5 2 rfl rfl ?_
    refine AW.getR dX8_slipsToLetters_6 fl_X8_10 (show sh 0 = (0, 8, [some 1, some 5, some 31, some 35, none, some 61, some 65, some 71, some 76, some 79, some 83, some 85]) from rfl) rfl ?_
    refine AW.getI dX8_slipsToLetters_9 fl_X8_137 (show sh 1 = (0, 5, [some 2, none, some 3, some 4, none, none, none, none]) from rfl) rfl ?_
    refine AW.icmp_ge 94 dX8_slipsToLetters_12 (by decide) (by omega) (by omega) (fun c12 => ?_) (fun c12 => ?_)
    · refine AW.iload_n dX8_slipsToLetters_94 1 rfl rfl ?_
      exact AW.iret rfl dX8_slipsToLetters_95 ⟨by rw [g2, show i = (r 0).toNat by omega], rfl⟩
    · refine AW.getsL dX8_slipsToLetters_15 gs_X8_82 ?_
      refine AW.aload_n dX8_slipsToLetters_18 2 rfl rfl ?_
      refine AW.getR dX8_slipsToLetters_19 fl_X8_10 (show sh 0 = (0, 8, [some 1, some 5, some 31, some 35, none, some 61, some 65, some 71, some 76, some 79, some 83, some 85]) from rfl) rfl ?_
      refine AW.getR dX8_slipsToLetters_22 fl_X8_141 (show sh 1 = (0, 5, [some 2, none, some 3, some 4, none, none, none, none]) from rfl) rfl ?_
      refine AW.iload_n dX8_slipsToLetters_25 0 rfl rfl ?_
      refine AW.ialdN i dX8_slipsToLetters_26 (show sh 2 = (1, 12, []) from rfl) (by omega) (by omega) (by decide) ?_
      rw [h6 i (by omega)]
      refine AW.taldLN ((r (5 + i)).toNat) dX8_slipsToLetters_27 (by omega) (by omega) ?_
      refine AW.top (fun p ep => ?_)
      refine AW.istore_n [(3, vi p), (2, vi x), (1, vi f), (0, rf Γ 0)] dX8_slipsToLetters_28 rfl (by decide) rfl ?_
      refine AW.getsG dX8_slipsToLetters_29 gs_X8_86 ?_
      refine AW.aload_n dX8_slipsToLetters_32 3 rfl rfl ?_
      refine AW.getR dX8_slipsToLetters_33 fl_X8_10 (show sh 0 = (0, 8, [some 1, some 5, some 31, some 35, none, some 61, some 65, some 71, some 76, some 79, some 83, some 85]) from rfl) rfl ?_
      refine AW.getR dX8_slipsToLetters_36 fl_X8_141 (show sh 1 = (0, 5, [some 2, none, some 3, some 4, none, none, none, none]) from rfl) rfl ?_
      refine AW.iload_n dX8_slipsToLetters_39 1 rfl rfl ?_
      refine AW.ialdN i dX8_slipsToLetters_40 (show sh 2 = (1, 12, []) from rfl) (by omega) (by omega) (by decide) ?_
      rw [h6 i (by omega)]
      refine AW.taldGN ((r (5 + i)).toNat) dX8_slipsToLetters_41 (by omega) (by omega) ?_
      refine AW.top (fun q eq => ?_)
      refine AW.istore [(4, vi q), (3, vi p), (2, vi x), (1, vi f), (0, rf Γ 0)] dX8_slipsToLetters_42 (by decide) rfl ?_
      have hp : D8 p := by rw [ep]; exact tl_b _
      have hq : D8 q := by rw [eq]; exact tg_b _
      refine AW.iload_n dX8_slipsToLetters_44 3 rfl rfl ?_
      refine AW.iload_n dX8_slipsToLetters_45 1 rfl rfl ?_
      refine AW.callS1ip (C_oneOn Γ M _ (by assumption)) dX8_slipsToLetters_46 mc_X8_293 (fun _ => rfl) ⟨Nat.le_of_ble_eq_true rfl, Nat.le_of_ble_eq_true rfl⟩ (Nat.le_of_ble_eq_true rfl) ?_
      refine AW.iload dX8_slipsToLetters_49 0 rfl ?_
      refine AW.callS2ip (C_letterOrNot Γ M _ _ (by first | assumption | (constructor <;> omega)) (by first | assumption | (constructor <;> omega))) dX8_slipsToLetters_51 mc_X8_296 (fun _ => rfl) ⟨Nat.le_of_ble_eq_true rfl, Nat.le_of_ble_eq_true rfl⟩ (Nat.le_of_ble_eq_true rfl) ?_
      refine AW.iload_n dX8_slipsToLetters_54 1 rfl rfl ?_
      refine AW.callS1ip (C_oneBack Γ M _ (by assumption)) dX8_slipsToLetters_55 mc_X8_299 (fun _ => rfl) ⟨Nat.le_of_ble_eq_true rfl, Nat.le_of_ble_eq_true rfl⟩ (Nat.le_of_ble_eq_true rfl) ?_
      refine AW.iload dX8_slipsToLetters_58 0 rfl ?_
      refine AW.callS2ip (C_letterOrNot Γ M _ _ (by first | assumption | (constructor <;> omega)) (by first | assumption | (constructor <;> omega))) dX8_slipsToLetters_60 mc_X8_296 (fun _ => rfl) ⟨Nat.le_of_ble_eq_true rfl, Nat.le_of_ble_eq_true rfl⟩ (Nat.le_of_ble_eq_true rfl) ?_
      refine AW.iadd dX8_slipsToLetters_63 ?_
      refine AW.iadd dX8_slipsToLetters_64 ?_
      refine AW.top (fun f1 ef1 => ?_)
      refine AW.istore_n [(1, vi f1), (4, vi q), (3, vi p), (2, vi x), (0, rf Γ 0)] dX8_slipsToLetters_65 rfl (by decide) rfl ?_
      refine AW.iload_n dX8_slipsToLetters_66 0 rfl rfl ?_
      refine AW.iload_n dX8_slipsToLetters_67 2 rfl rfl ?_
      refine AW.iload dX8_slipsToLetters_68 1 rfl ?_
      refine AW.callS1ip (C_oneOn Γ M _ (by assumption)) dX8_slipsToLetters_70 mc_X8_293 (fun _ => rfl) ⟨Nat.le_of_ble_eq_true rfl, Nat.le_of_ble_eq_true rfl⟩ (Nat.le_of_ble_eq_true rfl) ?_
      refine AW.callS2ip (C_letterOrNot Γ M _ _ (by first | assumption | (constructor <;> omega)) (by first | assumption | (constructor <;> omega))) dX8_slipsToLetters_73 mc_X8_296 (fun _ => rfl) ⟨Nat.le_of_ble_eq_true rfl, Nat.le_of_ble_eq_true rfl⟩ (Nat.le_of_ble_eq_true rfl) ?_
      refine AW.iload_n dX8_slipsToLetters_76 2 rfl rfl ?_
      refine AW.iload dX8_slipsToLetters_77 1 rfl ?_
      refine AW.callS1ip (C_oneBack Γ M _ (by assumption)) dX8_slipsToLetters_79 mc_X8_299 (fun _ => rfl) ⟨Nat.le_of_ble_eq_true rfl, Nat.le_of_ble_eq_true rfl⟩ (Nat.le_of_ble_eq_true rfl) ?_
      refine AW.callS2ip (C_letterOrNot Γ M _ _ (by first | assumption | (constructor <;> omega)) (by first | assumption | (constructor <;> omega))) dX8_slipsToLetters_82 mc_X8_296 (fun _ => rfl) ⟨Nat.le_of_ble_eq_true rfl, Nat.le_of_ble_eq_true rfl⟩ (Nat.le_of_ble_eq_true rfl) ?_
      refine AW.iadd dX8_slipsToLetters_85 ?_
      refine AW.iadd dX8_slipsToLetters_86 ?_
      refine AW.top (fun f2 ef2 => ?_)
      refine AW.istore_n [(1, vi f2), (4, vi q), (3, vi p), (2, vi x), (0, rf Γ 0)] dX8_slipsToLetters_87 rfl (by decide) rfl ?_
      obtain ⟨x88, ex88⟩ : ∃ z : Int, x + 1 = z := ⟨_, rfl⟩
      refine AW.iinc [(2, vi x88), (1, vi f2), (4, vi q), (3, vi p), (0, rf Γ 0)] dX8_slipsToLetters_88 3 rfl (by decide) x88 ex88 rfl ?_
      refine AW.goto 4 dX8_slipsToLetters_91 (by decide) ?_
      refine AW.sub [0, 1, 4] rfl ?_
      exact ih (i + 1) x88 f2 (by omega) (by omega) (by rw [ef2, ef1, g2, ep, eq]; simp only [sum4, slL, isL, svP, svQ, mLo, mHi]; simp; omega) (by omega)

set_option maxRecDepth 20000 in
theorem C_slipsToLetters (Γ : GC) (M : Mm) (r : Nat → Int) (ho : OkR r) (hr : stRel M 1 r) : Ct Γ uX8_slipsToLetters [rf Γ 0] M (Pu (sum4 (slL r) (r 0).toNat) M) := by
  refine Ct.of (by decide) (Nat.le_of_ble_eq_true rfl) ?_
  show AW Γ uX8_slipsToLetters 0 [(0, rf Γ 0)] [] M _
  refine AW.iconst dX8_slipsToLetters_0 ?_
  refine AW.top (fun x1 ex1 => ?_)
  refine AW.istore_n [(1, vi x1), (0, rf Γ 0)] dX8_slipsToLetters_1 rfl (by decide) rfl ?_
  refine AW.iconst dX8_slipsToLetters_2 ?_
  refine AW.top (fun x3 ex3 => ?_)
  refine AW.istore_n [(2, vi x3), (1, vi x1), (0, rf Γ 0)] dX8_slipsToLetters_3 rfl (by decide) rfl ?_
  refine AW.sub [0, 1, 2] rfl ?_
  exact slipsL_loop Γ M r ho hr 14 0 x3 x1 (by omega) (by have := ho.1; omega) (by rw [ex1]; rfl) (by omega)
