/-! the way of the reference; least, arm, film -/
theorem bitI (k e : Nat) : ((k : Int) / 2 ^ e) % 2 ^ 1 = ((k / 2 ^ e % 2 : Nat) : Int) := by
  rw [show ((2 : Int) ^ 1) = ((2 : Nat) : Int) from rfl, show ((2 : Int) ^ e) = ((2 ^ e : Nat) : Int) by simp]
  rw [← Int.natCast_ediv, ← Int.natCast_emod]

set_option maxRecDepth 20000 in
theorem C9_leftAt (Γ : GC) (M : Mm) (hsg : SG M) (ho : OkR (M 96)) (kx x : Int) (k i : Nat) (ehk : kx = k) (hx : x = i) (hk : k < 4096) (hi : (i : Int) < M 96 0) : Ct Γ uX9_leftAt [rf Γ 94, vi kx, vi x] M (Pu (dirP (M 96) (i + 1) (bsF (M 96 0).toNat k (i + 1))) M) := by
  refine Ct.of (by decide) (Nat.le_of_ble_eq_true rfl) ?_
  show AW Γ uX9_leftAt 0 [(0, rf Γ 94), (1, vi kx), (2, vi x)] [] M _
  obtain ⟨o0, o1, o2, o3, o4, o5, o6⟩ := id ho
  have hbit : k / 2 ^ ((M 96 0).toNat - 1 - i) % 2 < 2 := Nat.mod_lt _ (by decide)
  refine AW.iload_n dX9_leftAt_0 1 rfl rfl ?_
  refine AW.aload_n dX9_leftAt_1 0 rfl rfl ?_
  refine AW.getR dX9_leftAt_2 fl_X9_13 (show sh 94 = (0, 9, [some 95, some 96, some 97, none, none, none, some 98, some 99, some 100, none, none, none, none, some 101, none, none, none, some 102, none, some 103, some 104, none, some 105, some 106, some 107, some 108]) from rfl) rfl ?_
  refine AW.iconst dX9_leftAt_5 ?_
  refine AW.ialdN 0 dX9_leftAt_6 (show sh 96 = (1, 59, []) from rfl) rfl (by decide) (by decide) ?_
  refine AW.iconst dX9_leftAt_7 ?_
  refine AW.isub dX9_leftAt_8 ?_
  refine AW.iload_n dX9_leftAt_9 2 rfl rfl ?_
  refine AW.isub dX9_leftAt_10 ?_
  refine AW.ishr dX9_leftAt_11 (by omega) (by omega) ?_
  refine AW.iconst dX9_leftAt_12 ?_
  rw [show (M 96 0 - 1 - x).toNat = (M 96 0).toNat - 1 - i by omega]
  refine AW.iandk 1 (by decide) (by decide) dX9_leftAt_13 ?_
  rw [show (kx / 2 ^ ((M 96 0).toNat - 1 - i)) % 2 ^ 1 = ((k / 2 ^ ((M 96 0).toNat - 1 - i) % 2 : Nat) : Int) by rw [ehk]; exact bitI _ _]
  refine AW.iconst dX9_leftAt_14 ?_
  refine AW.icmp_ne 22 dX9_leftAt_15 (by decide) (by omega) (by omega) (fun c15 => ?_) (fun c15 => ?_)
  · refine AW.iconst dX9_leftAt_22 ?_
    refine AW.top (fun hh ehh => ?_)
    refine AW.istore_n [(3, vi hh), (0, rf Γ 94), (1, vi kx), (2, vi x)] dX9_leftAt_23 rfl (by decide) rfl ?_
    refine AW.iload_n dX9_leftAt_24 0 rfl rfl ?_
    refine AW.if_eq 40 dX9_leftAt_25 (by decide) (by omega) (fun c25 => ?_) (fun c25 => ?_)
    · refine AW.aload_n dX9_leftAt_40 1 rfl rfl ?_
      refine AW.aload_n dX9_leftAt_41 1 rfl rfl ?_
      refine AW.iload_n dX9_leftAt_42 3 rfl rfl ?_
      refine AW.callV1ip (C9_at Γ M _ i (by omega) (by omega)) dX9_leftAt_43 mc_X9_91 (show sh 94 = (0, 9, [some 95, some 96, some 97, none, none, none, some 98, some 99, some 100, none, none, none, none, some 101, none, none, none, some 102, none, some 103, some 104, none, some 105, some 106, some 107, some 108]) from rfl) (fun _ => rfl) ⟨Nat.le_of_ble_eq_true rfl, Nat.le_of_ble_eq_true rfl⟩ (Nat.le_of_ble_eq_true rfl) ?_
      refine AW.callV1ip (C9_low Γ M hsg _ (by have := o5 i (by omega); omega)) dX9_leftAt_46 mc_X9_61 (show sh 94 = (0, 9, [some 95, some 96, some 97, none, none, none, some 98, some 99, some 100, none, none, none, none, some 101, none, none, none, some 102, none, some 103, some 104, none, some 105, some 106, some 107, some 108]) from rfl) (fun _ => rfl) ⟨Nat.le_of_ble_eq_true rfl, Nat.le_of_ble_eq_true rfl⟩ (Nat.le_of_ble_eq_true rfl) ?_
      exact AW.iret rfl dX9_leftAt_49 ⟨by first | (exfalso; omega) | (unfold bsF bitN; rw [if_neg (show ¬ i + 1 = 0 by omega), show i + 1 - 1 = i by omega]; show _ = (if k / 2 ^ ((M 96 0).toNat - 1 - i) % 2 = 0 then mLo (M 96) i else mHi (M 96) i); first | (rw [if_neg (by omega)]; rfl) | (rw [if_pos (by omega)]; rfl)), rfl⟩
    · refine AW.aload_n dX9_leftAt_28 1 rfl rfl ?_
      refine AW.aload_n dX9_leftAt_29 1 rfl rfl ?_
      refine AW.iload_n dX9_leftAt_30 3 rfl rfl ?_
      refine AW.callV1ip (C9_at Γ M _ i (by omega) (by omega)) dX9_leftAt_31 mc_X9_91 (show sh 94 = (0, 9, [some 95, some 96, some 97, none, none, none, some 98, some 99, some 100, none, none, none, none, some 101, none, none, none, some 102, none, some 103, some 104, none, some 105, some 106, some 107, some 108]) from rfl) (fun _ => rfl) ⟨Nat.le_of_ble_eq_true rfl, Nat.le_of_ble_eq_true rfl⟩ (Nat.le_of_ble_eq_true rfl) ?_
      refine AW.callV1ip (C9_high Γ M hsg _ (by have := o5 i (by omega); omega)) dX9_leftAt_34 mc_X9_65 (show sh 94 = (0, 9, [some 95, some 96, some 97, none, none, none, some 98, some 99, some 100, none, none, none, none, some 101, none, none, none, some 102, none, some 103, some 104, none, some 105, some 106, some 107, some 108]) from rfl) (fun _ => rfl) ⟨Nat.le_of_ble_eq_true rfl, Nat.le_of_ble_eq_true rfl⟩ (Nat.le_of_ble_eq_true rfl) ?_
      refine AW.goto 49 dX9_leftAt_37 (by decide) ?_
      exact AW.iret rfl dX9_leftAt_49 ⟨by first | (exfalso; omega) | (unfold bsF bitN; rw [if_neg (show ¬ i + 1 = 0 by omega), show i + 1 - 1 = i by omega]; show _ = (if k / 2 ^ ((M 96 0).toNat - 1 - i) % 2 = 0 then mLo (M 96) i else mHi (M 96) i); first | (rw [if_neg (by omega)]; rfl) | (rw [if_pos (by omega)]; rfl)), rfl⟩
  · refine AW.iconst dX9_leftAt_18 ?_
    refine AW.goto 23 dX9_leftAt_19 (by decide) ?_
    refine AW.top (fun hh ehh => ?_)
    refine AW.istore_n [(3, vi hh), (0, rf Γ 94), (1, vi kx), (2, vi x)] dX9_leftAt_23 rfl (by decide) rfl ?_
    refine AW.iload_n dX9_leftAt_24 0 rfl rfl ?_
    refine AW.if_eq 40 dX9_leftAt_25 (by decide) (by omega) (fun c25 => ?_) (fun c25 => ?_)
    · refine AW.aload_n dX9_leftAt_40 1 rfl rfl ?_
      refine AW.aload_n dX9_leftAt_41 1 rfl rfl ?_
      refine AW.iload_n dX9_leftAt_42 3 rfl rfl ?_
      refine AW.callV1ip (C9_at Γ M _ i (by omega) (by omega)) dX9_leftAt_43 mc_X9_91 (show sh 94 = (0, 9, [some 95, some 96, some 97, none, none, none, some 98, some 99, some 100, none, none, none, none, some 101, none, none, none, some 102, none, some 103, some 104, none, some 105, some 106, some 107, some 108]) from rfl) (fun _ => rfl) ⟨Nat.le_of_ble_eq_true rfl, Nat.le_of_ble_eq_true rfl⟩ (Nat.le_of_ble_eq_true rfl) ?_
      refine AW.callV1ip (C9_low Γ M hsg _ (by have := o5 i (by omega); omega)) dX9_leftAt_46 mc_X9_61 (show sh 94 = (0, 9, [some 95, some 96, some 97, none, none, none, some 98, some 99, some 100, none, none, none, none, some 101, none, none, none, some 102, none, some 103, some 104, none, some 105, some 106, some 107, some 108]) from rfl) (fun _ => rfl) ⟨Nat.le_of_ble_eq_true rfl, Nat.le_of_ble_eq_true rfl⟩ (Nat.le_of_ble_eq_true rfl) ?_
      exact AW.iret rfl dX9_leftAt_49 ⟨by first | (exfalso; omega) | (unfold bsF bitN; rw [if_neg (show ¬ i + 1 = 0 by omega), show i + 1 - 1 = i by omega]; show _ = (if k / 2 ^ ((M 96 0).toNat - 1 - i) % 2 = 0 then mLo (M 96) i else mHi (M 96) i); first | (rw [if_neg (by omega)]; rfl) | (rw [if_pos (by omega)]; rfl)), rfl⟩
    · refine AW.aload_n dX9_leftAt_28 1 rfl rfl ?_
      refine AW.aload_n dX9_leftAt_29 1 rfl rfl ?_
      refine AW.iload_n dX9_leftAt_30 3 rfl rfl ?_
      refine AW.callV1ip (C9_at Γ M _ i (by omega) (by omega)) dX9_leftAt_31 mc_X9_91 (show sh 94 = (0, 9, [some 95, some 96, some 97, none, none, none, some 98, some 99, some 100, none, none, none, none, some 101, none, none, none, some 102, none, some 103, some 104, none, some 105, some 106, some 107, some 108]) from rfl) (fun _ => rfl) ⟨Nat.le_of_ble_eq_true rfl, Nat.le_of_ble_eq_true rfl⟩ (Nat.le_of_ble_eq_true rfl) ?_
      refine AW.callV1ip (C9_high Γ M hsg _ (by have := o5 i (by omega); omega)) dX9_leftAt_34 mc_X9_65 (show sh 94 = (0, 9, [some 95, some 96, some 97, none, none, none, some 98, some 99, some 100, none, none, none, none, some 101, none, none, none, some 102, none, some 103, some 104, none, some 105, some 106, some 107, some 108]) from rfl) (fun _ => rfl) ⟨Nat.le_of_ble_eq_true rfl, Nat.le_of_ble_eq_true rfl⟩ (Nat.le_of_ble_eq_true rfl) ?_
      refine AW.goto 49 dX9_leftAt_37 (by decide) ?_
      exact AW.iret rfl dX9_leftAt_49 ⟨by first | (exfalso; omega) | (unfold bsF bitN; rw [if_neg (show ¬ i + 1 = 0 by omega), show i + 1 - 1 = i by omega]; show _ = (if k / 2 ^ ((M 96 0).toNat - 1 - i) % 2 = 0 then mLo (M 96) i else mHi (M 96) i); first | (rw [if_neg (by omega)]; rfl) | (rw [if_pos (by omega)]; rfl)), rfl⟩

set_option maxRecDepth 20000 in
theorem C9_rightAt (Γ : GC) (M : Mm) (hsg : SG M) (ho : OkR (M 96)) (kx x : Int) (k i : Nat) (ehk : kx = k) (hx : x = i) (hk : k < 4096) (hi : (i : Int) < M 96 0) : Ct Γ uX9_rightAt [rf Γ 94, vi kx, vi x] M (Pu (dirP (M 96) (i + 1) (1 - bsF (M 96 0).toNat k (i + 1))) M) := by
  refine Ct.of (by decide) (Nat.le_of_ble_eq_true rfl) ?_
  show AW Γ uX9_rightAt 0 [(0, rf Γ 94), (1, vi kx), (2, vi x)] [] M _
  obtain ⟨o0, o1, o2, o3, o4, o5, o6⟩ := id ho
  refine AW.aload_n dX9_rightAt_0 0 rfl rfl ?_
  refine AW.aload_n dX9_rightAt_1 0 rfl rfl ?_
  refine AW.iload_n dX9_rightAt_2 2 rfl rfl ?_
  refine AW.callV1ip (C9_at Γ M _ i (by omega) (by omega)) dX9_rightAt_3 mc_X9_91 (show sh 94 = (0, 9, [some 95, some 96, some 97, none, none, none, some 98, some 99, some 100, none, none, none, none, some 101, none, none, none, some 102, none, some 103, some 104, none, some 105, some 106, some 107, some 108]) from rfl) (fun _ => rfl) ⟨Nat.le_of_ble_eq_true rfl, Nat.le_of_ble_eq_true rfl⟩ (Nat.le_of_ble_eq_true rfl) ?_
  refine AW.callV1ip (C9_low Γ M hsg _ (by have := o5 i (by omega); omega)) dX9_rightAt_6 mc_X9_61 (show sh 94 = (0, 9, [some 95, some 96, some 97, none, none, none, some 98, some 99, some 100, none, none, none, none, some 101, none, none, none, some 102, none, some 103, some 104, none, some 105, some 106, some 107, some 108]) from rfl) (fun _ => rfl) ⟨Nat.le_of_ble_eq_true rfl, Nat.le_of_ble_eq_true rfl⟩ (Nat.le_of_ble_eq_true rfl) ?_
  refine AW.aload_n dX9_rightAt_9 0 rfl rfl ?_
  refine AW.aload_n dX9_rightAt_10 0 rfl rfl ?_
  refine AW.iload_n dX9_rightAt_11 2 rfl rfl ?_
  refine AW.callV1ip (C9_at Γ M _ i (by omega) (by omega)) dX9_rightAt_12 mc_X9_91 (show sh 94 = (0, 9, [some 95, some 96, some 97, none, none, none, some 98, some 99, some 100, none, none, none, none, some 101, none, none, none, some 102, none, some 103, some 104, none, some 105, some 106, some 107, some 108]) from rfl) (fun _ => rfl) ⟨Nat.le_of_ble_eq_true rfl, Nat.le_of_ble_eq_true rfl⟩ (Nat.le_of_ble_eq_true rfl) ?_
  refine AW.callV1ip (C9_high Γ M hsg _ (by have := o5 i (by omega); omega)) dX9_rightAt_15 mc_X9_65 (show sh 94 = (0, 9, [some 95, some 96, some 97, none, none, none, some 98, some 99, some 100, none, none, none, none, some 101, none, none, none, some 102, none, some 103, some 104, none, some 105, some 106, some 107, some 108]) from rfl) (fun _ => rfl) ⟨Nat.le_of_ble_eq_true rfl, Nat.le_of_ble_eq_true rfl⟩ (Nat.le_of_ble_eq_true rfl) ?_
  refine AW.iadd dX9_rightAt_18 ?_
  refine AW.aload_n dX9_rightAt_19 0 rfl rfl ?_
  refine AW.iload_n dX9_rightAt_20 1 rfl rfl ?_
  refine AW.iload_n dX9_rightAt_21 2 rfl rfl ?_
  refine AW.callV2ip (C9_leftAt Γ M hsg ho _ _ k i ehk hx hk hi) dX9_rightAt_22 mc_X9_139 (show sh 94 = (0, 9, [some 95, some 96, some 97, none, none, none, some 98, some 99, some 100, none, none, none, none, some 101, none, none, none, some 102, none, some 103, some 104, none, some 105, some 106, some 107, some 108]) from rfl) (fun _ => rfl) ⟨Nat.le_of_ble_eq_true rfl, Nat.le_of_ble_eq_true rfl⟩ (Nat.le_of_ble_eq_true rfl) ?_
  refine AW.isub dX9_rightAt_25 ?_
  exact AW.iret rfl dX9_rightAt_26 ⟨by
  have h2 := bsF_2 (M 96 0).toNat k (i + 1)
  rcases (show bsF (M 96 0).toNat k (i + 1) = 0 ∨ bsF (M 96 0).toNat k (i + 1) = 1 by omega) with h | h
  · rw [h]; simp only [dirP, mLo, mHi]; simp <;> omega
  · rw [h]; simp only [dirP, mLo, mHi]; simp <;> omega, rfl⟩

set_option maxRecDepth 20000 in
theorem stepsOfL_loop (Γ : GC) (M : Mm) (hsg : SG M) (ho : OkR (M 96)) (kx lf : Int) (k : Nat) (ehk : kx = k) (hk : k < 4096) (hlf : lf = 1) : ∀ (n p : Nat) (x fr f : Int), x = p → (p : Int) ≤ M 96 0 → f = stF (M 96) (bsF (M 96 0).toNat k) p → fr = dirP (M 96) p ((bsF (M 96 0).toNat k) p) → 12 - p < n → AW Γ uX9_stepsOf 8 [(5, vi x), (4, vi fr), (3, vi f), (0, rf Γ 94), (1, vi kx), (2, vi lf)] [] M (Pu (stF (M 96) (bsF (M 96 0).toNat k) (M 96 0).toNat) M) := by
  obtain ⟨o0, o1, o2, o3, o4, o5, o6⟩ := id ho
  intro n
  induction n with
  | zero => intro p x fr f g0 g1 g2 g3 gm; omega
  | succ n ih =>
    intro p x fr f g0 g1 g2 g3 gm
    refine AW.iload dX9_stepsOf_8 0 rfl ?_
    refine AW.aload_n dX9_stepsOf_10 3 rfl rfl ?_
    refine AW.getR dX9_stepsOf_11 fl_X9_13 (show sh 94 = (0, 9, [some 95, some 96, some 97, none, none, none, some 98, some 99, some 100, none, none, none, none, some 101, none, none, none, some 102, none, some 103, some 104, none, some 105, some 106, some 107, some 108]) from rfl) rfl ?_
    refine AW.iconst dX9_stepsOf_14 ?_
    refine AW.ialdN 0 dX9_stepsOf_15 (show sh 96 = (1, 59, []) from rfl) rfl (by decide) (by decide) ?_
    refine AW.icmp_ge 62 dX9_stepsOf_16 (by decide) (by omega) (by omega) (fun c16 => ?_) (fun c16 => ?_)
    · refine AW.iload_n dX9_stepsOf_62 2 rfl rfl ?_
      exact AW.iret rfl dX9_stepsOf_63 ⟨by rw [g2, show p = (M 96 0).toNat by omega], rfl⟩
    · refine AW.iload_n dX9_stepsOf_19 5 rfl rfl ?_
      refine AW.if_eq 33 dX9_stepsOf_20 (by decide) (by omega) (fun c20 => ?_) (fun c20 => ?_)
      · exfalso; omega
      · refine AW.aload_n dX9_stepsOf_23 3 rfl rfl ?_
        refine AW.iload_n dX9_stepsOf_24 4 rfl rfl ?_
        refine AW.iload dX9_stepsOf_25 0 rfl ?_
        refine AW.callV2ip (C9_leftAt Γ M hsg ho _ _ k p ehk (by omega) hk (by omega)) dX9_stepsOf_27 mc_X9_139 (show sh 94 = (0, 9, [some 95, some 96, some 97, none, none, none, some 98, some 99, some 100, none, none, none, none, some 101, none, none, none, some 102, none, some 103, some 104, none, some 105, some 106, some 107, some 108]) from rfl) (fun _ => rfl) ⟨Nat.le_of_ble_eq_true rfl, Nat.le_of_ble_eq_true rfl⟩ (Nat.le_of_ble_eq_true rfl) ?_
        refine AW.goto 40 dX9_stepsOf_30 (by decide) ?_
        refine AW.top (fun to eto => ?_)
        refine AW.istore [(6, vi to), (5, vi x), (4, vi fr), (3, vi f), (0, rf Γ 94), (1, vi kx), (2, vi lf)] dX9_stepsOf_40 (by decide) rfl ?_
        refine AW.iload_n dX9_stepsOf_42 3 rfl rfl ?_
        refine AW.iload dX9_stepsOf_43 2 rfl ?_
        refine AW.iload dX9_stepsOf_45 0 rfl ?_
        refine AW.callS2ip (C9_steps Γ M _ _ (by rw [g3]; exact dirP_d _ _ _) (by rw [eto]; exact dirP_d _ _ _)) dX9_stepsOf_47 mc_X9_71 (fun _ => rfl) ⟨Nat.le_of_ble_eq_true rfl, Nat.le_of_ble_eq_true rfl⟩ (Nat.le_of_ble_eq_true rfl) ?_
        refine AW.iadd dX9_stepsOf_50 ?_
        refine AW.top (fun f2 ef2 => ?_)
        refine AW.istore_n [(3, vi f2), (6, vi to), (5, vi x), (4, vi fr), (0, rf Γ 94), (1, vi kx), (2, vi lf)] dX9_stepsOf_51 rfl (by decide) rfl ?_
        refine AW.iload dX9_stepsOf_52 1 rfl ?_
        refine AW.top (fun fr2 efr2 => ?_)
        refine AW.istore [(4, vi fr2), (3, vi f2), (6, vi to), (5, vi x), (0, rf Γ 94), (1, vi kx), (2, vi lf)] dX9_stepsOf_54 (by decide) rfl ?_
        obtain ⟨x56, ex56⟩ : ∃ z : Int, x + 1 = z := ⟨_, rfl⟩
        refine AW.iinc [(5, vi x56), (4, vi fr2), (3, vi f2), (6, vi to), (0, rf Γ 94), (1, vi kx), (2, vi lf)] dX9_stepsOf_56 3 rfl (by decide) x56 ex56 rfl ?_
        refine AW.goto 8 dX9_stepsOf_59 (by decide) ?_
        refine AW.sub [0, 1, 2, 4, 5, 6] rfl ?_
        exact ih (p + 1) x56 fr2 f2 (by omega) (by omega) (by rw [ef2, g2, g3, eto]; rfl) (by rw [efr2, eto]) (by omega)

set_option maxRecDepth 20000 in
theorem C9_stepsL (Γ : GC) (M : Mm) (hsg : SG M) (ho : OkR (M 96)) (kx lf : Int) (k : Nat) (ehk : kx = k) (hk : k < 4096) (hlf : lf = 1) : Ct Γ uX9_stepsOf [rf Γ 94, vi kx, vi lf] M (Pu (stF (M 96) (bsF (M 96 0).toNat k) (M 96 0).toNat) M) := by
  refine Ct.of (by decide) (Nat.le_of_ble_eq_true rfl) ?_
  show AW Γ uX9_stepsOf 0 [(0, rf Γ 94), (1, vi kx), (2, vi lf)] [] M _
  refine AW.iconst dX9_stepsOf_0 ?_
  refine AW.top (fun x1 ex1 => ?_)
  refine AW.istore_n [(3, vi x1), (0, rf Γ 94), (1, vi kx), (2, vi lf)] dX9_stepsOf_1 rfl (by decide) rfl ?_
  refine AW.iconst dX9_stepsOf_2 ?_
  refine AW.top (fun x3 ex3 => ?_)
  refine AW.istore [(4, vi x3), (3, vi x1), (0, rf Γ 94), (1, vi kx), (2, vi lf)] dX9_stepsOf_3 (by decide) rfl ?_
  refine AW.iconst dX9_stepsOf_5 ?_
  refine AW.top (fun x6 ex6 => ?_)
  refine AW.istore [(5, vi x6), (4, vi x3), (3, vi x1), (0, rf Γ 94), (1, vi kx), (2, vi lf)] dX9_stepsOf_6 (by decide) rfl ?_
  refine AW.sub [0, 1, 2, 3, 4, 5] rfl ?_
  exact stepsOfL_loop Γ M hsg ho kx lf k ehk hk hlf 14 0 x6 x3 x1 (by omega) (by have := ho.1; omega) (by rw [ex1]; rfl) (by rw [ex3]; rfl) (by omega)

set_option maxRecDepth 20000 in
theorem stepsOfR_loop (Γ : GC) (M : Mm) (hsg : SG M) (ho : OkR (M 96)) (kx lf : Int) (k : Nat) (ehk : kx = k) (hk : k < 4096) (hlf : lf = 0) : ∀ (n p : Nat) (x fr f : Int), x = p → (p : Int) ≤ M 96 0 → f = stF (M 96) (fun p => 1 - bsF (M 96 0).toNat k p) p → fr = dirP (M 96) p ((fun p => 1 - bsF (M 96 0).toNat k p) p) → 12 - p < n → AW Γ uX9_stepsOf 8 [(5, vi x), (4, vi fr), (3, vi f), (0, rf Γ 94), (1, vi kx), (2, vi lf)] [] M (Pu (stF (M 96) (fun p => 1 - bsF (M 96 0).toNat k p) (M 96 0).toNat) M) := by
  obtain ⟨o0, o1, o2, o3, o4, o5, o6⟩ := id ho
  intro n
  induction n with
  | zero => intro p x fr f g0 g1 g2 g3 gm; omega
  | succ n ih =>
    intro p x fr f g0 g1 g2 g3 gm
    refine AW.iload dX9_stepsOf_8 0 rfl ?_
    refine AW.aload_n dX9_stepsOf_10 3 rfl rfl ?_
    refine AW.getR dX9_stepsOf_11 fl_X9_13 (show sh 94 = (0, 9, [some 95, some 96, some 97, none, none, none, some 98, some 99, some 100, none, none, none, none, some 101, none, none, none, some 102, none, some 103, some 104, none, some 105, some 106, some 107, some 108]) from rfl) rfl ?_
    refine AW.iconst dX9_stepsOf_14 ?_
    refine AW.ialdN 0 dX9_stepsOf_15 (show sh 96 = (1, 59, []) from rfl) rfl (by decide) (by decide) ?_
    refine AW.icmp_ge 62 dX9_stepsOf_16 (by decide) (by omega) (by omega) (fun c16 => ?_) (fun c16 => ?_)
    · refine AW.iload_n dX9_stepsOf_62 2 rfl rfl ?_
      exact AW.iret rfl dX9_stepsOf_63 ⟨by rw [g2, show p = (M 96 0).toNat by omega], rfl⟩
    · refine AW.iload_n dX9_stepsOf_19 5 rfl rfl ?_
      refine AW.if_eq 33 dX9_stepsOf_20 (by decide) (by omega) (fun c20 => ?_) (fun c20 => ?_)
      · refine AW.aload_n dX9_stepsOf_33 3 rfl rfl ?_
        refine AW.iload_n dX9_stepsOf_34 4 rfl rfl ?_
        refine AW.iload dX9_stepsOf_35 0 rfl ?_
        refine AW.callV2ip (C9_rightAt Γ M hsg ho _ _ k p ehk (by omega) hk (by omega)) dX9_stepsOf_37 mc_X9_142 (show sh 94 = (0, 9, [some 95, some 96, some 97, none, none, none, some 98, some 99, some 100, none, none, none, none, some 101, none, none, none, some 102, none, some 103, some 104, none, some 105, some 106, some 107, some 108]) from rfl) (fun _ => rfl) ⟨Nat.le_of_ble_eq_true rfl, Nat.le_of_ble_eq_true rfl⟩ (Nat.le_of_ble_eq_true rfl) ?_
        refine AW.top (fun to eto => ?_)
        refine AW.istore [(6, vi to), (5, vi x), (4, vi fr), (3, vi f), (0, rf Γ 94), (1, vi kx), (2, vi lf)] dX9_stepsOf_40 (by decide) rfl ?_
        refine AW.iload_n dX9_stepsOf_42 3 rfl rfl ?_
        refine AW.iload dX9_stepsOf_43 2 rfl ?_
        refine AW.iload dX9_stepsOf_45 0 rfl ?_
        refine AW.callS2ip (C9_steps Γ M _ _ (by rw [g3]; exact dirP_d _ _ _) (by rw [eto]; exact dirP_d _ _ _)) dX9_stepsOf_47 mc_X9_71 (fun _ => rfl) ⟨Nat.le_of_ble_eq_true rfl, Nat.le_of_ble_eq_true rfl⟩ (Nat.le_of_ble_eq_true rfl) ?_
        refine AW.iadd dX9_stepsOf_50 ?_
        refine AW.top (fun f2 ef2 => ?_)
        refine AW.istore_n [(3, vi f2), (6, vi to), (5, vi x), (4, vi fr), (0, rf Γ 94), (1, vi kx), (2, vi lf)] dX9_stepsOf_51 rfl (by decide) rfl ?_
        refine AW.iload dX9_stepsOf_52 1 rfl ?_
        refine AW.top (fun fr2 efr2 => ?_)
        refine AW.istore [(4, vi fr2), (3, vi f2), (6, vi to), (5, vi x), (0, rf Γ 94), (1, vi kx), (2, vi lf)] dX9_stepsOf_54 (by decide) rfl ?_
        obtain ⟨x56, ex56⟩ : ∃ z : Int, x + 1 = z := ⟨_, rfl⟩
        refine AW.iinc [(5, vi x56), (4, vi fr2), (3, vi f2), (6, vi to), (0, rf Γ 94), (1, vi kx), (2, vi lf)] dX9_stepsOf_56 3 rfl (by decide) x56 ex56 rfl ?_
        refine AW.goto 8 dX9_stepsOf_59 (by decide) ?_
        refine AW.sub [0, 1, 2, 4, 5, 6] rfl ?_
        exact ih (p + 1) x56 fr2 f2 (by omega) (by omega) (by rw [ef2, g2, g3, eto]; rfl) (by rw [efr2, eto]) (by omega)
      · exfalso; omega

set_option maxRecDepth 20000 in
theorem C9_stepsR (Γ : GC) (M : Mm) (hsg : SG M) (ho : OkR (M 96)) (kx lf : Int) (k : Nat) (ehk : kx = k) (hk : k < 4096) (hlf : lf = 0) : Ct Γ uX9_stepsOf [rf Γ 94, vi kx, vi lf] M (Pu (stF (M 96) (fun p => 1 - bsF (M 96 0).toNat k p) (M 96 0).toNat) M) := by
  refine Ct.of (by decide) (Nat.le_of_ble_eq_true rfl) ?_
  show AW Γ uX9_stepsOf 0 [(0, rf Γ 94), (1, vi kx), (2, vi lf)] [] M _
  refine AW.iconst dX9_stepsOf_0 ?_
  refine AW.top (fun x1 ex1 => ?_)
  refine AW.istore_n [(3, vi x1), (0, rf Γ 94), (1, vi kx), (2, vi lf)] dX9_stepsOf_1 rfl (by decide) rfl ?_
  refine AW.iconst dX9_stepsOf_2 ?_
  refine AW.top (fun x3 ex3 => ?_)
  refine AW.istore [(4, vi x3), (3, vi x1), (0, rf Γ 94), (1, vi kx), (2, vi lf)] dX9_stepsOf_3 (by decide) rfl ?_
  refine AW.iconst dX9_stepsOf_5 ?_
  refine AW.top (fun x6 ex6 => ?_)
  refine AW.istore [(5, vi x6), (4, vi x3), (3, vi x1), (0, rf Γ 94), (1, vi kx), (2, vi lf)] dX9_stepsOf_6 (by decide) rfl ?_
  refine AW.sub [0, 1, 2, 3, 4, 5] rfl ?_
  exact stepsOfR_loop Γ M hsg ho kx lf k ehk hk hlf 14 0 x6 x3 x1 (by omega) (by have := ho.1; omega) (by rw [ex1]; rfl) (by rw [ex3]; rfl) (by omega)

def gtP (M N : Mm) (t : Int × Int × Nat) : Prop := (N 94 3 = t.1 ∧ N 94 4 = t.2.1 ∧ N 94 5 = (t.2.2 : Int)) ∧ (∀ j : Nat, j ≠ 3 → j ≠ 4 → j ≠ 5 → N 94 j = M 94 j) ∧ ∀ a : Nat, a ≠ 94 → N a = M a
theorem effF_b {r : Nat → Int} (ho : OkR r) (n k : Nat) (hn : n ≤ 12) : 0 ≤ effF r n k ∧ effF r n k ≤ 384 := by
  have h1 := stF_b r (bsF n k) n; have h2 := stF_b r (fun p => 1 - bsF n k p) n
  have h3 := ho.2.2.1; have h4 := ho.2.2.2.1
  unfold effF
  have m1 : 0 ≤ r 2 * stF r (bsF n k) n := Int.mul_nonneg (by omega) h1.1
  have m2 : 0 ≤ r 3 * stF r (fun p => 1 - bsF n k p) n := Int.mul_nonneg (by omega) h2.1
  have m3 : r 2 * stF r (bsF n k) n ≤ 4 * (4 * n) := Int.mul_le_mul (by omega) h1.2 h1.1 (by omega)
  have m4 : r 3 * stF r (fun p => 1 - bsF n k p) n ≤ 4 * (4 * n) := Int.mul_le_mul (by omega) h2.2 h2.1 (by omega)
  omega
theorem scF_b {c : Nat → Int} (hc : ∀ k : Nat, 0 ≤ c k ∧ c k ≤ 384) : ∀ n : Nat, (-1 ≤ (scF c n).1 ∧ (scF c n).1 ≤ 384) ∧ (0 ≤ (scF c n).2.1 ∧ (scF c n).2.1 ≤ n) ∧ ((scF c n).2.2 ≤ n)
  | 0 => by simp [scF]
  | n + 1 => by
    have h := scF_b hc n; have := hc n
    rw [scF_succ]
    by_cases h1 : (scF c n).1 < 0 ∨ c n < (scF c n).1
    · rw [if_pos h1]; dsimp only; omega
    · rw [if_neg h1]
      by_cases h2 : c n = (scF c n).1
      · rw [if_pos h2]; dsimp only; omega
      · rw [if_neg h2]; omega

set_option maxRecDepth 20000 in
theorem goes_loop (Γ : GC) (M : Mm) (hsg : SG M) (ho : OkR (M 96)) : ∀ (n k : Nat) (x : Int) (N : Mm), x = k → k ≤ 2 ^ (M 96 0).toNat → gtP M N (scF (effF (M 96) (M 96 0).toNat) k) → 4096 - k < n → AW Γ uX9_goesThrough 17 [(1, vi x), (0, rf Γ 94)] [] N (fun _ M' => gtP M M' (scF (effF (M 96) (M 96 0).toNat) (2 ^ (M 96 0).toNat))) := by
  obtain ⟨o0, o1, o2, o3, o4, o5, o6⟩ := id ho
  have hp12 : (2 : Nat) ^ (M 96 0).toNat ≤ 2 ^ 12 := Nat.pow_le_pow_right (by decide) (by omega)
  have hpw : (2 : Int) ^ (M 96 0).toNat = ((2 ^ (M 96 0).toNat : Nat) : Int) := by simp
  intro n
  induction n with
  | zero => intro k x N g0 g1 g3 gm; omega
  | succ n ih =>
    intro k x N g0 g1 g3 gm
    have e96 : N 96 = M 96 := g3.2.2 96 (by decide)
    have sgN : SG N := fun j hj => by rw [g3.2.2 95 (by decide)]; exact hsg j hj
    have hsb := scF_b (c := (effF (M 96) (M 96 0).toNat)) (fun q => effF_b ho _ q (by omega)) k
    refine AW.iload_n dX9_goesThrough_17 0 rfl rfl ?_
    refine AW.iconst dX9_goesThrough_18 ?_
    refine AW.aload_n dX9_goesThrough_19 1 rfl rfl ?_
    refine AW.getR dX9_goesThrough_20 fl_X9_13 (show sh 94 = (0, 9, [some 95, some 96, some 97, none, none, none, some 98, some 99, some 100, none, none, none, none, some 101, none, none, none, some 102, none, some 103, some 104, none, some 105, some 106, some 107, some 108]) from rfl) rfl ?_
    refine AW.iconst dX9_goesThrough_23 ?_
    refine AW.ialdN 0 dX9_goesThrough_24 (show sh 96 = (1, 59, []) from rfl) rfl (by decide) (by decide) ?_
    rw [e96]
    refine AW.ishl1 dX9_goesThrough_25 (by omega) ?_
    rw [hpw]
    refine AW.icmp_ge 115 dX9_goesThrough_26 (by decide) (by omega) (by omega) (fun c26 => ?_) (fun c26 => ?_)
    · exact AW.vret rfl dX9_goesThrough_115 (by rw [show (2 : Nat) ^ (M 96 0).toNat = k by omega]; exact g3)
    · refine AW.aload_n dX9_goesThrough_29 1 rfl rfl ?_
      refine AW.getR dX9_goesThrough_30 fl_X9_13 (show sh 94 = (0, 9, [some 95, some 96, some 97, none, none, none, some 98, some 99, some 100, none, none, none, none, some 101, none, none, none, some 102, none, some 103, some 104, none, some 105, some 106, some 107, some 108]) from rfl) rfl ?_
      refine AW.iconst dX9_goesThrough_33 ?_
      refine AW.ialdN 2 dX9_goesThrough_34 (show sh 96 = (1, 59, []) from rfl) rfl (by decide) (by decide) ?_
      refine AW.aload_n dX9_goesThrough_35 1 rfl rfl ?_
      refine AW.iload_n dX9_goesThrough_36 0 rfl rfl ?_
      refine AW.iconst dX9_goesThrough_37 ?_
      refine AW.callV2ip (C9_stepsL Γ N sgN (by rw [e96]; exact ho) _ _ k (by omega) (by omega) rfl) dX9_goesThrough_38 mc_X9_154 (show sh 94 = (0, 9, [some 95, some 96, some 97, none, none, none, some 98, some 99, some 100, none, none, none, none, some 101, none, none, none, some 102, none, some 103, some 104, none, some 105, some 106, some 107, some 108]) from rfl) (fun _ => rfl) ⟨Nat.le_of_ble_eq_true rfl, Nat.le_of_ble_eq_true rfl⟩ (Nat.le_of_ble_eq_true rfl) ?_
      refine AW.imul dX9_goesThrough_41 ?_
      refine AW.aload_n dX9_goesThrough_42 1 rfl rfl ?_
      refine AW.getR dX9_goesThrough_43 fl_X9_13 (show sh 94 = (0, 9, [some 95, some 96, some 97, none, none, none, some 98, some 99, some 100, none, none, none, none, some 101, none, none, none, some 102, none, some 103, some 104, none, some 105, some 106, some 107, some 108]) from rfl) rfl ?_
      refine AW.iconst dX9_goesThrough_46 ?_
      refine AW.ialdN 3 dX9_goesThrough_47 (show sh 96 = (1, 59, []) from rfl) rfl (by decide) (by decide) ?_
      refine AW.aload_n dX9_goesThrough_48 1 rfl rfl ?_
      refine AW.iload_n dX9_goesThrough_49 0 rfl rfl ?_
      refine AW.iconst dX9_goesThrough_50 ?_
      refine AW.callV2ip (C9_stepsR Γ N sgN (by rw [e96]; exact ho) _ _ k (by omega) (by omega) rfl) dX9_goesThrough_51 mc_X9_154 (show sh 94 = (0, 9, [some 95, some 96, some 97, none, none, none, some 98, some 99, some 100, none, none, none, none, some 101, none, none, none, some 102, none, some 103, some 104, none, some 105, some 106, some 107, some 108]) from rfl) (fun _ => rfl) ⟨Nat.le_of_ble_eq_true rfl, Nat.le_of_ble_eq_true rfl⟩ (Nat.le_of_ble_eq_true rfl) ?_
      refine AW.imul dX9_goesThrough_54 ?_
      refine AW.iadd dX9_goesThrough_55 ?_
      refine AW.top (fun ef eef => ?_)
      refine AW.istore_n [(2, vi ef), (1, vi x), (0, rf Γ 94)] dX9_goesThrough_56 rfl (by decide) rfl ?_
      have hef : ef = effF (M 96) (M 96 0).toNat k := by rw [eef, e96]; rfl
      have heb := effF_b ho (M 96 0).toNat k (by omega)
      refine AW.aload_n dX9_goesThrough_57 2 rfl rfl ?_
      refine AW.getI dX9_goesThrough_58 fl_X9_145 (show sh 94 = (0, 9, [some 95, some 96, some 97, none, none, none, some 98, some 99, some 100, none, none, none, none, some 101, none, none, none, some 102, none, some 103, some 104, none, some 105, some 106, some 107, some 108]) from rfl) rfl ?_
      rw [g3.1.1]
      refine AW.if_lt 72 dX9_goesThrough_61 (by decide) (by omega) (fun c61 => ?_) (fun c61 => ?_)
      · refine AW.aload_n dX9_goesThrough_72 2 rfl rfl ?_
        refine AW.iload_n dX9_goesThrough_73 0 rfl rfl ?_
        refine AW.putI dX9_goesThrough_74 fp_X9_145 (show sh 94 = (0, 9, [some 95, some 96, some 97, none, none, none, some 98, some 99, some 100, none, none, none, none, some 101, none, none, none, some 102, none, some 103, some 104, none, some 105, some 106, some 107, some 108]) from rfl) rfl ?_
        refine AW.aload_n dX9_goesThrough_77 2 rfl rfl ?_
        refine AW.iconst dX9_goesThrough_78 ?_
        refine AW.putI dX9_goesThrough_79 fp_X9_148 (show sh 94 = (0, 9, [some 95, some 96, some 97, none, none, none, some 98, some 99, some 100, none, none, none, none, some 101, none, none, none, some 102, none, some 103, some 104, none, some 105, some 106, some 107, some 108]) from rfl) rfl ?_
        refine AW.aload_n dX9_goesThrough_82 2 rfl rfl ?_
        refine AW.iload_n dX9_goesThrough_83 1 rfl rfl ?_
        refine AW.putI dX9_goesThrough_84 fp_X9_151 (show sh 94 = (0, 9, [some 95, some 96, some 97, none, none, none, some 98, some 99, some 100, none, none, none, none, some 101, none, none, none, some 102, none, some 103, some 104, none, some 105, some 106, some 107, some 108]) from rfl) rfl ?_
        refine AW.aload_n dX9_goesThrough_87 2 rfl rfl ?_
        refine AW.dup dX9_goesThrough_88 rfl ?_
        refine AW.getI dX9_goesThrough_89 fl_X9_148 (show sh 94 = (0, 9, [some 95, some 96, some 97, none, none, none, some 98, some 99, some 100, none, none, none, none, some 101, none, none, none, some 102, none, some 103, some 104, none, some 105, some 106, some 107, some 108]) from rfl) rfl ?_
        refine AW.iload_n dX9_goesThrough_92 0 rfl rfl ?_
        refine AW.aload_n dX9_goesThrough_93 2 rfl rfl ?_
        refine AW.getI dX9_goesThrough_94 fl_X9_145 (show sh 94 = (0, 9, [some 95, some 96, some 97, none, none, none, some 98, some 99, some 100, none, none, none, none, some 101, none, none, none, some 102, none, some 103, some 104, none, some 105, some 106, some 107, some 108]) from rfl) rfl ?_
        rw [up2_i (by decide), up2_i (by decide), up2_s]
        refine AW.icmp_ne 104 dX9_goesThrough_97 (by decide) (by omega) (by omega) (fun c97 => ?_) (fun c97 => ?_)
        · exfalso; omega
        · refine AW.iconst dX9_goesThrough_100 ?_
          refine AW.goto 105 dX9_goesThrough_101 (by decide) ?_
          refine AW.iadd dX9_goesThrough_105 ?_
          refine AW.putI dX9_goesThrough_106 fp_X9_148 (show sh 94 = (0, 9, [some 95, some 96, some 97, none, none, none, some 98, some 99, some 100, none, none, none, none, some 101, none, none, none, some 102, none, some 103, some 104, none, some 105, some 106, some 107, some 108]) from rfl) rfl ?_
          obtain ⟨x109, ex109⟩ : ∃ z : Int, x + 1 = z := ⟨_, rfl⟩
          refine AW.iinc [(1, vi x109), (2, vi ef), (0, rf Γ 94)] dX9_goesThrough_109 1 rfl (by decide) x109 ex109 rfl ?_
          refine AW.goto 17 dX9_goesThrough_112 (by decide) ?_
          refine AW.sub [0, 2] rfl ?_
          refine ih (k + 1) x109 _ (by omega) (by omega) ?_ (by omega)
          rw [scF_succ, if_pos (by omega), ← hef]
          exact ⟨⟨by rw [up2_i (by decide), up2_i (by decide), up2_i (by decide), up2_s], by rw [up2_s, up2_i (by decide), up2_s]; rfl, by rw [up2_i (by decide), up2_s]; exact g0⟩, fun j q1 q2 q3 => by rw [up2_i q2, up2_i q3, up2_i q2, up2_i q1]; exact g3.2.1 j q1 q2 q3, fun a q1 => by rw [up2_c q1, up2_c q1, up2_c q1, up2_c q1]; exact g3.2.2 a q1⟩
      · refine AW.iload_n dX9_goesThrough_64 0 rfl rfl ?_
        refine AW.aload_n dX9_goesThrough_65 2 rfl rfl ?_
        refine AW.getI dX9_goesThrough_66 fl_X9_145 (show sh 94 = (0, 9, [some 95, some 96, some 97, none, none, none, some 98, some 99, some 100, none, none, none, none, some 101, none, none, none, some 102, none, some 103, some 104, none, some 105, some 106, some 107, some 108]) from rfl) rfl ?_
        rw [g3.1.1]
        refine AW.icmp_ge 87 dX9_goesThrough_69 (by decide) (by omega) (by omega) (fun c69 => ?_) (fun c69 => ?_)
        · refine AW.aload_n dX9_goesThrough_87 2 rfl rfl ?_
          refine AW.dup dX9_goesThrough_88 rfl ?_
          refine AW.getI dX9_goesThrough_89 fl_X9_148 (show sh 94 = (0, 9, [some 95, some 96, some 97, none, none, none, some 98, some 99, some 100, none, none, none, none, some 101, none, none, none, some 102, none, some 103, some 104, none, some 105, some 106, some 107, some 108]) from rfl) rfl ?_
          refine AW.iload_n dX9_goesThrough_92 0 rfl rfl ?_
          refine AW.aload_n dX9_goesThrough_93 2 rfl rfl ?_
          refine AW.getI dX9_goesThrough_94 fl_X9_145 (show sh 94 = (0, 9, [some 95, some 96, some 97, none, none, none, some 98, some 99, some 100, none, none, none, none, some 101, none, none, none, some 102, none, some 103, some 104, none, some 105, some 106, some 107, some 108]) from rfl) rfl ?_
          rw [g3.1.1]
          refine AW.icmp_ne 104 dX9_goesThrough_97 (by decide) (by omega) (by omega) (fun c97 => ?_) (fun c97 => ?_)
          · refine AW.iconst dX9_goesThrough_104 ?_
            refine AW.iadd dX9_goesThrough_105 ?_
            refine AW.putI dX9_goesThrough_106 fp_X9_148 (show sh 94 = (0, 9, [some 95, some 96, some 97, none, none, none, some 98, some 99, some 100, none, none, none, none, some 101, none, none, none, some 102, none, some 103, some 104, none, some 105, some 106, some 107, some 108]) from rfl) rfl ?_
            obtain ⟨x109, ex109⟩ : ∃ z : Int, x + 1 = z := ⟨_, rfl⟩
            refine AW.iinc [(1, vi x109), (2, vi ef), (0, rf Γ 94)] dX9_goesThrough_109 1 rfl (by decide) x109 ex109 rfl ?_
            refine AW.goto 17 dX9_goesThrough_112 (by decide) ?_
            refine AW.sub [0, 2] rfl ?_
            refine ih (k + 1) x109 _ (by omega) (by omega) ?_ (by omega)
            rw [scF_succ, if_neg (by omega)]
            first
              | (rw [if_pos (by omega)]; exact ⟨⟨by rw [up2_i (by decide)]; exact g3.1.1, by rw [up2_s, g3.1.2.1], by rw [up2_i (by decide)]; exact g3.1.2.2⟩, fun j q1 q2 q3 => by rw [up2_i q2]; exact g3.2.1 j q1 q2 q3, fun a q1 => by rw [up2_c q1]; exact g3.2.2 a q1⟩)
              | (rw [if_neg (by omega)]; exact ⟨⟨by rw [up2_i (by decide)]; exact g3.1.1, by rw [up2_s, g3.1.2.1]; omega, by rw [up2_i (by decide)]; exact g3.1.2.2⟩, fun j q1 q2 q3 => by rw [up2_i q2]; exact g3.2.1 j q1 q2 q3, fun a q1 => by rw [up2_c q1]; exact g3.2.2 a q1⟩)
          · refine AW.iconst dX9_goesThrough_100 ?_
            refine AW.goto 105 dX9_goesThrough_101 (by decide) ?_
            refine AW.iadd dX9_goesThrough_105 ?_
            refine AW.putI dX9_goesThrough_106 fp_X9_148 (show sh 94 = (0, 9, [some 95, some 96, some 97, none, none, none, some 98, some 99, some 100, none, none, none, none, some 101, none, none, none, some 102, none, some 103, some 104, none, some 105, some 106, some 107, some 108]) from rfl) rfl ?_
            obtain ⟨x109, ex109⟩ : ∃ z : Int, x + 1 = z := ⟨_, rfl⟩
            refine AW.iinc [(1, vi x109), (2, vi ef), (0, rf Γ 94)] dX9_goesThrough_109 1 rfl (by decide) x109 ex109 rfl ?_
            refine AW.goto 17 dX9_goesThrough_112 (by decide) ?_
            refine AW.sub [0, 2] rfl ?_
            refine ih (k + 1) x109 _ (by omega) (by omega) ?_ (by omega)
            rw [scF_succ, if_neg (by omega)]
            first
              | (rw [if_pos (by omega)]; exact ⟨⟨by rw [up2_i (by decide)]; exact g3.1.1, by rw [up2_s, g3.1.2.1], by rw [up2_i (by decide)]; exact g3.1.2.2⟩, fun j q1 q2 q3 => by rw [up2_i q2]; exact g3.2.1 j q1 q2 q3, fun a q1 => by rw [up2_c q1]; exact g3.2.2 a q1⟩)
              | (rw [if_neg (by omega)]; exact ⟨⟨by rw [up2_i (by decide)]; exact g3.1.1, by rw [up2_s, g3.1.2.1]; omega, by rw [up2_i (by decide)]; exact g3.1.2.2⟩, fun j q1 q2 q3 => by rw [up2_i q2]; exact g3.2.1 j q1 q2 q3, fun a q1 => by rw [up2_c q1]; exact g3.2.2 a q1⟩)
        · refine AW.aload_n dX9_goesThrough_72 2 rfl rfl ?_
          refine AW.iload_n dX9_goesThrough_73 0 rfl rfl ?_
          refine AW.putI dX9_goesThrough_74 fp_X9_145 (show sh 94 = (0, 9, [some 95, some 96, some 97, none, none, none, some 98, some 99, some 100, none, none, none, none, some 101, none, none, none, some 102, none, some 103, some 104, none, some 105, some 106, some 107, some 108]) from rfl) rfl ?_
          refine AW.aload_n dX9_goesThrough_77 2 rfl rfl ?_
          refine AW.iconst dX9_goesThrough_78 ?_
          refine AW.putI dX9_goesThrough_79 fp_X9_148 (show sh 94 = (0, 9, [some 95, some 96, some 97, none, none, none, some 98, some 99, some 100, none, none, none, none, some 101, none, none, none, some 102, none, some 103, some 104, none, some 105, some 106, some 107, some 108]) from rfl) rfl ?_
          refine AW.aload_n dX9_goesThrough_82 2 rfl rfl ?_
          refine AW.iload_n dX9_goesThrough_83 1 rfl rfl ?_
          refine AW.putI dX9_goesThrough_84 fp_X9_151 (show sh 94 = (0, 9, [some 95, some 96, some 97, none, none, none, some 98, some 99, some 100, none, none, none, none, some 101, none, none, none, some 102, none, some 103, some 104, none, some 105, some 106, some 107, some 108]) from rfl) rfl ?_
          refine AW.aload_n dX9_goesThrough_87 2 rfl rfl ?_
          refine AW.dup dX9_goesThrough_88 rfl ?_
          refine AW.getI dX9_goesThrough_89 fl_X9_148 (show sh 94 = (0, 9, [some 95, some 96, some 97, none, none, none, some 98, some 99, some 100, none, none, none, none, some 101, none, none, none, some 102, none, some 103, some 104, none, some 105, some 106, some 107, some 108]) from rfl) rfl ?_
          refine AW.iload_n dX9_goesThrough_92 0 rfl rfl ?_
          refine AW.aload_n dX9_goesThrough_93 2 rfl rfl ?_
          refine AW.getI dX9_goesThrough_94 fl_X9_145 (show sh 94 = (0, 9, [some 95, some 96, some 97, none, none, none, some 98, some 99, some 100, none, none, none, none, some 101, none, none, none, some 102, none, some 103, some 104, none, some 105, some 106, some 107, some 108]) from rfl) rfl ?_
          rw [up2_i (by decide), up2_i (by decide), up2_s]
          refine AW.icmp_ne 104 dX9_goesThrough_97 (by decide) (by omega) (by omega) (fun c97 => ?_) (fun c97 => ?_)
          · exfalso; omega
          · refine AW.iconst dX9_goesThrough_100 ?_
            refine AW.goto 105 dX9_goesThrough_101 (by decide) ?_
            refine AW.iadd dX9_goesThrough_105 ?_
            refine AW.putI dX9_goesThrough_106 fp_X9_148 (show sh 94 = (0, 9, [some 95, some 96, some 97, none, none, none, some 98, some 99, some 100, none, none, none, none, some 101, none, none, none, some 102, none, some 103, some 104, none, some 105, some 106, some 107, some 108]) from rfl) rfl ?_
            obtain ⟨x109, ex109⟩ : ∃ z : Int, x + 1 = z := ⟨_, rfl⟩
            refine AW.iinc [(1, vi x109), (2, vi ef), (0, rf Γ 94)] dX9_goesThrough_109 1 rfl (by decide) x109 ex109 rfl ?_
            refine AW.goto 17 dX9_goesThrough_112 (by decide) ?_
            refine AW.sub [0, 2] rfl ?_
            refine ih (k + 1) x109 _ (by omega) (by omega) ?_ (by omega)
            rw [scF_succ, if_pos (by omega), ← hef]
            exact ⟨⟨by rw [up2_i (by decide), up2_i (by decide), up2_i (by decide), up2_s], by rw [up2_s, up2_i (by decide), up2_s]; rfl, by rw [up2_i (by decide), up2_s]; exact g0⟩, fun j q1 q2 q3 => by rw [up2_i q2, up2_i q3, up2_i q2, up2_i q1]; exact g3.2.1 j q1 q2 q3, fun a q1 => by rw [up2_c q1, up2_c q1, up2_c q1, up2_c q1]; exact g3.2.2 a q1⟩

set_option maxRecDepth 20000 in
theorem C9_goes (Γ : GC) (M : Mm) (hsg : SG M) (ho : OkR (M 96)) : Ct Γ uX9_goesThrough [rf Γ 94] M (fun _ M' => gtP M M' (EF (M 96) (M 96 0).toNat (M 96 0).toNat 0, WF (M 96) (M 96 0).toNat (M 96 0).toNat 0, KF (M 96) (M 96 0).toNat (M 96 0).toNat 0)) := by
  refine Ct.of (by decide) (Nat.le_of_ble_eq_true rfl) ?_
  show AW Γ uX9_goesThrough 0 [(0, rf Γ 94)] [] M _
  have hres : scF (effF (M 96) (M 96 0).toNat) (2 ^ (M 96 0).toNat) = (EF (M 96) (M 96 0).toNat (M 96 0).toNat 0, WF (M 96) (M 96 0).toNat (M 96 0).toNat 0, KF (M 96) (M 96 0).toNat (M 96 0).toNat 0) := by rw [← scF_CF ho]; exact scF_congr _ (fun k hk => effF_CF (M 96) _ k hk)
  rw [← hres]
  refine AW.aload_n dX9_goesThrough_0 0 rfl rfl ?_
  refine AW.iconst dX9_goesThrough_1 ?_
  refine AW.putI dX9_goesThrough_2 fp_X9_145 (show sh 94 = (0, 9, [some 95, some 96, some 97, none, none, none, some 98, some 99, some 100, none, none, none, none, some 101, none, none, none, some 102, none, some 103, some 104, none, some 105, some 106, some 107, some 108]) from rfl) rfl ?_
  refine AW.aload_n dX9_goesThrough_5 0 rfl rfl ?_
  refine AW.iconst dX9_goesThrough_6 ?_
  refine AW.putI dX9_goesThrough_7 fp_X9_148 (show sh 94 = (0, 9, [some 95, some 96, some 97, none, none, none, some 98, some 99, some 100, none, none, none, none, some 101, none, none, none, some 102, none, some 103, some 104, none, some 105, some 106, some 107, some 108]) from rfl) rfl ?_
  refine AW.aload_n dX9_goesThrough_10 0 rfl rfl ?_
  refine AW.iconst dX9_goesThrough_11 ?_
  refine AW.putI dX9_goesThrough_12 fp_X9_151 (show sh 94 = (0, 9, [some 95, some 96, some 97, none, none, none, some 98, some 99, some 100, none, none, none, none, some 101, none, none, none, some 102, none, some 103, some 104, none, some 105, some 106, some 107, some 108]) from rfl) rfl ?_
  refine AW.iconst dX9_goesThrough_15 ?_
  refine AW.top (fun x16 ex16 => ?_)
  refine AW.istore_n [(1, vi x16), (0, rf Γ 94)] dX9_goesThrough_16 rfl (by decide) rfl ?_
  refine AW.sub [0, 1] rfl ?_
  exact goes_loop Γ M hsg ho 4098 0 x16 _ (by omega) (Nat.zero_le _) ⟨⟨by rw [up2_i (by decide), up2_i (by decide), up2_s]; rfl, by rw [up2_i (by decide), up2_s]; rfl, by rw [up2_s]; rfl⟩, fun j b1 b2 b3 => by rw [up2_i b3, up2_i b2, up2_i b1], fun a ha => by rw [up2_c ha, up2_c ha, up2_c ha]⟩ (by omega)
