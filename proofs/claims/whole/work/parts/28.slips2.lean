/-! slips by which a word is still nearest -/
/-- the sight has the message, but for place i -/
def sgt (r : Nat → Int) (i : Nat) (N : Mm) : Prop := N 76 2 = r 0 ∧ ∀ j : Nat, (j : Int) < r 0 → j ≠ i → N 77 j = mLo r j ∧ N 78 j = mHi r j
theorem sgt.near {r : Nat → Int} {i : Nat} {N : Mm} (h : sgt r i N) (p q : Int) : nearF (up2 (up2 N 77 i p) 78 i q 77) (up2 (up2 N 77 i p) 78 i q 78) r (r 0) = nearF (up1 (mLo r) i p) (up1 (mHi r) i q) r (r 0) := by
  refine nearF_congr (fun j hj => ?_)
  rw [up2_c (by decide)]
  by_cases hji : j = i
  · subst hji; rw [up2_s, up2_s]; simp [up1]
  · rw [up2_i hji, up2_i hji, up2_c (by decide)]
    simp only [up1]; rw [if_neg hji, if_neg hji]; exact h.2 j hj hji

set_option maxRecDepth 20000 in
theorem C_tellsAt (Γ : GC) (N : Mm) (r : Nat → Int) (ho : OkR r) (hr : stRel N 1 r) (x : Int) (i : Nat) (hx : x = i) (hi : (i : Int) < r 0) (hs : sgt r i N) (p q : Int) (hp : D8 p) (hq : D8 q) (wd : Int) (hw : R32 wd) : Ct Γ uX8_tellsAt [rf Γ 0, vi x, vi p, vi q, vi wd] N (fun z M' => z = bI (decide ((nearF (up1 (mLo r) i p) (up1 (mHi r) i q) r (r 0)).1 = wd ∧ (nearF (up1 (mLo r) i p) (up1 (mHi r) i q) r (r 0)).2.2 = 1)) ∧ sgt r i M' ∧ ∀ a : Nat, a ≠ 76 → a ≠ 77 → a ≠ 78 → M' a = N a) := by
  have hb0 := ho.1
  refine Ct.of (by decide) (Nat.le_of_ble_eq_true rfl) ?_
  show AW Γ uX8_tellsAt 0 [(0, rf Γ 0), (1, vi x), (2, vi p), (3, vi q), (4, vi wd)] [] N _
  refine AW.aload_n dX8_tellsAt_0 0 rfl rfl ?_
  refine AW.getR dX8_tellsAt_1 fl_X8_53 (show sh 0 = (0, 8, [some 1, some 5, some 31, some 35, none, some 61, some 65, some 71, some 76, some 79, some 83, some 85]) from rfl) rfl ?_
  refine AW.iload_n dX8_tellsAt_4 1 rfl rfl ?_
  refine AW.iload_n dX8_tellsAt_5 2 rfl rfl ?_
  refine AW.iload_n dX8_tellsAt_6 3 rfl rfl ?_
  refine AW.callV3v (C_put Γ N x i (by omega) (by omega) p q) dX8_tellsAt_7 mc_X8_305 (show sh 76 = (0, 4, [some 77, some 78, none, none, none, none]) from rfl) (fun _ => rfl) ⟨Nat.le_of_ble_eq_true rfl, Nat.le_of_ble_eq_true rfl⟩ (Nat.le_of_ble_eq_true rfl) (fun z7 M7 h7 => ?_)
  subst h7
  have s2 : (up2 (up2 N 77 i p) 78 i q) 76 2 = r 0 := by rw [up2_c (by decide), up2_c (by decide)]; exact hs.1
  have b1 : D8s ((up2 (up2 N 77 i p) 78 i q) 77) (r 0) := fun j hj => by
    rw [up2_c (by decide)]
    by_cases hji : j = i
    · subst hji; rw [up2_s]; exact hp
    · rw [up2_i hji, (hs.2 j hj hji).1]; exact tl_b _
  have b2 : D8s ((up2 (up2 N 77 i p) 78 i q) 78) (r 0) := fun j hj => by
    by_cases hji : j = i
    · subst hji; rw [up2_s]; exact hq
    · rw [up2_i hji, up2_c (by decide), (hs.2 j hj hji).2]; exact tg_b _
  have s1 : stRel (up2 (up2 N 77 i p) 78 i q) 1 r := hr.frame (by rw [up2_c (by decide), up2_c (by decide)]) (by rw [up2_c (by decide), up2_c (by decide)]) (by rw [up2_c (by decide), up2_c (by decide)]) (by rw [up2_c (by decide), up2_c (by decide)])
  refine AW.aload_n dX8_tellsAt_10 0 rfl rfl ?_
  refine AW.getR dX8_tellsAt_11 fl_X8_53 (show sh 0 = (0, 8, [some 1, some 5, some 31, some 35, none, some 61, some 65, some 71, some 76, some 79, some 83, some 85]) from rfl) rfl ?_
  refine AW.aload_n dX8_tellsAt_14 0 rfl rfl ?_
  refine AW.getR dX8_tellsAt_15 fl_X8_10 (show sh 0 = (0, 8, [some 1, some 5, some 31, some 35, none, some 61, some 65, some 71, some 76, some 79, some 83, some 85]) from rfl) rfl ?_
  refine AW.callV1v (C_compare Γ _ 1 st1 (by decide) r ho s1 (by rw [s2]; exact ho.1) (by rw [s2]; exact b1) (by rw [s2]; exact b2)) dX8_tellsAt_18 mc_X8_196 (show sh 76 = (0, 4, [some 77, some 78, none, none, none, none]) from rfl) (fun _ => rfl) ⟨Nat.le_of_ble_eq_true rfl, Nat.le_of_ble_eq_true rfl⟩ (Nat.le_of_ble_eq_true rfl) (fun z18 M18 h18 => ?_)
  rw [s2, hs.near] at h18
  obtain ⟨⟨e1, e2, e3⟩, e4, e5⟩ := h18
  have nb := nearF_b (lo := up1 (mLo r) i p) (hi := up1 (mHi r) i q) (r := r) (m := r 0) (fun j hj => by simp only [up1]; split; exact hp; exact tl_b _) (fun j hj => by simp only [up1]; split; exact hq; exact tg_b _) ho.1
  have o1 := ho.2.1
  refine AW.aload_n dX8_tellsAt_21 0 rfl rfl ?_
  refine AW.getR dX8_tellsAt_22 fl_X8_53 (show sh 0 = (0, 8, [some 1, some 5, some 31, some 35, none, some 61, some 65, some 71, some 76, some 79, some 83, some 85]) from rfl) rfl ?_
  refine AW.getI dX8_tellsAt_25 fl_X8_199 (show sh 76 = (0, 4, [some 77, some 78, none, none, none, none]) from rfl) rfl ?_
  refine AW.iload dX8_tellsAt_28 4 rfl ?_
  rw [e1]
  refine AW.icmp_ne 47 dX8_tellsAt_30 (by decide) (by omega) (by omega) (fun c30 => ?_) (fun c30 => ?_)
  · refine AW.iconst dX8_tellsAt_47 ?_
    exact AW.iret rfl dX8_tellsAt_48 ⟨by first | rw [bI_t (by omega)] | rw [bI_f (by omega)], ⟨⟨by rw [e4 2 (by decide) (by decide) (by decide)]; exact s2, fun j hj hji => by rw [e5 77 (by decide), e5 78 (by decide), up2_c (by decide), up2_i hji, up2_i hji, up2_c (by decide)]; exact hs.2 j hj hji⟩, fun a q1 q2 q3 => by rw [e5 a q1, up2_c q3, up2_c q2]⟩⟩
  · refine AW.aload_n dX8_tellsAt_33 0 rfl rfl ?_
    refine AW.getR dX8_tellsAt_34 fl_X8_53 (show sh 0 = (0, 8, [some 1, some 5, some 31, some 35, none, some 61, some 65, some 71, some 76, some 79, some 83, some 85]) from rfl) rfl ?_
    refine AW.getI dX8_tellsAt_37 fl_X8_205 (show sh 76 = (0, 4, [some 77, some 78, none, none, none, none]) from rfl) rfl ?_
    rw [e3]
    refine AW.if_eq 47 dX8_tellsAt_40 (by decide) (by omega) (fun c40 => ?_) (fun c40 => ?_)
    · refine AW.iconst dX8_tellsAt_47 ?_
      exact AW.iret rfl dX8_tellsAt_48 ⟨by first | rw [bI_t (by omega)] | rw [bI_f (by omega)], ⟨⟨by rw [e4 2 (by decide) (by decide) (by decide)]; exact s2, fun j hj hji => by rw [e5 77 (by decide), e5 78 (by decide), up2_c (by decide), up2_i hji, up2_i hji, up2_c (by decide)]; exact hs.2 j hj hji⟩, fun a q1 q2 q3 => by rw [e5 a q1, up2_c q3, up2_c q2]⟩⟩
    · refine AW.iconst dX8_tellsAt_43 ?_
      refine AW.goto 48 dX8_tellsAt_44 (by decide) ?_
      exact AW.iret rfl dX8_tellsAt_48 ⟨by first | rw [bI_t (by omega)] | rw [bI_f (by omega)], ⟨⟨by rw [e4 2 (by decide) (by decide) (by decide)]; exact s2, fun j hj hji => by rw [e5 77 (by decide), e5 78 (by decide), up2_c (by decide), up2_i hji, up2_i hji, up2_c (by decide)]; exact hs.2 j hj hji⟩, fun a q1 q2 q3 => by rw [e5 a q1, up2_c q3, up2_c q2]⟩⟩

set_option maxRecDepth 20000 in
theorem slipsN_loop (Γ : GC) (M : Mm) (r : Nat → Int) (ho : OkR r) (hr : stRel M 1 r) (wd : Int) (hw : R32 wd) : ∀ (n i : Nat) (x f : Int) (N : Mm), x = i → (i : Int) ≤ r 0 → f = sum4 (slN r wd) i → N 76 2 = r 0 → (∀ j : Nat, (j : Int) < r 0 → N 77 j = mLo r j ∧ N 78 j = mHi r j) → (∀ a : Nat, a ≠ 76 → a ≠ 77 → a ≠ 78 → N a = M a) → 12 - i < n → AW Γ uX8_slipsStillNearest 42 [(3, vi x), (2, vi f), (1, vi wd), (0, rf Γ 0)] [] N (fun z M' => z = sum4 (slN r wd) (r 0).toNat ∧ ∀ a : Nat, a ≠ 76 → a ≠ 77 → a ≠ 78 → M' a = M a) := by
  obtain ⟨h1, h2, h3, h4, h5, h6, h7⟩ := st1u hr
  obtain ⟨o0, o1, o2, o3, o4, o5, o6⟩ := id ho
  intro n
  induction n with
  | zero => intro i x f N g0 g1 g2 g3 g4 g5 gm; omega
  | succ n ih =>
    intro i x f N g0 g1 g2 g3 g4 g5 gm
    have hl : (i : Int) < r 0 → 0 ≤ r (5 + i) ∧ r (5 + i) < 26 := o5 i
    have hrN : stRel N 1 r := hr.frame (g5 _ (by decide) (by decide) (by decide)) (g5 _ (by decide) (by decide) (by decide)) (g5 _ (by decide) (by decide) (by decide)) (g5 _ (by decide) (by decide) (by decide))
    refine AW.iload_n dX8_slipsStillNearest_42 0 rfl rfl ?_
    refine AW.aload_n dX8_slipsStillNearest_43 3 rfl rfl ?_
    refine AW.getR dX8_slipsStillNearest_44 fl_X8_10 (show sh 0 = (0, 8, [some 1, some 5, some 31, some 35, none, some 61, some 65, some 71, some 76, some 79, some 83, some 85]) from rfl) rfl ?_
    refine AW.getI dX8_slipsStillNearest_47 fl_X8_137 (show sh 1 = (0, 5, [some 2, none, some 3, some 4, none, none, none, none]) from rfl) rfl ?_
    rw [g5 1 (by decide) (by decide) (by decide)]
    refine AW.icmp_ge 161 dX8_slipsStillNearest_50 (by decide) (by omega) (by omega) (fun c50 => ?_) (fun c50 => ?_)
    · refine AW.iload_n dX8_slipsStillNearest_161 1 rfl rfl ?_
      exact AW.iret rfl dX8_slipsStillNearest_162 ⟨by rw [g2, show i = (r 0).toNat by omega], fun a q1 q2 q3 => g5 a q1 q2 q3⟩
    · refine AW.getsL dX8_slipsStillNearest_53 gs_X8_82 ?_
      refine AW.aload_n dX8_slipsStillNearest_56 3 rfl rfl ?_
      refine AW.getR dX8_slipsStillNearest_57 fl_X8_10 (show sh 0 = (0, 8, [some 1, some 5, some 31, some 35, none, some 61, some 65, some 71, some 76, some 79, some 83, some 85]) from rfl) rfl ?_
      refine AW.getR dX8_slipsStillNearest_60 fl_X8_141 (show sh 1 = (0, 5, [some 2, none, some 3, some 4, none, none, none, none]) from rfl) rfl ?_
      refine AW.iload_n dX8_slipsStillNearest_63 0 rfl rfl ?_
      refine AW.ialdN i dX8_slipsStillNearest_64 (show sh 2 = (1, 12, []) from rfl) (by omega) (by omega) (by decide) ?_
      rw [g5 2 (by decide) (by decide) (by decide), h6 i (by omega)]
      refine AW.taldLN ((r (5 + i)).toNat) dX8_slipsStillNearest_65 (by omega) (by omega) ?_
      refine AW.top (fun p ep => ?_)
      refine AW.istore [(4, vi p), (3, vi x), (2, vi f), (1, vi wd), (0, rf Γ 0)] dX8_slipsStillNearest_66 (by decide) rfl ?_
      refine AW.getsG dX8_slipsStillNearest_68 gs_X8_86 ?_
      refine AW.aload_n dX8_slipsStillNearest_71 4 rfl rfl ?_
      refine AW.getR dX8_slipsStillNearest_72 fl_X8_10 (show sh 0 = (0, 8, [some 1, some 5, some 31, some 35, none, some 61, some 65, some 71, some 76, some 79, some 83, some 85]) from rfl) rfl ?_
      refine AW.getR dX8_slipsStillNearest_75 fl_X8_141 (show sh 1 = (0, 5, [some 2, none, some 3, some 4, none, none, none, none]) from rfl) rfl ?_
      refine AW.iload_n dX8_slipsStillNearest_78 1 rfl rfl ?_
      refine AW.ialdN i dX8_slipsStillNearest_79 (show sh 2 = (1, 12, []) from rfl) (by omega) (by omega) (by decide) ?_
      rw [g5 2 (by decide) (by decide) (by decide), h6 i (by omega)]
      refine AW.taldGN ((r (5 + i)).toNat) dX8_slipsStillNearest_80 (by omega) (by omega) ?_
      refine AW.top (fun q eq => ?_)
      refine AW.istore [(5, vi q), (4, vi p), (3, vi x), (2, vi f), (1, vi wd), (0, rf Γ 0)] dX8_slipsStillNearest_81 (by decide) rfl ?_
      have hp : D8 p := by rw [ep]; exact tl_b _
      have hq : D8 q := by rw [eq]; exact tg_b _
      have hp1 : D8 ((p + 1) % 8) := ⟨by omega, by omega⟩
      have hp7 : D8 ((p + 7) % 8) := ⟨by omega, by omega⟩
      have hq1 : D8 ((q + 1) % 8) := ⟨by omega, by omega⟩
      have hq7 : D8 ((q + 7) % 8) := ⟨by omega, by omega⟩
      have s0 : sgt r i N := ⟨g3, fun j hj _ => g4 j hj⟩
      refine AW.iload_n dX8_slipsStillNearest_83 3 rfl rfl ?_
      refine AW.aload_n dX8_slipsStillNearest_84 5 rfl rfl ?_
      refine AW.iload_n dX8_slipsStillNearest_85 2 rfl rfl ?_
      refine AW.iload dX8_slipsStillNearest_86 1 rfl ?_
      refine AW.callS1ip (C_oneOn Γ _ _ (by assumption)) dX8_slipsStillNearest_88 mc_X8_293 (fun _ => rfl) ⟨Nat.le_of_ble_eq_true rfl, Nat.le_of_ble_eq_true rfl⟩ (Nat.le_of_ble_eq_true rfl) ?_
      refine AW.iload dX8_slipsStillNearest_91 0 rfl ?_
      refine AW.iload_n dX8_slipsStillNearest_93 4 rfl rfl ?_
      refine AW.callV4i (C_tellsAt Γ _ r ho hrN x i (by omega) (by omega) s0 _ _ (by assumption) (by assumption) wd hw) dX8_slipsStillNearest_94 mc_X8_302 (show sh 0 = (0, 8, [some 1, some 5, some 31, some 35, none, some 61, some 65, some 71, some 76, some 79, some 83, some 85]) from rfl) (fun _ => rfl) ⟨Nat.le_of_ble_eq_true rfl, Nat.le_of_ble_eq_true rfl⟩ (Nat.le_of_ble_eq_true rfl) (fun z94 M94 h94 => ?_)
      obtain ⟨z94e, s94, f94⟩ := h94
      have r94 : stRel M94 1 r := (hrN).frame (f94 _ (by decide) (by decide) (by decide)) (f94 _ (by decide) (by decide) (by decide)) (f94 _ (by decide) (by decide) (by decide)) (f94 _ (by decide) (by decide) (by decide))
      refine AW.aload_n dX8_slipsStillNearest_97 5 rfl rfl ?_
      refine AW.iload_n dX8_slipsStillNearest_98 2 rfl rfl ?_
      refine AW.iload dX8_slipsStillNearest_99 1 rfl ?_
      refine AW.callS1ip (C_oneBack Γ _ _ (by assumption)) dX8_slipsStillNearest_101 mc_X8_299 (fun _ => rfl) ⟨Nat.le_of_ble_eq_true rfl, Nat.le_of_ble_eq_true rfl⟩ (Nat.le_of_ble_eq_true rfl) ?_
      refine AW.iload dX8_slipsStillNearest_104 0 rfl ?_
      refine AW.iload_n dX8_slipsStillNearest_106 4 rfl rfl ?_
      refine AW.callV4i (C_tellsAt Γ _ r ho r94 x i (by omega) (by omega) s94 _ _ (by assumption) (by assumption) wd hw) dX8_slipsStillNearest_107 mc_X8_302 (show sh 0 = (0, 8, [some 1, some 5, some 31, some 35, none, some 61, some 65, some 71, some 76, some 79, some 83, some 85]) from rfl) (fun _ => rfl) ⟨Nat.le_of_ble_eq_true rfl, Nat.le_of_ble_eq_true rfl⟩ (Nat.le_of_ble_eq_true rfl) (fun z107 M107 h107 => ?_)
      obtain ⟨z107e, s107, f107⟩ := h107
      have r107 : stRel M107 1 r := (r94).frame (f107 _ (by decide) (by decide) (by decide)) (f107 _ (by decide) (by decide) (by decide)) (f107 _ (by decide) (by decide) (by decide)) (f107 _ (by decide) (by decide) (by decide))
      refine AW.iadd dX8_slipsStillNearest_110 ?_
      refine AW.iadd dX8_slipsStillNearest_111 ?_
      refine AW.top (fun f1 ef1 => ?_)
      refine AW.istore_n [(2, vi f1), (5, vi q), (4, vi p), (3, vi x), (1, vi wd), (0, rf Γ 0)] dX8_slipsStillNearest_112 rfl (by decide) rfl ?_
      refine AW.iload_n dX8_slipsStillNearest_113 0 rfl rfl ?_
      refine AW.aload_n dX8_slipsStillNearest_114 5 rfl rfl ?_
      refine AW.iload_n dX8_slipsStillNearest_115 3 rfl rfl ?_
      refine AW.iload dX8_slipsStillNearest_116 2 rfl ?_
      refine AW.iload dX8_slipsStillNearest_118 1 rfl ?_
      refine AW.callS1ip (C_oneOn Γ _ _ (by assumption)) dX8_slipsStillNearest_120 mc_X8_293 (fun _ => rfl) ⟨Nat.le_of_ble_eq_true rfl, Nat.le_of_ble_eq_true rfl⟩ (Nat.le_of_ble_eq_true rfl) ?_
      refine AW.iload_n dX8_slipsStillNearest_123 4 rfl rfl ?_
      refine AW.callV4i (C_tellsAt Γ _ r ho r107 x i (by omega) (by omega) s107 _ _ (by assumption) (by assumption) wd hw) dX8_slipsStillNearest_124 mc_X8_302 (show sh 0 = (0, 8, [some 1, some 5, some 31, some 35, none, some 61, some 65, some 71, some 76, some 79, some 83, some 85]) from rfl) (fun _ => rfl) ⟨Nat.le_of_ble_eq_true rfl, Nat.le_of_ble_eq_true rfl⟩ (Nat.le_of_ble_eq_true rfl) (fun z124 M124 h124 => ?_)
      obtain ⟨z124e, s124, f124⟩ := h124
      have r124 : stRel M124 1 r := (r107).frame (f124 _ (by decide) (by decide) (by decide)) (f124 _ (by decide) (by decide) (by decide)) (f124 _ (by decide) (by decide) (by decide)) (f124 _ (by decide) (by decide) (by decide))
      refine AW.aload_n dX8_slipsStillNearest_127 5 rfl rfl ?_
      refine AW.iload_n dX8_slipsStillNearest_128 3 rfl rfl ?_
      refine AW.iload dX8_slipsStillNearest_129 2 rfl ?_
      refine AW.iload dX8_slipsStillNearest_131 1 rfl ?_
      refine AW.callS1ip (C_oneBack Γ _ _ (by assumption)) dX8_slipsStillNearest_133 mc_X8_299 (fun _ => rfl) ⟨Nat.le_of_ble_eq_true rfl, Nat.le_of_ble_eq_true rfl⟩ (Nat.le_of_ble_eq_true rfl) ?_
      refine AW.iload_n dX8_slipsStillNearest_136 4 rfl rfl ?_
      refine AW.callV4i (C_tellsAt Γ _ r ho r124 x i (by omega) (by omega) s124 _ _ (by assumption) (by assumption) wd hw) dX8_slipsStillNearest_137 mc_X8_302 (show sh 0 = (0, 8, [some 1, some 5, some 31, some 35, none, some 61, some 65, some 71, some 76, some 79, some 83, some 85]) from rfl) (fun _ => rfl) ⟨Nat.le_of_ble_eq_true rfl, Nat.le_of_ble_eq_true rfl⟩ (Nat.le_of_ble_eq_true rfl) (fun z137 M137 h137 => ?_)
      obtain ⟨z137e, s137, f137⟩ := h137
      have r137 : stRel M137 1 r := (r124).frame (f137 _ (by decide) (by decide) (by decide)) (f137 _ (by decide) (by decide) (by decide)) (f137 _ (by decide) (by decide) (by decide)) (f137 _ (by decide) (by decide) (by decide))
      refine AW.iadd dX8_slipsStillNearest_140 ?_
      refine AW.iadd dX8_slipsStillNearest_141 ?_
      refine AW.top (fun f2 ef2 => ?_)
      refine AW.istore_n [(2, vi f2), (5, vi q), (4, vi p), (3, vi x), (1, vi wd), (0, rf Γ 0)] dX8_slipsStillNearest_142 rfl (by decide) rfl ?_
      refine AW.aload_n dX8_slipsStillNearest_143 5 rfl rfl ?_
      refine AW.getR dX8_slipsStillNearest_144 fl_X8_53 (show sh 0 = (0, 8, [some 1, some 5, some 31, some 35, none, some 61, some 65, some 71, some 76, some 79, some 83, some 85]) from rfl) rfl ?_
      refine AW.iload_n dX8_slipsStillNearest_147 3 rfl rfl ?_
      refine AW.iload dX8_slipsStillNearest_148 2 rfl ?_
      refine AW.iload dX8_slipsStillNearest_150 1 rfl ?_
      refine AW.callV3v (C_put Γ _ x i (by omega) (by omega) p q) dX8_slipsStillNearest_152 mc_X8_305 (show sh 76 = (0, 4, [some 77, some 78, none, none, none, none]) from rfl) (fun _ => rfl) ⟨Nat.le_of_ble_eq_true rfl, Nat.le_of_ble_eq_true rfl⟩ (Nat.le_of_ble_eq_true rfl) (fun z152 M152 h152 => ?_)
      subst h152
      obtain ⟨x155, ex155⟩ : ∃ z : Int, x + 1 = z := ⟨_, rfl⟩
      refine AW.iinc [(3, vi x155), (2, vi f2), (5, vi q), (4, vi p), (1, vi wd), (0, rf Γ 0)] dX8_slipsStillNearest_155 3 rfl (by decide) x155 ex155 rfl ?_
      refine AW.goto 42 dX8_slipsStillNearest_158 (by decide) ?_
      refine AW.sub [0, 1, 4, 5] rfl ?_
      refine ih (i + 1) x155 f2 _ (by omega) (by omega) ?_ (by rw [up2_c (by decide), up2_c (by decide)]; exact s137.1) (fun j hj => ?_) (fun a q1 q2 q3 => by rw [up2_c q3, up2_c q2, f137 a q1 q2 q3, f124 a q1 q2 q3, f107 a q1 q2 q3, f94 a q1 q2 q3]; exact g5 a q1 q2 q3) (by omega)
      · rw [ef2, ef1, g2]
        simp only [sum4, slN, svP, svQ]
        rw [z94e, z107e, z124e, z137e, ep, eq]
        simp [mLo, mHi]
        omega
      · rw [up2_c (by decide)]
        by_cases hji : j = i
        · subst hji; rw [up2_s, up2_s, ep, eq]; exact ⟨rfl, rfl⟩
        · rw [up2_i hji, up2_i hji, up2_c (by decide)]; exact s137.2 j hj hji

set_option maxRecDepth 20000 in
theorem C_slipsStill (Γ : GC) (M : Mm) (r : Nat → Int) (ho : OkR r) (hr : stRel M 1 r) : Ct Γ uX8_slipsStillNearest [rf Γ 0] M (fun z M' => z = (if (nearF (mLo r) (mHi r) r (r 0)).1 = -4 then 0 else sum4 (slN r (nearF (mLo r) (mHi r) r (r 0)).1) (r 0).toNat) ∧ ∀ a : Nat, a ≠ 76 → a ≠ 77 → a ≠ 78 → M' a = M a) := by
  refine Ct.of (by decide) (Nat.le_of_ble_eq_true rfl) ?_
  show AW Γ uX8_slipsStillNearest 0 [(0, rf Γ 0)] [] M _
  refine AW.aload_n dX8_slipsStillNearest_0 0 rfl rfl ?_
  refine AW.getR dX8_slipsStillNearest_1 fl_X8_53 (show sh 0 = (0, 8, [some 1, some 5, some 31, some 35, none, some 61, some 65, some 71, some 76, some 79, some 83, some 85]) from rfl) rfl ?_
  refine AW.aload_n dX8_slipsStillNearest_4 0 rfl rfl ?_
  refine AW.getR dX8_slipsStillNearest_5 fl_X8_10 (show sh 0 = (0, 8, [some 1, some 5, some 31, some 35, none, some 61, some 65, some 71, some 76, some 79, some 83, some 85]) from rfl) rfl ?_
  refine AW.callV1v (C_seeMessage Γ M 1 st1 (by decide) r ho hr) dX8_slipsStillNearest_8 mc_X8_193 (show sh 76 = (0, 4, [some 77, some 78, none, none, none, none]) from rfl) (fun _ => rfl) ⟨Nat.le_of_ble_eq_true rfl, Nat.le_of_ble_eq_true rfl⟩ (Nat.le_of_ble_eq_true rfl) (fun z8 M8 h8 => ?_)
  obtain ⟨a1, a2, a3, a4⟩ := h8
  have s1 : stRel M8 1 r := hr.frame (a4 _ (by decide) (by decide) (by decide)) (a4 _ (by decide) (by decide) (by decide)) (a4 _ (by decide) (by decide) (by decide)) (a4 _ (by decide) (by decide) (by decide))
  have b1 : D8s (M8 77) (M8 76 2) := fun i hi => by rw [(a3 i (by omega)).1]; exact tl_b _
  have b2 : D8s (M8 78) (M8 76 2) := fun i hi => by rw [(a3 i (by omega)).2]; exact tg_b _
  have b3 : nearF (M8 77) (M8 78) r (M8 76 2) = nearF (mLo r) (mHi r) r (r 0) := by rw [a1]; exact nearF_congr (fun i hi => a3 i hi)
  refine AW.aload_n dX8_slipsStillNearest_11 0 rfl rfl ?_
  refine AW.getR dX8_slipsStillNearest_12 fl_X8_53 (show sh 0 = (0, 8, [some 1, some 5, some 31, some 35, none, some 61, some 65, some 71, some 76, some 79, some 83, some 85]) from rfl) rfl ?_
  refine AW.aload_n dX8_slipsStillNearest_15 0 rfl rfl ?_
  refine AW.getR dX8_slipsStillNearest_16 fl_X8_10 (show sh 0 = (0, 8, [some 1, some 5, some 31, some 35, none, some 61, some 65, some 71, some 76, some 79, some 83, some 85]) from rfl) rfl ?_
  refine AW.callV1v (C_compare Γ M8 1 st1 (by decide) r ho s1 (by rw [a1]; exact ho.1) b1 b2) dX8_slipsStillNearest_19 mc_X8_196 (show sh 76 = (0, 4, [some 77, some 78, none, none, none, none]) from rfl) (fun _ => rfl) ⟨Nat.le_of_ble_eq_true rfl, Nat.le_of_ble_eq_true rfl⟩ (Nat.le_of_ble_eq_true rfl) (fun z19 M19 h19 => ?_)
  rw [b3] at h19
  obtain ⟨⟨e1, e2, e3⟩, e4, e5⟩ := h19
  have nb := nearF_b (r := r) (mLo_d r (r 0)) (mHi_d r (r 0)) ho.1
  have o1 := ho.2.1
  refine AW.aload_n dX8_slipsStillNearest_22 0 rfl rfl ?_
  refine AW.getR dX8_slipsStillNearest_23 fl_X8_53 (show sh 0 = (0, 8, [some 1, some 5, some 31, some 35, none, some 61, some 65, some 71, some 76, some 79, some 83, some 85]) from rfl) rfl ?_
  refine AW.getI dX8_slipsStillNearest_26 fl_X8_199 (show sh 76 = (0, 4, [some 77, some 78, none, none, none, none]) from rfl) rfl ?_
  rw [e1]
  refine AW.top (fun wd ewd => ?_)
  refine AW.istore_n [(1, vi wd), (0, rf Γ 0)] dX8_slipsStillNearest_29 rfl (by decide) rfl ?_
  refine AW.iload_n dX8_slipsStillNearest_30 0 rfl rfl ?_
  refine AW.bipush (z := (-4)) dX8_slipsStillNearest_31 (by decide) ?_
  refine AW.icmp_ne 38 dX8_slipsStillNearest_33 (by decide) (by omega) (by omega) (fun c33 => ?_) (fun c33 => ?_)
  · refine AW.iconst dX8_slipsStillNearest_38 ?_
    refine AW.top (fun x39 ex39 => ?_)
    refine AW.istore_n [(2, vi x39), (1, vi wd), (0, rf Γ 0)] dX8_slipsStillNearest_39 rfl (by decide) rfl ?_
    refine AW.iconst dX8_slipsStillNearest_40 ?_
    refine AW.top (fun x41 ex41 => ?_)
    refine AW.istore_n [(3, vi x41), (2, vi x39), (1, vi wd), (0, rf Γ 0)] dX8_slipsStillNearest_41 rfl (by decide) rfl ?_
    refine AW.sub [0, 1, 2, 3] rfl ?_
    refine AW.mono (fun z M' h => ?_) (slipsN_loop Γ M19 r ho (s1.frame (e5 _ (by decide)) (e5 _ (by decide)) (e5 _ (by decide)) (e5 _ (by decide))) wd (by omega) 14 0 x41 x39 M19 (by omega) (by have := ho.1; omega) (by rw [ex39]; rfl) (by rw [e4 2 (by decide) (by decide) (by decide)]; exact a1) (fun j hj => by rw [e5 77 (by decide), e5 78 (by decide)]; exact a3 j hj) (fun _ _ _ _ => rfl) (by omega))
    exact ⟨by rw [if_neg (by omega), ← ewd]; exact h.1, fun a q1 q2 q3 => by rw [h.2 a q1 q2 q3, e5 a q1, a4 a q1 q2 q3]⟩
  · refine AW.iconst dX8_slipsStillNearest_36 ?_
    exact AW.iret rfl dX8_slipsStillNearest_37 ⟨by rw [if_pos (by omega)], fun a q1 q2 q3 => by rw [e5 a q1, a4 a q1 q2 q3]⟩

set_option maxRecDepth 20000 in
theorem C_slips (Γ : GC) (M : Mm) (r : Nat → Int) (ho : OkR r) (hr : stRel M 1 r) (c : Int) (hc0 : R32 c) : Ct Γ uX8_slips [rf Γ 0, vi c] M (fun z M' => z = slipS r c ∧ ∀ a : Nat, a ≠ 76 → a ≠ 77 → a ≠ 78 → M' a = M a) := by
  refine Ct.of (by decide) (Nat.le_of_ble_eq_true rfl) ?_
  show AW Γ uX8_slips 0 [(0, rf Γ 0), (1, vi c)] [] M _
  refine AW.iload_n dX8_slips_0 1 rfl rfl ?_
  rcases (show c = 0 ∨ c = 1 ∨ c = 2 ∨ (c < 0 ∨ 2 < c) by omega) with hc | hc | hc | hc
  · refine AW.tabIn 28 dX8_slips_1 hc0 (by omega) (by omega) (by rw [hc]; rfl) (by decide) ?_
    refine AW.iconst dX8_slips_28 ?_
    refine AW.aload_n dX8_slips_29 0 rfl rfl ?_
    refine AW.getR dX8_slips_30 fl_X8_10 (show sh 0 = (0, 8, [some 1, some 5, some 31, some 35, none, some 61, some 65, some 71, some 76, some 79, some 83, some 85]) from rfl) rfl ?_
    refine AW.getI dX8_slips_33 fl_X8_137 (show sh 1 = (0, 5, [some 2, none, some 3, some 4, none, none, none, none]) from rfl) rfl ?_
    refine AW.imul dX8_slips_36 ?_
    refine AW.aload_n dX8_slips_37 0 rfl rfl ?_
    refine AW.callV0ip (C_slipsToLetters Γ M r ho hr) dX8_slips_38 mc_X8_208 (show sh 0 = (0, 8, [some 1, some 5, some 31, some 35, none, some 61, some 65, some 71, some 76, some 79, some 83, some 85]) from rfl) (fun _ => rfl) ⟨Nat.le_of_ble_eq_true rfl, Nat.le_of_ble_eq_true rfl⟩ (Nat.le_of_ble_eq_true rfl) ?_
    refine AW.isub dX8_slips_41 ?_
    exact AW.iret rfl dX8_slips_42 ⟨by unfold slipS; rw [if_pos hc, (st1u hr).1], fun _ _ _ _ => rfl⟩
  · refine AW.tabIn 43 dX8_slips_1 hc0 (by omega) (by omega) (by rw [hc]; rfl) (by decide) ?_
    refine AW.aload_n dX8_slips_43 0 rfl rfl ?_
    refine AW.callV0ip (C_slipsToLetters Γ M r ho hr) dX8_slips_44 mc_X8_208 (show sh 0 = (0, 8, [some 1, some 5, some 31, some 35, none, some 61, some 65, some 71, some 76, some 79, some 83, some 85]) from rfl) (fun _ => rfl) ⟨Nat.le_of_ble_eq_true rfl, Nat.le_of_ble_eq_true rfl⟩ (Nat.le_of_ble_eq_true rfl) ?_
    exact AW.iret rfl dX8_slips_47 ⟨by unfold slipS; rw [if_neg (by omega), if_pos hc], fun _ _ _ _ => rfl⟩
  · refine AW.tabIn 48 dX8_slips_1 hc0 (by omega) (by omega) (by rw [hc]; rfl) (by decide) ?_
    refine AW.aload_n dX8_slips_48 0 rfl rfl ?_
    refine AW.callV0i (C_slipsStill Γ M r ho hr) dX8_slips_49 mc_X8_211 (show sh 0 = (0, 8, [some 1, some 5, some 31, some 35, none, some 61, some 65, some 71, some 76, some 79, some 83, some 85]) from rfl) (fun _ => rfl) ⟨Nat.le_of_ble_eq_true rfl, Nat.le_of_ble_eq_true rfl⟩ (Nat.le_of_ble_eq_true rfl) (fun z49 M49 h49 => ?_)
    exact AW.iret rfl dX8_slips_52 ⟨by unfold slipS; rw [if_neg (by omega), if_neg (by omega), if_pos hc]; exact h49.1, h49.2⟩
  · refine AW.tabOut 53 dX8_slips_1 hc0 hc (by decide) ?_
    refine AW.iconst dX8_slips_53 ?_
    exact AW.iret rfl dX8_slips_54 ⟨by unfold slipS; rw [if_neg (by omega), if_neg (by omega), if_neg (by omega)], fun _ _ _ _ => rfl⟩
