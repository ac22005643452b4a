/-! read, of the class -/
theorem stRel.for {M : Mm} {k : Nat} {r : Nat → Int} (hr : stRel M k r) : stRel (up2 (up2 M k 1 0) k 4 0) k (forR r) := by
  obtain ⟨h1, h2, h3, h4, h5, h6, h7⟩ := hr
  unfold forR
  refine ⟨?_, ?_, ?_, ?_, ?_, ?_, ?_⟩
  · simp [up2, upM, up1]
  · simp [up2, upM, up1]
  · simp [up2, upM, up1, h3]
  · simp [up2, upM, up1, h4]
  · simp [up2, upM, up1, h5]
  · intro i hi; simp [up1] at hi; omega
  · intro w hw; simp [up1] at hw; omega
theorem stRel.len {M M' : Mm} {k W : Nat} {L c : Int} {r : Nat → Int} (ho : OkR r) (hr : stRel M k r) (hW : r 1 = W + 1) (hL : r (17 + 7 * W) = L) (h6L : ¬ L = 6) (e0 : M' k = M k) (e1 : M' (k + 1) = M (k + 1)) (e2 : ∀ j, M' (k + 2) j = if j = 6 * W + L.toNat then c else M (k + 2) j) (e3 : ∀ j, M' (k + 3) j = if j = W then L + 1 else M (k + 3) j) : stRel M' k (lenR r c) := by
  obtain ⟨h1, h2, h3, h4, h5, h6, h7⟩ := id hr
  obtain ⟨o0, o1, o2, o3, o4, o5, o6⟩ := id ho
  obtain ⟨l1, l2⟩ := o6 W (by omega)
  unfold lenR
  rw [show (r 1 - 1).toNat = W by omega, hL]
  rw [hL] at l1
  refine ⟨?_, ?_, ?_, ?_, ?_, ?_, ?_⟩
  · rw [e0, h1]; simp only [up1]; rw [if_neg (by omega), if_neg (by omega)]
  · rw [e0, h2]; simp only [up1]; rw [if_neg (by omega), if_neg (by omega)]
  · rw [e0, h3]; simp only [up1]; rw [if_neg (by omega), if_neg (by omega)]
  · rw [e0, h4]; simp only [up1]; rw [if_neg (by omega), if_neg (by omega)]
  · rw [e0, h5]; simp only [up1]; rw [if_neg (by omega), if_neg (by omega)]
  · intro i hi
    have hi : (i : Int) < r 0 := by simpa [up1, show ¬ 0 = 17 + 7 * W by omega, show ¬ 0 = 18 + 7 * W + L.toNat by omega] using hi
    rw [e1, h6 i hi]; simp only [up1]; rw [if_neg (by omega), if_neg (by omega)]
  · intro w hw
    have hw : (w : Int) < r 1 := by simpa [up1, show ¬ 1 = 17 + 7 * W by omega, show ¬ 1 = 18 + 7 * W + L.toNat by omega] using hw
    obtain ⟨p1, p2⟩ := h7 w hw
    obtain ⟨t1, t2⟩ := o6 w hw
    simp only [up1]
    rw [e3]
    by_cases q : w = W
    · subst q
      rw [if_pos rfl, if_pos rfl]
      refine ⟨rfl, fun i hi => ?_⟩
      rw [e2, if_neg (show ¬ 18 + 7 * w + i = 17 + 7 * w by omega)]
      by_cases qi : i = L.toNat
      · rw [if_pos (by omega), if_pos (by omega)]
      · rw [if_neg (by omega), if_neg (by omega)]; exact p2 i (by omega)
    · rw [if_neg q, if_neg (by omega), if_neg (by omega)]
      refine ⟨p1, fun i hi => ?_⟩
      rw [e2, if_neg (show ¬ 18 + 7 * w + i = 17 + 7 * W by omega), if_neg (by omega), if_neg (by omega)]
      exact p2 i hi
theorem stRel.opn {M M' : Mm} {k W : Nat} {c : Int} {r : Nat → Int} (ho : OkR r) (hr : stRel M k r) (hW : r 1 = W) (h6W : ¬ r 1 = 6) (e0 : ∀ j, M' k j = if j = 4 then r 1 + 1 else M k j) (e1 : M' (k + 1) = M (k + 1)) (e2 : ∀ j, M' (k + 2) j = if j = 6 * W then c else M (k + 2) j) (e3 : ∀ j, M' (k + 3) j = if j = W then 1 else M (k + 3) j) : stRel M' k (opnR r c) := by
  obtain ⟨h1, h2, h3, h4, h5, h6, h7⟩ := id hr
  obtain ⟨o0, o1, o2, o3, o4, o5, o6⟩ := id ho
  unfold opnR
  rw [show (r 1).toNat = W by omega]
  refine ⟨?_, ?_, ?_, ?_, ?_, ?_, ?_⟩
  · rw [e0, if_neg (by omega), h1]; simp only [up1]; rw [if_neg (by omega), if_neg (by omega), if_neg (by omega)]
  · rw [e0, if_pos rfl]; simp only [up1]; rw [if_pos trivial]
  · rw [e0, if_neg (by omega), h3]; simp only [up1]; rw [if_neg (by omega), if_neg (by omega), if_neg (by omega)]
  · rw [e0, if_neg (by omega), h4]; simp only [up1]; rw [if_neg (by omega), if_neg (by omega), if_neg (by omega)]
  · rw [e0, if_neg (by omega), h5]; simp only [up1]; rw [if_neg (by omega), if_neg (by omega), if_neg (by omega)]
  · intro i hi
    have hi : (i : Int) < r 0 := by simpa [up1, show ¬ 0 = 17 + 7 * W by omega, show ¬ 0 = 18 + 7 * W by omega] using hi
    rw [e1, h6 i hi]; simp only [up1]; rw [if_neg (by omega), if_neg (by omega), if_neg (by omega)]
  · intro w hw
    have hw : (w : Int) < r 1 + 1 := by simpa [up1] using hw
    simp only [up1]
    rw [e3, if_neg (show ¬ 17 + 7 * w = 1 by omega)]
    by_cases q : w = W
    · subst q
      rw [if_pos rfl, if_pos rfl]
      refine ⟨rfl, fun i hi => ?_⟩
      rw [e2, if_neg (show ¬ 18 + 7 * w + i = 1 by omega), if_neg (show ¬ 18 + 7 * w + i = 17 + 7 * w by omega), if_pos (by omega), if_pos (by omega)]
    · obtain ⟨p1, p2⟩ := h7 w (by omega)
      rw [if_neg q, if_neg (by omega), if_neg (by omega)]
      refine ⟨p1, fun i hi => ?_⟩
      have t1 := (o6 w (by omega)).1
      rw [e2, if_neg (show ¬ 18 + 7 * w + i = 1 by omega), if_neg (show ¬ 18 + 7 * w + i = 17 + 7 * W by omega), if_neg (by omega), if_neg (by omega)]
      exact p2 i hi

set_option maxRecDepth 20000 in
theorem C_forgetText (Γ : GC) (M : Mm) (k : Nat) (hk : St k) : Ct Γ uX5_forgetText [rf Γ k] M (fun _ M' => off4 k M M' ∧ ∀ r, stRel M k r → stRel M' k (forR r)) := by
  refine Ct.of (by decide) (Nat.le_of_ble_eq_true rfl) ?_
  show AW Γ uX5_forgetText 0 [(0, rf Γ k)] [] M _
  refine AW.aload_n dX5_forgetText_0 0 rfl rfl ?_
  refine AW.iconst dX5_forgetText_1 ?_
  refine AW.putI dX5_forgetText_2 fp_X5_15 hk.1 rfl ?_
  refine AW.aload_n dX5_forgetText_5 0 rfl rfl ?_
  refine AW.iconst dX5_forgetText_6 ?_
  refine AW.putI dX5_forgetText_7 fp_X5_25 hk.1 rfl ?_
  exact AW.vret rfl dX5_forgetText_10 ⟨(off4.rfl'.up (by omega)).up (by omega), fun r hr => hr.for⟩

set_option maxRecDepth 20000 in
theorem C_lengthenWord (Γ : GC) (M : Mm) (k : Nat) (hk : St k) (Wn : Nat) (L c : Int) (hW : M k 4 = Wn + 1) (hW6 : Wn < 6) (hL : M (k + 3) Wn = L) (hl : 0 ≤ L ∧ L ≤ 6) : Ct Γ uX5_lengthenWord [rf Γ k, vi c] M (fun z M' => (L < 6 ∧ z = 1 ∧ M' = up2 (up2 M (k + 2) (6 * Wn + L.toNat) c) (k + 3) Wn (L + 1)) ∨ (L = 6 ∧ z = 0 ∧ M' = M)) := by
  refine Ct.of (by decide) (Nat.le_of_ble_eq_true rfl) ?_
  show AW Γ uX5_lengthenWord 0 [(0, rf Γ k), (1, vi c)] [] M _
  refine AW.aload_n dX5_lengthenWord_0 0 rfl rfl ?_
  refine AW.getI dX5_lengthenWord_1 fl_X5_25 hk.1 rfl ?_
  refine AW.iconst dX5_lengthenWord_4 ?_
  refine AW.isub dX5_lengthenWord_5 ?_
  refine AW.top (fun la ela => ?_)
  refine AW.istore_n [(2, vi la), (0, rf Γ k), (1, vi c)] dX5_lengthenWord_6 rfl (by decide) rfl ?_
  refine AW.iload_n dX5_lengthenWord_7 0 rfl rfl ?_
  refine AW.if_lt 22 dX5_lengthenWord_8 (by decide) (by omega) (fun c8 => ?_) (fun c8 => ?_)
  · exfalso; omega
  · refine AW.aload_n dX5_lengthenWord_11 1 rfl rfl ?_
    refine AW.getR dX5_lengthenWord_12 fl_X5_22 hk.1 rfl ?_
    refine AW.iload_n dX5_lengthenWord_15 0 rfl rfl ?_
    refine AW.ialdN Wn dX5_lengthenWord_16 hk.2.2.2 (by omega) (by omega) (by decide) ?_
    rw [hL]
    refine AW.bipush (z := (6)) dX5_lengthenWord_17 (by decide) ?_
    refine AW.icmp_lt 24 dX5_lengthenWord_19 (by decide) (by omega) (by omega) (fun c19 => ?_) (fun c19 => ?_)
    · refine AW.aload_n dX5_lengthenWord_24 1 rfl rfl ?_
      refine AW.getR dX5_lengthenWord_25 fl_X5_19 hk.1 rfl ?_
      refine AW.iload_n dX5_lengthenWord_28 0 rfl rfl ?_
      refine AW.bipush (z := (6)) dX5_lengthenWord_29 (by decide) ?_
      refine AW.imul dX5_lengthenWord_31 ?_
      refine AW.aload_n dX5_lengthenWord_32 1 rfl rfl ?_
      refine AW.getR dX5_lengthenWord_33 fl_X5_22 hk.1 rfl ?_
      refine AW.iload_n dX5_lengthenWord_36 0 rfl rfl ?_
      refine AW.ialdN Wn dX5_lengthenWord_37 hk.2.2.2 (by omega) (by omega) (by decide) ?_
      rw [hL]
      refine AW.iadd dX5_lengthenWord_38 ?_
      refine AW.iload_n dX5_lengthenWord_39 2 rfl rfl ?_
      refine AW.iastN (6 * Wn + L.toNat) dX5_lengthenWord_40 hk.2.2.1 (by omega) (by omega) (by decide) ?_
      refine AW.aload_n dX5_lengthenWord_41 1 rfl rfl ?_
      refine AW.getR dX5_lengthenWord_42 fl_X5_22 hk.1 rfl ?_
      refine AW.iload_n dX5_lengthenWord_45 0 rfl rfl ?_
      refine AW.dup2 dX5_lengthenWord_46 rfl rfl ?_
      refine AW.ialdN Wn dX5_lengthenWord_47 hk.2.2.2 (by omega) (by omega) (by decide) ?_
      rw [up2_c (by omega), hL]
      refine AW.iconst dX5_lengthenWord_48 ?_
      refine AW.iadd dX5_lengthenWord_49 ?_
      refine AW.iastN Wn dX5_lengthenWord_50 hk.2.2.2 (by omega) (by omega) (by decide) ?_
      refine AW.iconst dX5_lengthenWord_51 ?_
      exact AW.zret rfl dX5_lengthenWord_52 (by decide) (Or.inl ⟨by omega, rfl, rfl⟩)
    · refine AW.iconst dX5_lengthenWord_22 ?_
      exact AW.zret rfl dX5_lengthenWord_23 (by decide) (Or.inr ⟨by omega, rfl, rfl⟩)

set_option maxRecDepth 20000 in
theorem C_openWord (Γ : GC) (M : Mm) (k : Nat) (hk : St k) (Wn : Nat) (c : Int) (hW : M k 4 = Wn) (hW6 : Wn ≤ 6) : Ct Γ uX5_openWord [rf Γ k, vi c] M (fun z M' => (M k 4 < 6 ∧ z = 1 ∧ M' = up2 (up2 (up2 (up2 M (k + 3) Wn 0) k 4 (M k 4 + 1)) (k + 2) (6 * Wn + (0 : Int).toNat) c) (k + 3) Wn (0 + 1)) ∨ (M k 4 = 6 ∧ z = 0 ∧ M' = M)) := by
  refine Ct.of (by decide) (Nat.le_of_ble_eq_true rfl) ?_
  show AW Γ uX5_openWord 0 [(0, rf Γ k), (1, vi c)] [] M _
  refine AW.aload_n dX5_openWord_0 0 rfl rfl ?_
  refine AW.getI dX5_openWord_1 fl_X5_25 hk.1 rfl ?_
  refine AW.bipush (z := (6)) dX5_openWord_4 (by decide) ?_
  refine AW.icmp_lt 11 dX5_openWord_6 (by decide) (by omega) (by omega) (fun c6 => ?_) (fun c6 => ?_)
  · refine AW.aload_n dX5_openWord_11 0 rfl rfl ?_
    refine AW.getR dX5_openWord_12 fl_X5_22 hk.1 rfl ?_
    refine AW.aload_n dX5_openWord_15 0 rfl rfl ?_
    refine AW.getI dX5_openWord_16 fl_X5_25 hk.1 rfl ?_
    refine AW.iconst dX5_openWord_19 ?_
    refine AW.iastN Wn dX5_openWord_20 hk.2.2.2 (by omega) (by omega) (by decide) ?_
    refine AW.aload_n dX5_openWord_21 0 rfl rfl ?_
    refine AW.dup dX5_openWord_22 rfl ?_
    refine AW.getI dX5_openWord_23 fl_X5_25 hk.1 rfl ?_
    rw [up2_c (by omega)]
    refine AW.iconst dX5_openWord_26 ?_
    refine AW.iadd dX5_openWord_27 ?_
    refine AW.putI dX5_openWord_28 fp_X5_25 hk.1 rfl ?_
    refine AW.aload_n dX5_openWord_31 0 rfl rfl ?_
    refine AW.iload_n dX5_openWord_32 1 rfl rfl ?_
    refine AW.callV1i (C_lengthenWord Γ _ k hk Wn 0 c (by rw [up2_s]; omega) (by omega) (by rw [up2_c (by omega), up2_s]) (by omega)) dX5_openWord_33 mc_X5_50 hk.1 (fun _ => rfl) ⟨Nat.le_of_ble_eq_true rfl, Nat.le_of_ble_eq_true rfl⟩ (Nat.le_of_ble_eq_true rfl) (fun z33 M33 h33 => ?_)
    obtain ⟨_, e33, m33⟩ := h33.resolve_right (fun q => by omega)
    exact AW.zret rfl dX5_openWord_36 (by rw [e33]; decide) (Or.inl ⟨by omega, e33, m33⟩)
  · refine AW.iconst dX5_openWord_9 ?_
    exact AW.zret rfl dX5_openWord_10 (by decide) (Or.inr ⟨by omega, rfl, rfl⟩)

theorem stp_l {wh : Int} {r : Nat → Int} {c : Int} (hc : 0 ≤ c ∧ c < 26) : stpA wh r (c + 97) = if wh = 3 then (if r 0 = 12 then (4, r) else (3, sayR r c)) else if wh = 2 then (if r (17 + 7 * (r 1 - 1).toNat) = 6 then (4, r) else (2, lenR r c)) else if r 1 = 6 then (4, r) else (2, opnR r c) := by
  unfold stpA; rw [if_neg (by omega), if_pos (by omega), show c + 97 - 97 = c by omega]

set_option maxRecDepth 20000 in
theorem C_behindLetter (Γ : GC) (M : Mm) (k : Nat) (hk : St k) (r : Nat → Int) (ho : OkR r) (hr : stRel M k r) (wh c : Int) (hwh : 0 ≤ wh ∧ wh < 4) (hw2 : wh = 2 → 1 ≤ r 1) (hc : 0 ≤ c ∧ c < 26) : Ct Γ uX6_behindLetter [vi wh, vi c, rf Γ k] M (fun z M' => z = (stpA wh r (c + 97)).1 ∧ off4 k M M' ∧ stRel M' k (stpA wh r (c + 97)).2) := by
  refine Ct.of (by decide) (Nat.le_of_ble_eq_true rfl) ?_
  show AW Γ uX6_behindLetter 0 [(0, vi wh), (1, vi c), (2, rf Γ k)] [] M _
  refine AW.iload_n dX6_behindLetter_0 0 rfl rfl ?_
  refine AW.iconst dX6_behindLetter_1 ?_
  refine AW.icmp_ne 19 dX6_behindLetter_2 (by decide) (by omega) (by omega) (fun c2 => ?_) (fun c2 => ?_)
  · refine AW.iload_n dX6_behindLetter_19 0 rfl rfl ?_
    refine AW.iconst dX6_behindLetter_20 ?_
    refine AW.icmp_ne 32 dX6_behindLetter_21 (by decide) (by omega) (by omega) (fun c21 => ?_) (fun c21 => ?_)
    · refine AW.aload_n dX6_behindLetter_32 2 rfl rfl ?_
      refine AW.iload_n dX6_behindLetter_33 1 rfl rfl ?_
      refine AW.callV1i (C_openWord Γ M k hk (r 1).toNat c (by rw [hr.2.1]; have := ho.2.1; omega) (by have := ho.2.1; omega)) dX6_behindLetter_34 mc_X6_39 hk.1 (fun _ => rfl) ⟨Nat.le_of_ble_eq_true rfl, Nat.le_of_ble_eq_true rfl⟩ (Nat.le_of_ble_eq_true rfl) (fun z34 M34 h34 => ?_)
      have h1w := ho.2.1
      have hm4 := hr.2.1
      refine AW.top (fun tk etk => ?_)
      refine AW.istore_n [(3, vi tk), (0, vi wh), (1, vi c), (2, rf Γ k)] dX6_behindLetter_37 rfl (by decide) rfl ?_
      refine AW.iload_n dX6_behindLetter_38 0 rfl rfl ?_
      refine AW.if_eq 46 dX6_behindLetter_39 (by decide) (by omega) (fun c39 => ?_) (fun c39 => ?_)
      · refine AW.iconst dX6_behindLetter_46 ?_
        exact AW.iret rfl dX6_behindLetter_47 (by
            obtain ⟨a1, a2, a3⟩ := h34.resolve_left (fun q => by omega)
            rw [stp_l hc, if_neg (by omega), if_neg (by omega), if_pos (by omega), a3]
            exact ⟨rfl, off4.rfl', hr⟩)
      · refine AW.iconst dX6_behindLetter_42 ?_
        refine AW.goto 47 dX6_behindLetter_43 (by decide) ?_
        exact AW.iret rfl dX6_behindLetter_47 (by
            obtain ⟨a1, a2, a3⟩ := h34.resolve_right (fun q => by omega)
            rw [stp_l hc, if_neg (by omega), if_neg (by omega), if_neg (by omega), a3]
            refine ⟨rfl, (((off4.rfl'.up (by omega)).up (by omega)).up (by omega)).up (by omega), stRel.opn ho hr (W := (r 1).toNat) (by omega) (by omega) (fun j => ?_) ?_ (fun j => ?_) (fun j => ?_)⟩
            · simp only [up2_e]; rw [if_neg (by omega), if_neg (by omega)]
              by_cases q : j = 4
              · rw [if_pos ⟨trivial, q⟩, if_pos q, hm4]
              · rw [if_neg (by omega), if_neg (by omega), if_neg q]
            · rw [up2_c (by omega), up2_c (by omega), up2_c (by omega), up2_c (by omega)]
            · simp only [up2_e]; rw [if_neg (by omega)]
              by_cases q : j = 6 * (r 1).toNat
              · rw [if_pos ⟨trivial, by simp; exact q⟩, if_pos q]
              · rw [if_neg (by simp; exact q), if_neg (by omega), if_neg (by omega), if_neg q]
            · simp only [up2_e]
              by_cases q : j = (r 1).toNat
              · rw [if_pos ⟨trivial, q⟩, if_pos q]; rfl
              · rw [if_neg (by omega), if_neg (by omega), if_neg (by omega), if_neg (by omega), if_neg q])
    · refine AW.aload_n dX6_behindLetter_24 2 rfl rfl ?_
      refine AW.iload_n dX6_behindLetter_25 1 rfl rfl ?_
      refine AW.callV1i (C_lengthenWord Γ M k hk (r 1 - 1).toNat (r (17 + 7 * (r 1 - 1).toNat)) c (by rw [hr.2.1]; have := hw2 c21; omega) (by have := ho.2.1; omega) (hr.2.2.2.2.2.2 _ (by have := hw2 c21; omega)).1 (by have := (ho.2.2.2.2.2.2 (r 1 - 1).toNat (by have := hw2 c21; omega)).1; omega)) dX6_behindLetter_26 mc_X6_35 hk.1 (fun _ => rfl) ⟨Nat.le_of_ble_eq_true rfl, Nat.le_of_ble_eq_true rfl⟩ (Nat.le_of_ble_eq_true rfl) (fun z26 M26 h26 => ?_)
      have h1w := hw2 c21
      refine AW.goto 37 dX6_behindLetter_29 (by decide) ?_
      refine AW.top (fun tk etk => ?_)
      refine AW.istore_n [(3, vi tk), (0, vi wh), (1, vi c), (2, rf Γ k)] dX6_behindLetter_37 rfl (by decide) rfl ?_
      refine AW.iload_n dX6_behindLetter_38 0 rfl rfl ?_
      refine AW.if_eq 46 dX6_behindLetter_39 (by decide) (by omega) (fun c39 => ?_) (fun c39 => ?_)
      · refine AW.iconst dX6_behindLetter_46 ?_
        exact AW.iret rfl dX6_behindLetter_47 (by
            obtain ⟨a1, a2, a3⟩ := h26.resolve_left (fun q => by omega)
            rw [stp_l hc, if_neg (by omega), if_pos (by omega), if_pos (by omega), a3]
            exact ⟨rfl, off4.rfl', hr⟩)
      · refine AW.iconst dX6_behindLetter_42 ?_
        refine AW.goto 47 dX6_behindLetter_43 (by decide) ?_
        exact AW.iret rfl dX6_behindLetter_47 (by
            obtain ⟨a1, a2, a3⟩ := h26.resolve_right (fun q => by omega)
            rw [stp_l hc, if_neg (by omega), if_pos (by omega), if_neg (by omega), a3]
            refine ⟨rfl, (off4.rfl'.up (by omega)).up (by omega), stRel.len ho hr (W := (r 1 - 1).toNat) (by omega) rfl (by omega) ?_ ?_ (fun j => ?_) (fun j => ?_)⟩
            · rw [up2_c (by omega), up2_c (by omega)]
            · rw [up2_c (by omega), up2_c (by omega)]
            · simp only [up2_e]; rw [if_neg (by omega)]
              by_cases q : j = 6 * (r 1 - 1).toNat + (r (17 + 7 * (r 1 - 1).toNat)).toNat
              · rw [if_pos ⟨trivial, q⟩, if_pos q]
              · rw [if_neg (by omega), if_neg q]
            · simp only [up2_e]
              by_cases q : j = (r 1 - 1).toNat
              · rw [if_pos ⟨trivial, q⟩, if_pos q]
              · rw [if_neg (by omega), if_neg (by omega), if_neg q])
  · refine AW.aload_n dX6_behindLetter_5 2 rfl rfl ?_
    refine AW.iload_n dX6_behindLetter_6 1 rfl rfl ?_
    refine AW.callV1i (C_addLetter Γ M k hk r ho hr c (by omega)) dX6_behindLetter_7 mc_X6_31 hk.1 (fun _ => rfl) ⟨Nat.le_of_ble_eq_true rfl, Nat.le_of_ble_eq_true rfl⟩ (Nat.le_of_ble_eq_true rfl) (fun z7 M7 h7 => ?_)
    obtain ⟨e7, f7, s7⟩ := h7
    unfold sayZ at e7
    rw [if_pos hc] at e7
    have h0 := ho.1
    refine AW.if_lt 17 dX6_behindLetter_10 (by decide) (by rw [e7]; split <;> omega) (fun c10 => ?_) (fun c10 => ?_)
    · refine AW.iconst dX6_behindLetter_17 ?_
      exact AW.iret rfl dX6_behindLetter_18 (by
          have hq : r 0 = 12 := by
            by_cases q : r 0 = 12
            · exact q
            · rw [if_neg q] at e7; omega
          rw [stp_l hc, if_pos c2, if_pos hq]
          refine ⟨rfl, f7, ?_⟩
          rw [show sayR r c = r by unfold sayR; rw [if_neg (fun q => q.2 hq)]] at s7
          exact s7)
    · refine AW.iconst dX6_behindLetter_13 ?_
      refine AW.goto 18 dX6_behindLetter_14 (by decide) ?_
      exact AW.iret rfl dX6_behindLetter_18 (by
          have hq : ¬ r 0 = 12 := by intro q; rw [if_pos q] at e7; omega
          rw [stp_l hc, if_pos c2, if_neg hq]
          exact ⟨rfl, f7, s7⟩)

set_option maxRecDepth 20000 in
theorem C_behind (Γ : GC) (M : Mm) (k : Nat) (hk : St k) (r : Nat → Int) (ho : OkR r) (hr : stRel M k r) (wh c : Int) (hwh : 0 ≤ wh ∧ wh < 4) (hw2 : wh = 2 → 1 ≤ r 1) (hc : 32 < c ∧ c ≤ 126) : Ct Γ uX6_behind [vi wh, vi c, rf Γ k] M (fun z M' => z = (stpA wh r c).1 ∧ off4 k M M' ∧ stRel M' k (stpA wh r c).2) := by
  refine Ct.of (by decide) (Nat.le_of_ble_eq_true rfl) ?_
  show AW Γ uX6_behind 0 [(0, vi wh), (1, vi c), (2, rf Γ k)] [] M _
  refine AW.iload_n dX6_behind_0 1 rfl rfl ?_
  refine AW.bipush (z := (97)) dX6_behind_1 (by decide) ?_
  refine AW.icmp_lt 22 dX6_behind_3 (by decide) (by omega) (by omega) (fun c3 => ?_) (fun c3 => ?_)
  · refine AW.iload_n dX6_behind_22 1 rfl rfl ?_
    refine AW.bipush (z := (44)) dX6_behind_23 (by decide) ?_
    refine AW.icmp_ne 48 dX6_behind_25 (by decide) (by omega) (by omega) (fun c25 => ?_) (fun c25 => ?_)
    · refine AW.iload_n dX6_behind_48 1 rfl rfl ?_
      refine AW.bipush (z := (58)) dX6_behind_49 (by decide) ?_
      refine AW.icmp_ne 69 dX6_behind_51 (by decide) (by omega) (by omega) (fun c51 => ?_) (fun c51 => ?_)
      · refine AW.iconst dX6_behind_69 ?_
        exact AW.iret rfl dX6_behind_70 (by
            have hs : ∀ q : Int, q = 4 → stpA wh r c = (q, r) := fun q hq => by
              subst hq; unfold stpA
              first
                | (rw [if_neg (by omega), if_neg (by omega), if_pos (by omega), if_pos (by omega)]; done)
                | (rw [if_neg (by omega), if_neg (by omega), if_pos (by omega), if_neg (by omega)]; done)
                | (rw [if_neg (by omega), if_neg (by omega), if_neg (by omega), if_pos (by omega), if_pos (by omega)]; done)
                | (rw [if_neg (by omega), if_neg (by omega), if_neg (by omega), if_pos (by omega), if_neg (by omega)]; done)
                | (rw [if_neg (by omega), if_neg (by omega), if_neg (by omega), if_neg (by omega)]; done)
            rw [hs _ rfl]; exact ⟨rfl, off4.rfl', hr⟩)
      · refine AW.iload_n dX6_behind_54 0 rfl rfl ?_
        refine AW.if_eq 63 dX6_behind_55 (by decide) (by omega) (fun c55 => ?_) (fun c55 => ?_)
        · refine AW.iconst dX6_behind_63 ?_
          refine AW.goto 68 dX6_behind_64 (by decide) ?_
          exact AW.iret rfl dX6_behind_68 (by
              have hs : ∀ q : Int, q = 3 → stpA wh r c = (q, r) := fun q hq => by
                subst hq; unfold stpA
                first
                  | (rw [if_neg (by omega), if_neg (by omega), if_pos (by omega), if_pos (by omega)]; done)
                  | (rw [if_neg (by omega), if_neg (by omega), if_pos (by omega), if_neg (by omega)]; done)
                  | (rw [if_neg (by omega), if_neg (by omega), if_neg (by omega), if_pos (by omega), if_pos (by omega)]; done)
                  | (rw [if_neg (by omega), if_neg (by omega), if_neg (by omega), if_pos (by omega), if_neg (by omega)]; done)
                  | (rw [if_neg (by omega), if_neg (by omega), if_neg (by omega), if_neg (by omega)]; done)
              rw [hs _ rfl]; exact ⟨rfl, off4.rfl', hr⟩)
        · refine AW.iload_n dX6_behind_58 0 rfl rfl ?_
          refine AW.iconst dX6_behind_59 ?_
          refine AW.icmp_ne 67 dX6_behind_60 (by decide) (by omega) (by omega) (fun c60 => ?_) (fun c60 => ?_)
          · refine AW.iconst dX6_behind_67 ?_
            exact AW.iret rfl dX6_behind_68 (by
                have hs : ∀ q : Int, q = 4 → stpA wh r c = (q, r) := fun q hq => by
                  subst hq; unfold stpA
                  first
                    | (rw [if_neg (by omega), if_neg (by omega), if_pos (by omega), if_pos (by omega)]; done)
                    | (rw [if_neg (by omega), if_neg (by omega), if_pos (by omega), if_neg (by omega)]; done)
                    | (rw [if_neg (by omega), if_neg (by omega), if_neg (by omega), if_pos (by omega), if_pos (by omega)]; done)
                    | (rw [if_neg (by omega), if_neg (by omega), if_neg (by omega), if_pos (by omega), if_neg (by omega)]; done)
                    | (rw [if_neg (by omega), if_neg (by omega), if_neg (by omega), if_neg (by omega)]; done)
                rw [hs _ rfl]; exact ⟨rfl, off4.rfl', hr⟩)
          · refine AW.iconst dX6_behind_63 ?_
            refine AW.goto 68 dX6_behind_64 (by decide) ?_
            exact AW.iret rfl dX6_behind_68 (by
                have hs : ∀ q : Int, q = 3 → stpA wh r c = (q, r) := fun q hq => by
                  subst hq; unfold stpA
                  first
                    | (rw [if_neg (by omega), if_neg (by omega), if_pos (by omega), if_pos (by omega)]; done)
                    | (rw [if_neg (by omega), if_neg (by omega), if_pos (by omega), if_neg (by omega)]; done)
                    | (rw [if_neg (by omega), if_neg (by omega), if_neg (by omega), if_pos (by omega), if_pos (by omega)]; done)
                    | (rw [if_neg (by omega), if_neg (by omega), if_neg (by omega), if_pos (by omega), if_neg (by omega)]; done)
                    | (rw [if_neg (by omega), if_neg (by omega), if_neg (by omega), if_neg (by omega)]; done)
                rw [hs _ rfl]; exact ⟨rfl, off4.rfl', hr⟩)
    · refine AW.iload_n dX6_behind_28 0 rfl rfl ?_
      refine AW.iconst dX6_behind_29 ?_
      refine AW.icmp_ne 46 dX6_behind_30 (by decide) (by omega) (by omega) (fun c30 => ?_) (fun c30 => ?_)
      · refine AW.iconst dX6_behind_46 ?_
        exact AW.iret rfl dX6_behind_47 (by
            have hs : ∀ q : Int, q = 4 → stpA wh r c = (q, r) := fun q hq => by
              subst hq; unfold stpA
              first
                | (rw [if_neg (by omega), if_neg (by omega), if_pos (by omega), if_pos (by omega)]; done)
                | (rw [if_neg (by omega), if_neg (by omega), if_pos (by omega), if_neg (by omega)]; done)
                | (rw [if_neg (by omega), if_neg (by omega), if_neg (by omega), if_pos (by omega), if_pos (by omega)]; done)
                | (rw [if_neg (by omega), if_neg (by omega), if_neg (by omega), if_pos (by omega), if_neg (by omega)]; done)
                | (rw [if_neg (by omega), if_neg (by omega), if_neg (by omega), if_neg (by omega)]; done)
            rw [hs _ rfl]; exact ⟨rfl, off4.rfl', hr⟩)
      · refine AW.aload_n dX6_behind_33 2 rfl rfl ?_
        refine AW.getI dX6_behind_34 fl_X6_26 hk.1 rfl ?_
        rw [hr.2.1]
        refine AW.bipush (z := (6)) dX6_behind_37 (by decide) ?_
        refine AW.icmp_ge 46 dX6_behind_39 (by decide) (by have := ho.2.1; omega) (by omega) (fun c39 => ?_) (fun c39 => ?_)
        · refine AW.iconst dX6_behind_46 ?_
          exact AW.iret rfl dX6_behind_47 (by
              have hs : ∀ q : Int, q = 4 → stpA wh r c = (q, r) := fun q hq => by
                subst hq; unfold stpA
                first
                  | (rw [if_neg (by omega), if_neg (by omega), if_pos (by omega), if_pos (by omega)]; done)
                  | (rw [if_neg (by omega), if_neg (by omega), if_pos (by omega), if_neg (by omega)]; done)
                  | (rw [if_neg (by omega), if_neg (by omega), if_neg (by omega), if_pos (by omega), if_pos (by omega)]; done)
                  | (rw [if_neg (by omega), if_neg (by omega), if_neg (by omega), if_pos (by omega), if_neg (by omega)]; done)
                  | (rw [if_neg (by omega), if_neg (by omega), if_neg (by omega), if_neg (by omega)]; done)
              rw [hs _ rfl]; exact ⟨rfl, off4.rfl', hr⟩)
        · refine AW.iconst dX6_behind_42 ?_
          refine AW.goto 47 dX6_behind_43 (by decide) ?_
          exact AW.iret rfl dX6_behind_47 (by
              have hs : ∀ q : Int, q = 1 → stpA wh r c = (q, r) := fun q hq => by
                subst hq; unfold stpA
                first
                  | (rw [if_neg (by omega), if_neg (by omega), if_pos (by omega), if_pos (by omega)]; done)
                  | (rw [if_neg (by omega), if_neg (by omega), if_pos (by omega), if_neg (by omega)]; done)
                  | (rw [if_neg (by omega), if_neg (by omega), if_neg (by omega), if_pos (by omega), if_pos (by omega)]; done)
                  | (rw [if_neg (by omega), if_neg (by omega), if_neg (by omega), if_pos (by omega), if_neg (by omega)]; done)
                  | (rw [if_neg (by omega), if_neg (by omega), if_neg (by omega), if_neg (by omega)]; done)
              rw [hs _ rfl]; exact ⟨rfl, off4.rfl', hr⟩)
  · refine AW.iload_n dX6_behind_6 1 rfl rfl ?_
    refine AW.bipush (z := (122)) dX6_behind_7 (by decide) ?_
    refine AW.icmp_gt 22 dX6_behind_9 (by decide) (by omega) (by omega) (fun c9 => ?_) (fun c9 => ?_)
    · refine AW.iload_n dX6_behind_22 1 rfl rfl ?_
      refine AW.bipush (z := (44)) dX6_behind_23 (by decide) ?_
      refine AW.icmp_ne 48 dX6_behind_25 (by decide) (by omega) (by omega) (fun c25 => ?_) (fun c25 => ?_)
      · refine AW.iload_n dX6_behind_48 1 rfl rfl ?_
        refine AW.bipush (z := (58)) dX6_behind_49 (by decide) ?_
        refine AW.icmp_ne 69 dX6_behind_51 (by decide) (by omega) (by omega) (fun c51 => ?_) (fun c51 => ?_)
        · refine AW.iconst dX6_behind_69 ?_
          exact AW.iret rfl dX6_behind_70 (by
              have hs : ∀ q : Int, q = 4 → stpA wh r c = (q, r) := fun q hq => by
                subst hq; unfold stpA
                first
                  | (rw [if_neg (by omega), if_neg (by omega), if_pos (by omega), if_pos (by omega)]; done)
                  | (rw [if_neg (by omega), if_neg (by omega), if_pos (by omega), if_neg (by omega)]; done)
                  | (rw [if_neg (by omega), if_neg (by omega), if_neg (by omega), if_pos (by omega), if_pos (by omega)]; done)
                  | (rw [if_neg (by omega), if_neg (by omega), if_neg (by omega), if_pos (by omega), if_neg (by omega)]; done)
                  | (rw [if_neg (by omega), if_neg (by omega), if_neg (by omega), if_neg (by omega)]; done)
              rw [hs _ rfl]; exact ⟨rfl, off4.rfl', hr⟩)
        · refine AW.iload_n dX6_behind_54 0 rfl rfl ?_
          refine AW.if_eq 63 dX6_behind_55 (by decide) (by omega) (fun c55 => ?_) (fun c55 => ?_)
          · refine AW.iconst dX6_behind_63 ?_
            refine AW.goto 68 dX6_behind_64 (by decide) ?_
            exact AW.iret rfl dX6_behind_68 (by
                have hs : ∀ q : Int, q = 3 → stpA wh r c = (q, r) := fun q hq => by
                  subst hq; unfold stpA
                  first
                    | (rw [if_neg (by omega), if_neg (by omega), if_pos (by omega), if_pos (by omega)]; done)
                    | (rw [if_neg (by omega), if_neg (by omega), if_pos (by omega), if_neg (by omega)]; done)
                    | (rw [if_neg (by omega), if_neg (by omega), if_neg (by omega), if_pos (by omega), if_pos (by omega)]; done)
                    | (rw [if_neg (by omega), if_neg (by omega), if_neg (by omega), if_pos (by omega), if_neg (by omega)]; done)
                    | (rw [if_neg (by omega), if_neg (by omega), if_neg (by omega), if_neg (by omega)]; done)
                rw [hs _ rfl]; exact ⟨rfl, off4.rfl', hr⟩)
          · refine AW.iload_n dX6_behind_58 0 rfl rfl ?_
            refine AW.iconst dX6_behind_59 ?_
            refine AW.icmp_ne 67 dX6_behind_60 (by decide) (by omega) (by omega) (fun c60 => ?_) (fun c60 => ?_)
            · refine AW.iconst dX6_behind_67 ?_
              exact AW.iret rfl dX6_behind_68 (by
                  have hs : ∀ q : Int, q = 4 → stpA wh r c = (q, r) := fun q hq => by
                    subst hq; unfold stpA
                    first
                      | (rw [if_neg (by omega), if_neg (by omega), if_pos (by omega), if_pos (by omega)]; done)
                      | (rw [if_neg (by omega), if_neg (by omega), if_pos (by omega), if_neg (by omega)]; done)
                      | (rw [if_neg (by omega), if_neg (by omega), if_neg (by omega), if_pos (by omega), if_pos (by omega)]; done)
                      | (rw [if_neg (by omega), if_neg (by omega), if_neg (by omega), if_pos (by omega), if_neg (by omega)]; done)
                      | (rw [if_neg (by omega), if_neg (by omega), if_neg (by omega), if_neg (by omega)]; done)
                  rw [hs _ rfl]; exact ⟨rfl, off4.rfl', hr⟩)
            · refine AW.iconst dX6_behind_63 ?_
              refine AW.goto 68 dX6_behind_64 (by decide) ?_
              exact AW.iret rfl dX6_behind_68 (by
                  have hs : ∀ q : Int, q = 3 → stpA wh r c = (q, r) := fun q hq => by
                    subst hq; unfold stpA
                    first
                      | (rw [if_neg (by omega), if_neg (by omega), if_pos (by omega), if_pos (by omega)]; done)
                      | (rw [if_neg (by omega), if_neg (by omega), if_pos (by omega), if_neg (by omega)]; done)
                      | (rw [if_neg (by omega), if_neg (by omega), if_neg (by omega), if_pos (by omega), if_pos (by omega)]; done)
                      | (rw [if_neg (by omega), if_neg (by omega), if_neg (by omega), if_pos (by omega), if_neg (by omega)]; done)
                      | (rw [if_neg (by omega), if_neg (by omega), if_neg (by omega), if_neg (by omega)]; done)
                  rw [hs _ rfl]; exact ⟨rfl, off4.rfl', hr⟩)
      · refine AW.iload_n dX6_behind_28 0 rfl rfl ?_
        refine AW.iconst dX6_behind_29 ?_
        refine AW.icmp_ne 46 dX6_behind_30 (by decide) (by omega) (by omega) (fun c30 => ?_) (fun c30 => ?_)
        · refine AW.iconst dX6_behind_46 ?_
          exact AW.iret rfl dX6_behind_47 (by
              have hs : ∀ q : Int, q = 4 → stpA wh r c = (q, r) := fun q hq => by
                subst hq; unfold stpA
                first
                  | (rw [if_neg (by omega), if_neg (by omega), if_pos (by omega), if_pos (by omega)]; done)
                  | (rw [if_neg (by omega), if_neg (by omega), if_pos (by omega), if_neg (by omega)]; done)
                  | (rw [if_neg (by omega), if_neg (by omega), if_neg (by omega), if_pos (by omega), if_pos (by omega)]; done)
                  | (rw [if_neg (by omega), if_neg (by omega), if_neg (by omega), if_pos (by omega), if_neg (by omega)]; done)
                  | (rw [if_neg (by omega), if_neg (by omega), if_neg (by omega), if_neg (by omega)]; done)
              rw [hs _ rfl]; exact ⟨rfl, off4.rfl', hr⟩)
        · refine AW.aload_n dX6_behind_33 2 rfl rfl ?_
          refine AW.getI dX6_behind_34 fl_X6_26 hk.1 rfl ?_
          rw [hr.2.1]
          refine AW.bipush (z := (6)) dX6_behind_37 (by decide) ?_
          refine AW.icmp_ge 46 dX6_behind_39 (by decide) (by have := ho.2.1; omega) (by omega) (fun c39 => ?_) (fun c39 => ?_)
          · refine AW.iconst dX6_behind_46 ?_
            exact AW.iret rfl dX6_behind_47 (by
                have hs : ∀ q : Int, q = 4 → stpA wh r c = (q, r) := fun q hq => by
                  subst hq; unfold stpA
                  first
                    | (rw [if_neg (by omega), if_neg (by omega), if_pos (by omega), if_pos (by omega)]; done)
                    | (rw [if_neg (by omega), if_neg (by omega), if_pos (by omega), if_neg (by omega)]; done)
                    | (rw [if_neg (by omega), if_neg (by omega), if_neg (by omega), if_pos (by omega), if_pos (by omega)]; done)
                    | (rw [if_neg (by omega), if_neg (by omega), if_neg (by omega), if_pos (by omega), if_neg (by omega)]; done)
                    | (rw [if_neg (by omega), if_neg (by omega), if_neg (by omega), if_neg (by omega)]; done)
                rw [hs _ rfl]; exact ⟨rfl, off4.rfl', hr⟩)
          · refine AW.iconst dX6_behind_42 ?_
            refine AW.goto 47 dX6_behind_43 (by decide) ?_
            exact AW.iret rfl dX6_behind_47 (by
                have hs : ∀ q : Int, q = 1 → stpA wh r c = (q, r) := fun q hq => by
                  subst hq; unfold stpA
                  first
                    | (rw [if_neg (by omega), if_neg (by omega), if_pos (by omega), if_pos (by omega)]; done)
                    | (rw [if_neg (by omega), if_neg (by omega), if_pos (by omega), if_neg (by omega)]; done)
                    | (rw [if_neg (by omega), if_neg (by omega), if_neg (by omega), if_pos (by omega), if_pos (by omega)]; done)
                    | (rw [if_neg (by omega), if_neg (by omega), if_neg (by omega), if_pos (by omega), if_neg (by omega)]; done)
                    | (rw [if_neg (by omega), if_neg (by omega), if_neg (by omega), if_neg (by omega)]; done)
                rw [hs _ rfl]; exact ⟨rfl, off4.rfl', hr⟩)
    · refine AW.iload_n dX6_behind_12 0 rfl rfl ?_
      refine AW.iload_n dX6_behind_13 1 rfl rfl ?_
      refine AW.bipush (z := (97)) dX6_behind_14 (by decide) ?_
      refine AW.isub dX6_behind_16 ?_
      refine AW.aload_n dX6_behind_17 2 rfl rfl ?_
      refine AW.callS3i (C_behindLetter Γ M k hk r ho hr wh (c - 97) hwh hw2 (by omega)) dX6_behind_18 mc_X6_23 (fun _ => rfl) ⟨Nat.le_of_ble_eq_true rfl, Nat.le_of_ble_eq_true rfl⟩ (Nat.le_of_ble_eq_true rfl) (fun z18 M18 h18 => ?_)
      rw [show c - 97 + 97 = c by omega] at h18
      exact AW.iret rfl dX6_behind_21 h18

set_option maxRecDepth 20000 in
theorem readInto_loop (Γ : GC) (M : Mm) (r : Nat → Int) (ho : OkR r) (hn : 0 ≤ M 83 1 ∧ M 83 1 ≤ 90) (htp : ∀ j : Nat, (j : Int) < M 83 1 → 32 ≤ M 84 j ∧ M 84 j ≤ 126) : ∀ (n i : Nat) (x wh : Int) (N : Mm), x = i → (i : Int) ≤ M 83 1 → nof (M 84) r i → wh = (aut (M 84) r i).1 → stRel N 61 (aut (M 84) r i).2 → off4 61 M N → 90 - i < n → AW Γ uX6_readInto 4 [(3, vi x), (2, vi wh), (0, rf Γ 83), (1, rf Γ 61)] [] N (fun z M' => flt (M 84) r (M 83 1).toNat z ∧ off4 61 M M' ∧ (z < 0 → stRel M' 61 (aut (M 84) r (M 83 1).toNat).2)) := by
  intro n
  induction n with
  | zero => intro i x wh N g0 g1 g2 g4 g3 g5 gm; omega
  | succ n ih =>
    intro i x wh N g0 g1 g2 g4 g3 g5 gm
    have e83 : N 83 = M 83 := g5 83 (by omega)
    have e84 : N 84 = M 84 := g5 84 (by omega)
    have hok := okA_aut (M 84) ho i
    have hob := hok.2.1
    refine AW.iload_n dX6_readInto_4 0 rfl rfl ?_
    refine AW.aload_n dX6_readInto_5 2 rfl rfl ?_
    refine AW.getI dX6_readInto_6 fl_X6_15 (show sh 83 = (0, 6, [some 84, none]) from rfl) rfl ?_
    rw [e83]
    refine AW.icmp_ge 48 dX6_readInto_9 (by decide) (by omega) (by omega) (fun c9 => ?_) (fun c9 => ?_)
    · refine AW.iload_n dX6_readInto_48 1 rfl rfl ?_
      refine AW.iconst dX6_readInto_49 ?_
      refine AW.icmp_ne 57 dX6_readInto_50 (by decide) (by omega) (by omega) (fun c50 => ?_) (fun c50 => ?_)
      · refine AW.aload_n dX6_readInto_57 2 rfl rfl ?_
        refine AW.getI dX6_readInto_58 fl_X6_15 (show sh 83 = (0, 6, [some 84, none]) from rfl) rfl ?_
        exact AW.iret rfl dX6_readInto_61 (by
            have hi : i = (M 83 1).toNat := by omega
            subst hi
            exact ⟨Or.inr (Or.inl ⟨g2, by rw [← g4]; omega, by rw [e83]; omega⟩), g5, fun q => by rw [e83] at q; omega⟩)
      · refine AW.iconst dX6_readInto_53 ?_
        refine AW.goto 61 dX6_readInto_54 (by decide) ?_
        exact AW.iret rfl dX6_readInto_61 (by
            have hi : i = (M 83 1).toNat := by omega
            subst hi
            exact ⟨Or.inr (Or.inr ⟨g2, by rw [← g4]; omega, rfl⟩), g5, fun _ => g3⟩)
    · have hti := htp i (by omega)
      refine AW.aload_n dX6_readInto_12 2 rfl rfl ?_
      refine AW.getR dX6_readInto_13 fl_X6_9 (show sh 83 = (0, 6, [some 84, none]) from rfl) rfl ?_
      refine AW.iload_n dX6_readInto_16 0 rfl rfl ?_
      refine AW.ialdN i dX6_readInto_17 (show sh 84 = (1, 90, []) from rfl) (by omega) (by omega) (by decide) ?_
      rw [e84]
      refine AW.bipush (z := (32)) dX6_readInto_18 (by decide) ?_
      refine AW.icmp_eq 35 dX6_readInto_20 (by decide) (by omega) (by omega) (fun c20 => ?_) (fun c20 => ?_)
      · have hst : aut (M 84) r (i + 1) = aut (M 84) r i := by
          show stpA _ _ _ = _
          rw [c20]; unfold stpA; rw [if_pos rfl]
        refine AW.iload_n dX6_readInto_35 1 rfl rfl ?_
        refine AW.iconst dX6_readInto_36 ?_
        refine AW.icmp_ne 42 dX6_readInto_37 (by decide) (by omega) (by omega) (fun c37 => ?_) (fun c37 => ?_)
        · obtain ⟨x42, ex42⟩ : ∃ z : Int, x + 1 = z := ⟨_, rfl⟩
          refine AW.iinc [(3, vi x42), (2, vi wh), (0, rf Γ 83), (1, rf Γ 61)] dX6_readInto_42 0 rfl (by decide) x42 ex42 rfl ?_
          refine AW.goto 4 dX6_readInto_45 (by decide) ?_
          refine AW.sub [0, 1, 2, 3] rfl ?_
          refine ih (i + 1) x42 wh _ (by omega) (by omega) (g2.next (by rw [hst]; exact g2 i (Nat.le_refl _))) (by rw [hst]; exact g4) (by rw [hst]; exact g3) g5 (by omega)
        · refine AW.iload_n dX6_readInto_40 0 rfl rfl ?_
          exact AW.iret rfl dX6_readInto_41 (by exfalso; have := g2 i (Nat.le_refl _); omega)
      · have hst : stpA (aut (M 84) r i).1 (aut (M 84) r i).2 (M 84 i) = aut (M 84) r (i + 1) := rfl
        refine AW.iload_n dX6_readInto_23 1 rfl rfl ?_
        refine AW.aload_n dX6_readInto_24 2 rfl rfl ?_
        refine AW.getR dX6_readInto_25 fl_X6_9 (show sh 83 = (0, 6, [some 84, none]) from rfl) rfl ?_
        refine AW.iload_n dX6_readInto_28 0 rfl rfl ?_
        refine AW.ialdN i dX6_readInto_29 (show sh 84 = (1, 90, []) from rfl) (by omega) (by omega) (by decide) ?_
        rw [e84]
        refine AW.aload_n dX6_readInto_30 3 rfl rfl ?_
        refine AW.callS3i (C_behind Γ N 61 st61 _ (okA_aut (M 84) ho i).1 g3 wh (M 84 i) (by have := hok.2.1; have := g2 i (Nat.le_refl _); omega) (by rw [g4]; exact hok.2.2.2.2) (by have := htp i (by omega); omega)) dX6_readInto_31 mc_X6_19 (fun _ => rfl) ⟨Nat.le_of_ble_eq_true rfl, Nat.le_of_ble_eq_true rfl⟩ (Nat.le_of_ble_eq_true rfl) (fun z31 M31 h31 => ?_)
        obtain ⟨e31, f31, s31⟩ := h31
        rw [g4, hst] at e31 s31
        have hb31 := (okA_aut (M 84) ho (i + 1)).2.1
        refine AW.top (fun wx ewx => ?_)
        refine AW.istore_n [(2, vi wx), (3, vi x), (0, rf Γ 83), (1, rf Γ 61)] dX6_readInto_34 rfl (by decide) rfl ?_
        refine AW.iload_n dX6_readInto_35 0 rfl rfl ?_
        refine AW.iconst dX6_readInto_36 ?_
        refine AW.icmp_ne 42 dX6_readInto_37 (by decide) (by omega) (by omega) (fun c37 => ?_) (fun c37 => ?_)
        · obtain ⟨x42, ex42⟩ : ∃ z : Int, x + 1 = z := ⟨_, rfl⟩
          refine AW.iinc [(3, vi x42), (2, vi wx), (0, rf Γ 83), (1, rf Γ 61)] dX6_readInto_42 1 rfl (by decide) x42 ex42 rfl ?_
          refine AW.goto 4 dX6_readInto_45 (by decide) ?_
          refine AW.sub [0, 1, 2, 3] rfl ?_
          refine ih (i + 1) x42 wx _ (by omega) (by omega) (g2.next (by omega)) (by rw [ewx, e31]) s31 (g5.trans f31) (by omega)
        · refine AW.iload_n dX6_readInto_40 1 rfl rfl ?_
          exact AW.iret rfl dX6_readInto_41 (by
              exact ⟨Or.inl ⟨i, by omega, g0, g2, by omega⟩, g5.trans f31, fun q => by omega⟩)

set_option maxRecDepth 20000 in
theorem C_readInto (Γ : GC) (M : Mm) (r : Nat → Int) (ho : OkR r) (hr : stRel M 61 (forR r)) (hn : 0 ≤ M 83 1 ∧ M 83 1 ≤ 90) (htp : ∀ j : Nat, (j : Int) < M 83 1 → 32 ≤ M 84 j ∧ M 84 j ≤ 126) : Ct Γ uX6_readInto [rf Γ 83, rf Γ 61] M (fun z M' => flt (M 84) r (M 83 1).toNat z ∧ off4 61 M M' ∧ (z < 0 → stRel M' 61 (aut (M 84) r (M 83 1).toNat).2)) := by
  refine Ct.of (by decide) (Nat.le_of_ble_eq_true rfl) ?_
  show AW Γ uX6_readInto 0 [(0, rf Γ 83), (1, rf Γ 61)] [] M _
  refine AW.iconst dX6_readInto_0 ?_
  refine AW.top (fun x1 ex1 => ?_)
  refine AW.istore_n [(2, vi x1), (0, rf Γ 83), (1, rf Γ 61)] dX6_readInto_1 rfl (by decide) rfl ?_
  refine AW.iconst dX6_readInto_2 ?_
  refine AW.top (fun x3 ex3 => ?_)
  refine AW.istore_n [(3, vi x3), (2, vi x1), (0, rf Γ 83), (1, rf Γ 61)] dX6_readInto_3 rfl (by decide) rfl ?_
  refine AW.sub [0, 1, 2, 3] rfl ?_
  exact readInto_loop Γ M r ho hn htp 92 0 x3 x1 M (by omega) (by omega) (nof_0 _ _) (by rw [ex1]; rfl) hr off4.rfl' (by omega)

set_option maxRecDepth 20000 in
theorem C_read (Γ : GC) (M : Mm) (r A : Nat → Int) (u : Int) (ho : OkR r) (hr : stRel M 1 r) (hp : pastRel M 5 u A) (hn : 0 ≤ M 83 1 ∧ M 83 1 ≤ 90) (htp : ∀ j : Nat, (j : Int) < M 83 1 → 32 ≤ M 84 j ∧ M 84 j ≤ 126) : Ct Γ uX8_read [rf Γ 0] M (fun z M' => ∃ f : Int, flt (M 84) r (M 83 1).toNat f ∧ M' 83 1 = 0 ∧ ((0 ≤ f ∧ z = -20 - f ∧ stRel M' 1 r ∧ pastRel M' 5 u A) ∨ (f < 0 ∧ z = (aut (M 84) r (M 83 1).toNat).2 0 ∧ stRel M' 1 (aut (M 84) r (M 83 1).toNat).2 ∧ pastRel M' 5 (nxU u) (ntA A r u))) ∧ ∀ a : Nat, (a < 1 ∨ (30 < a ∧ a < 61) ∨ 64 < a) → a ≠ 83 → M' a = M a) := by
  refine Ct.of (by decide) (Nat.le_of_ble_eq_true rfl) ?_
  show AW Γ uX8_read 0 [(0, rf Γ 0)] [] M _
  refine AW.aload_n dX8_read_0 0 rfl rfl ?_
  refine AW.getR dX8_read_1 fl_X8_33 (show sh 0 = (0, 8, [some 1, some 5, some 31, some 35, none, some 61, some 65, some 71, some 76, some 79, some 83, some 85]) from rfl) rfl ?_
  refine AW.aload_n dX8_read_4 0 rfl rfl ?_
  refine AW.getR dX8_read_5 fl_X8_10 (show sh 0 = (0, 8, [some 1, some 5, some 31, some 35, none, some 61, some 65, some 71, some 76, some 79, some 83, some 85]) from rfl) rfl ?_
  refine AW.callV1v (C_become Γ M 61 1 st61 st1 (by decide)) dX8_read_8 mc_X8_108 (show sh 61 = (0, 5, [some 62, none, some 63, some 64, none, none, none, none]) from rfl) (fun _ => rfl) ⟨Nat.le_of_ble_eq_true rfl, Nat.le_of_ble_eq_true rfl⟩ (Nat.le_of_ble_eq_true rfl) (fun z8 M8 h8 => ?_)
  obtain ⟨f8, r8⟩ := h8
  refine AW.aload_n dX8_read_11 0 rfl rfl ?_
  refine AW.getR dX8_read_12 fl_X8_33 (show sh 0 = (0, 8, [some 1, some 5, some 31, some 35, none, some 61, some 65, some 71, some 76, some 79, some 83, some 85]) from rfl) rfl ?_
  refine AW.callV0v (C_forgetText Γ _ 61 st61) dX8_read_15 mc_X8_226 (show sh 61 = (0, 5, [some 62, none, some 63, some 64, none, none, none, none]) from rfl) (fun _ => rfl) ⟨Nat.le_of_ble_eq_true rfl, Nat.le_of_ble_eq_true rfl⟩ (Nat.le_of_ble_eq_true rfl) (fun z15 M15 h15 => ?_)
  obtain ⟨f15, r15⟩ := h15
  have q83 : M15 83 = M 83 := by rw [f15 83 (by omega), f8 83 (by omega)]
  have q84 : M15 84 = M 84 := by rw [f15 84 (by omega), f8 84 (by omega)]
  refine AW.aload_n dX8_read_18 0 rfl rfl ?_
  refine AW.getR dX8_read_19 fl_X8_67 (show sh 0 = (0, 8, [some 1, some 5, some 31, some 35, none, some 61, some 65, some 71, some 76, some 79, some 83, some 85]) from rfl) rfl ?_
  refine AW.aload_n dX8_read_22 0 rfl rfl ?_
  refine AW.getR dX8_read_23 fl_X8_33 (show sh 0 = (0, 8, [some 1, some 5, some 31, some 35, none, some 61, some 65, some 71, some 76, some 79, some 83, some 85]) from rfl) rfl ?_
  refine AW.callV1i (C_readInto Γ M15 r ho (r15 r (r8 r ho hr)) (by rw [q83]; exact hn) (by rw [q83, q84]; exact htp)) dX8_read_26 mc_X8_229 (show sh 83 = (0, 6, [some 84, none]) from rfl) (fun _ => rfl) ⟨Nat.le_of_ble_eq_true rfl, Nat.le_of_ble_eq_true rfl⟩ (Nat.le_of_ble_eq_true rfl) (fun z26 M26 h26 => ?_)
  rw [q83, q84] at h26
  obtain ⟨y26, f26, s26⟩ := h26
  have fz := flt_n y26
  have fA : off4 61 M M26 := (f8.trans f15).trans f26
  refine AW.top (fun ft eft => ?_)
  refine AW.istore_n [(1, vi ft), (0, rf Γ 0)] dX8_read_29 rfl (by decide) rfl ?_
  refine AW.aload_n dX8_read_30 1 rfl rfl ?_
  refine AW.getR dX8_read_31 fl_X8_67 (show sh 0 = (0, 8, [some 1, some 5, some 31, some 35, none, some 61, some 65, some 71, some 76, some 79, some 83, some 85]) from rfl) rfl ?_
  refine AW.iconst dX8_read_34 ?_
  refine AW.putI dX8_read_35 fp_X8_233 (show sh 83 = (0, 6, [some 84, none]) from rfl) rfl ?_
  subst eft
  obtain ⟨M1, hM1⟩ : ∃ q : Mm, q = up2 M26 83 1 0 := ⟨_, rfl⟩
  rw [← hM1]
  have fM : ∀ a : Nat, (a < 61 ∨ 64 < a) → a ≠ 83 → M1 a = M a := fun a q1 q2 => by rw [hM1, up2_c q2, fA a (by omega)]
  have s1 : stRel M1 1 r := hr.frame (fM _ (by decide) (by decide)) (fM _ (by decide) (by decide)) (fM _ (by decide) (by decide)) (fM _ (by decide) (by decide))
  have p1 : pastRel M1 5 u A := hp.frame (fun a h1 h2 => fM a (by omega) (by omega))
  refine AW.iload_n dX8_read_38 0 rfl rfl ?_
  refine AW.if_lt 47 dX8_read_39 (by decide) (by omega) (fun c39 => ?_) (fun c39 => ?_)
  · refine AW.aload_n dX8_read_47 1 rfl rfl ?_
    refine AW.getR dX8_read_48 fl_X8_19 (show sh 0 = (0, 8, [some 1, some 5, some 31, some 35, none, some 61, some 65, some 71, some 76, some 79, some 83, some 85]) from rfl) rfl ?_
    refine AW.aload_n dX8_read_51 1 rfl rfl ?_
    refine AW.getR dX8_read_52 fl_X8_10 (show sh 0 = (0, 8, [some 1, some 5, some 31, some 35, none, some 61, some 65, some 71, some 76, some 79, some 83, some 85]) from rfl) rfl ?_
    refine AW.callV1v (C_padd Γ M1 5 1 pa5 st1 (by decide) p1.2.2.1 (by rw [p1.1]; exact p1.2.1)) dX8_read_55 mc_X8_236 (show sh 5 = (0, 2, [some 6, none, none]) from rfl) (fun _ => rfl) ⟨Nat.le_of_ble_eq_true rfl, Nat.le_of_ble_eq_true rfl⟩ (Nat.le_of_ble_eq_true rfl) (fun z55 M55 h55 => ?_)
    obtain ⟨f55, r55⟩ := h55
    refine AW.aload_n dX8_read_58 1 rfl rfl ?_
    refine AW.getR dX8_read_59 fl_X8_10 (show sh 0 = (0, 8, [some 1, some 5, some 31, some 35, none, some 61, some 65, some 71, some 76, some 79, some 83, some 85]) from rfl) rfl ?_
    refine AW.aload_n dX8_read_62 1 rfl rfl ?_
    refine AW.getR dX8_read_63 fl_X8_33 (show sh 0 = (0, 8, [some 1, some 5, some 31, some 35, none, some 61, some 65, some 71, some 76, some 79, some 83, some 85]) from rfl) rfl ?_
    refine AW.callV1v (C_become Γ M55 1 61 st1 st61 (by decide)) dX8_read_66 mc_X8_108 (show sh 1 = (0, 5, [some 2, none, some 3, some 4, none, none, none, none]) from rfl) (fun _ => rfl) ⟨Nat.le_of_ble_eq_true rfl, Nat.le_of_ble_eq_true rfl⟩ (Nat.le_of_ble_eq_true rfl) (fun z66 M66 h66 => ?_)
    obtain ⟨f66, r66⟩ := h66
    have s61 : stRel M55 61 (aut (M 84) r (M 83 1).toNat).2 := (s26 (by omega)).frame (by rw [f55 61 (by omega), hM1, up2_c (by decide)]) (by rw [f55 62 (by omega), hM1, up2_c (by decide)]) (by rw [f55 63 (by omega), hM1, up2_c (by decide)]) (by rw [f55 64 (by omega), hM1, up2_c (by decide)])
    have sN := r66 _ (okA_aut (M 84) ho _).1 s61
    refine AW.aload_n dX8_read_69 1 rfl rfl ?_
    refine AW.getR dX8_read_70 fl_X8_10 (show sh 0 = (0, 8, [some 1, some 5, some 31, some 35, none, some 61, some 65, some 71, some 76, some 79, some 83, some 85]) from rfl) rfl ?_
    refine AW.getI dX8_read_73 fl_X8_137 (show sh 1 = (0, 5, [some 2, none, some 3, some 4, none, none, none, none]) from rfl) rfl ?_
    exact AW.iret rfl dX8_read_76 ⟨ft, y26, by rw [f66 83 (by omega), f55 83 (by omega), hM1, up2_s], Or.inr ⟨by omega, sN.1, sN, (r55 u A r p1 ho s1).frame (fun a h1 h2 => f66 a (by omega))⟩, fun a q1 q2 => by rw [f66 a (by omega), f55 a (by omega), fM a (by omega) q2]⟩
  · refine AW.bipush (z := (-20)) dX8_read_42 (by decide) ?_
    refine AW.iload_n dX8_read_44 0 rfl rfl ?_
    refine AW.isub dX8_read_45 ?_
    exact AW.iret rfl dX8_read_46 ⟨ft, y26, by rw [hM1, up2_s], Or.inl ⟨by omega, rfl, s1, p1⟩, fun a q1 q2 => fM a (by omega) q2⟩
