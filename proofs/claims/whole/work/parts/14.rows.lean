/-! rows: what a deed makes of a row, and what it answers -/
def sayZ (r : Nat → Int) (c : Int) : Int := if 0 ≤ c ∧ c < 26 then (if r 0 = 12 then -3 else r 0 + 1) else -1
def sayR (r : Nat → Int) (c : Int) : Nat → Int := if (0 ≤ c ∧ c < 26) ∧ ¬ r 0 = 12 then up1 (up1 r (5 + (r 0).toNat) c) 0 (r 0 + 1) else r
def backZ (r : Nat → Int) : Int := if r 0 = 0 then -4 else r (5 + (r 0 - 1).toNat)
def backR (r : Nat → Int) : Nat → Int := if r 0 = 0 then r else up1 r 0 (r 0 - 1)
def keepZ (r : Nat → Int) : Int := if 1 ≤ r 0 ∧ r 0 ≤ 6 then (if r 1 = 6 then -3 else r 1) else -2
def keepR (r : Nat → Int) : Nat → Int := if (1 ≤ r 0 ∧ r 0 ≤ 6) ∧ ¬ r 1 = 6 then (fun j => if j = 1 then r 1 + 1 else if j = 17 + 7 * (r 1).toNat then r 0 else if 18 + 7 * (r 1).toNat ≤ j ∧ j < 24 + 7 * (r 1).toNat then (if ((j - (18 + 7 * (r 1).toNat) : Nat) : Int) < r 0 then r (5 + (j - (18 + 7 * (r 1).toNat))) else 0) else r j) else r
def loseZ (r : Nat → Int) (k : Int) : Int := if 0 ≤ k ∧ k < r 1 then r 1 - 1 else -1
def loseR (r : Nat → Int) (k : Int) : Nat → Int := if 0 ≤ k ∧ k < r 1 then (fun j => if j = 1 then r 1 - 1 else if 17 + 7 * k.toNat ≤ j ∧ j < 17 + 7 * (r 1 - 1).toNat then r (j + 7) else r j) else r
def callZ (r : Nat → Int) (k : Int) : Int := if 0 ≤ k ∧ k < r 1 then (if r 0 + r (17 + 7 * k.toNat) > 12 then -3 else r 0 + r (17 + 7 * k.toNat)) else -1
def callR (r : Nat → Int) (k : Int) : Nat → Int := if (0 ≤ k ∧ k < r 1) ∧ ¬ r 0 + r (17 + 7 * k.toNat) > 12 then (fun j => if j = 0 then r 0 + r (17 + 7 * k.toNat) else if 5 + (r 0).toNat ≤ j ∧ j < 5 + (r 0 + r (17 + 7 * k.toNat)).toNat then r (18 + 7 * k.toNat + (j - (5 + (r 0).toNat))) else r j) else r
def tellZ (r : Nat → Int) (w v : Int) : Int := if (0 ≤ w ∧ w ≤ 1) ∧ (1 ≤ v ∧ v ≤ 4) then (if r (2 + w.toNat) = v then -2 else r (2 + w.toNat)) else -1
def tellR (r : Nat → Int) (w v : Int) : Nat → Int := if ((0 ≤ w ∧ w ≤ 1) ∧ (1 ≤ v ∧ v ≤ 4)) ∧ ¬ r (2 + w.toNat) = v then up1 r (2 + w.toNat) v else r
theorem OkR.say {r : Nat → Int} (h : OkR r) (c : Int) : OkR (sayR r c) := by
  unfold sayR; split
  · rename_i hc
    obtain ⟨h0, h1, h2, h3, h4, h5, h6⟩ := h
    refine ⟨?_, ?_, ?_, ?_, ?_, ?_, ?_⟩
    · simp [up1]; omega
    · simp only [up1]; rw [if_neg (by omega), if_neg (by omega)]; exact h1
    · simp only [up1]; rw [if_neg (by omega), if_neg (by omega)]; exact h2
    · simp only [up1]; rw [if_neg (by omega), if_neg (by omega)]; exact h3
    · simp only [up1]; rw [if_neg (by omega), if_neg (by omega)]; exact h4
    · intro i hi
      simp only [up1] at *
      rw [if_neg (by omega)]
      split
      · exact hc.1
      · exact h5 i (by simp at hi; omega)
    · intro w hw
      simp only [up1] at *
      rw [if_neg (by omega), if_neg (by omega)] at *
      refine ⟨(h6 w hw).1, fun i hi => ?_⟩
      rw [if_neg (by omega), if_neg (by omega)] at *
      exact (h6 w hw).2 i hi
  · exact h
theorem OkR.back {r : Nat → Int} (h : OkR r) : OkR (backR r) := by
  unfold backR; split
  · exact h
  · rename_i hc
    obtain ⟨h0, h1, h2, h3, h4, h5, h6⟩ := h
    refine ⟨?_, ?_, ?_, ?_, ?_, ?_, ?_⟩
    · simp [up1]; omega
    · simp only [up1]; rw [if_neg (by omega)]; exact h1
    · simp only [up1]; rw [if_neg (by omega)]; exact h2
    · simp only [up1]; rw [if_neg (by omega)]; exact h3
    · simp only [up1]; rw [if_neg (by omega)]; exact h4
    · intro i hi
      simp only [up1] at *
      rw [if_neg (by omega)]
      exact h5 i (by simp at hi; omega)
    · intro w hw
      simp only [up1] at *
      rw [if_neg (by omega)] at *
      refine ⟨(h6 w hw).1, fun i hi => ?_⟩
      rw [if_neg (by omega)] at *
      exact (h6 w hw).2 i hi
theorem OkR.keep {r : Nat → Int} (h : OkR r) : OkR (keepR r) := by
  unfold keepR; split
  · rename_i hc
    obtain ⟨h0, h1, h2, h3, h4, h5, h6⟩ := h
    refine ⟨?_, ?_, ?_, ?_, ?_, ?_, ?_⟩
    · dsimp only; rw [if_neg (by omega), if_neg (by omega), if_neg (by omega)]; exact h0
    · dsimp only; rw [if_pos rfl]; omega
    · dsimp only; rw [if_neg (by omega), if_neg (by omega), if_neg (by omega)]; exact h2
    · dsimp only; rw [if_neg (by omega), if_neg (by omega), if_neg (by omega)]; exact h3
    · dsimp only; rw [if_neg (by omega), if_neg (by omega), if_neg (by omega)]; exact h4
    · intro i hi
      dsimp only at hi ⊢
      rw [if_neg (by omega), if_neg (by omega), if_neg (by omega)] at *
      exact h5 i hi
    · intro w hw
      dsimp only at hw ⊢
      rw [if_pos rfl] at hw
      rcases Int.lt_or_le (w : Int) (r 1) with q | q
      · rw [if_neg (by omega), if_neg (by omega), if_neg (by omega)]
        refine ⟨(h6 w q).1, fun i hi => ?_⟩
        have := (h6 w q).1
        rw [if_neg (by omega), if_neg (by omega), if_neg (by omega)]
        exact (h6 w q).2 i hi
      · have hw2 : w = (r 1).toNat := by omega
        subst hw2
        rw [if_neg (by omega), if_pos rfl]
        refine ⟨hc.1, fun i hi => ?_⟩
        rw [if_neg (by omega), if_neg (by omega), if_pos (by omega), if_pos (by omega)]
        exact h5 _ (by omega)
  · exact h
theorem OkR.lose {r : Nat → Int} (h : OkR r) (k : Int) : OkR (loseR r k) := by
  unfold loseR; split
  · rename_i hc
    obtain ⟨h0, h1, h2, h3, h4, h5, h6⟩ := h
    refine ⟨?_, ?_, ?_, ?_, ?_, ?_, ?_⟩
    · dsimp only; rw [if_neg (by omega), if_neg (by omega)]; exact h0
    · dsimp only; rw [if_pos rfl]; omega
    · dsimp only; rw [if_neg (by omega), if_neg (by omega)]; exact h2
    · dsimp only; rw [if_neg (by omega), if_neg (by omega)]; exact h3
    · dsimp only; rw [if_neg (by omega), if_neg (by omega)]; exact h4
    · intro i hi
      dsimp only at hi ⊢
      rw [if_neg (by omega), if_neg (by omega)] at *
      exact h5 i hi
    · intro w hw
      dsimp only at hw ⊢
      rw [if_pos rfl] at hw
      rcases Int.lt_or_le (w : Int) k with q | q
      · rw [if_neg (by omega), if_neg (by omega)]
        refine ⟨(h6 w (by omega)).1, fun i hi => ?_⟩
        have := (h6 w (by omega)).1
        rw [if_neg (by omega), if_neg (by omega)]
        exact (h6 w (by omega)).2 i hi
      · have h7 := h6 (w + 1) (by omega)
        rw [if_neg (by omega), if_pos (by omega), show 17 + 7 * w + 7 = 17 + 7 * (w + 1) by omega]
        refine ⟨h7.1, fun i hi => ?_⟩
        have := h7.1
        rw [if_neg (by omega), if_pos (by omega), show 18 + 7 * w + i + 7 = 18 + 7 * (w + 1) + i by omega]
        exact h7.2 i hi
  · exact h
theorem OkR.call {r : Nat → Int} (h : OkR r) (k : Int) : OkR (callR r k) := by
  unfold callR; split
  · rename_i hc
    obtain ⟨h0, h1, h2, h3, h4, h5, h6⟩ := h
    have hk := h6 k.toNat (by omega)
    refine ⟨?_, ?_, ?_, ?_, ?_, ?_, ?_⟩
    · dsimp only; rw [if_pos rfl]; omega
    · dsimp only; rw [if_neg (by omega), if_neg (by omega)]; exact h1
    · dsimp only; rw [if_neg (by omega), if_neg (by omega)]; exact h2
    · dsimp only; rw [if_neg (by omega), if_neg (by omega)]; exact h3
    · dsimp only; rw [if_neg (by omega), if_neg (by omega)]; exact h4
    · intro i hi
      dsimp only at hi ⊢
      rw [if_pos rfl] at hi
      rw [if_neg (by omega)]
      split
      · exact hk.2 _ (by omega)
      · exact h5 i (by omega)
    · intro w hw
      dsimp only at hw ⊢
      rw [if_neg (by omega), if_neg (by omega)] at hw
      have h7 := h6 w hw
      rw [if_neg (by omega), if_neg (by omega)]
      refine ⟨h7.1, fun i hi => ?_⟩
      rw [if_neg (by omega), if_neg (by omega)]
      exact h7.2 i hi
  · exact h
theorem OkR.tell {r : Nat → Int} (h : OkR r) (w v : Int) : OkR (tellR r w v) := by
  unfold tellR; split
  · rename_i hc
    obtain ⟨h0, h1, h2, h3, h4, h5, h6⟩ := h
    have hx : ∀ j : Nat, ¬ j = 2 + w.toNat → up1 r (2 + w.toNat) v j = r j := fun j hj => if_neg hj
    refine ⟨?_, ?_, ?_, ?_, ?_, ?_, ?_⟩
    · rw [hx _ (by omega)]; exact h0
    · rw [hx _ (by omega)]; exact h1
    · unfold up1; split
      · exact hc.1.2
      · exact h2
    · unfold up1; split
      · exact hc.1.2
      · exact h3
    · rw [hx _ (by omega)]; exact h4
    · intro i hi
      rw [hx _ (by omega)] at *
      exact h5 i hi
    · intro q hq
      rw [hx _ (by omega)] at *
      refine ⟨(h6 q hq).1, fun i hi => ?_⟩
      rw [hx _ (by omega)] at *
      exact (h6 q hq).2 i hi
  · exact h

set_option maxRecDepth 20000 in
theorem C_hasWord (Γ : GC) (M : Mm) (k : Nat) (hk : St k) (a : Int) (ha : R32 a) (hw : 0 ≤ M k 4 ∧ M k 4 ≤ 6) : Ct Γ uX5_hasWord [rf Γ k, vi a] M (Pu (bI (decide (0 ≤ a ∧ a < M k 4))) M) := by
  refine Ct.of (by decide) (Nat.le_of_ble_eq_true rfl) ?_
  show AW Γ uX5_hasWord 0 [(0, rf Γ k), (1, vi a)] [] M _
  refine AW.iload_n dX5_hasWord_0 1 rfl rfl ?_
  refine AW.if_lt 16 dX5_hasWord_1 (by decide) (by omega) (fun c1 => ?_) (fun c1 => ?_)
  · refine AW.iconst dX5_hasWord_16 ?_
    exact AW.zret rfl dX5_hasWord_17 (by omega) ⟨by simp only [bI, decide_eq_true_eq]; split <;> omega, rfl⟩
  · refine AW.iload_n dX5_hasWord_4 1 rfl rfl ?_
    refine AW.aload_n dX5_hasWord_5 0 rfl rfl ?_
    refine AW.getI dX5_hasWord_6 fl_X5_25 hk.1 rfl ?_
    refine AW.icmp_ge 16 dX5_hasWord_9 (by decide) (by omega) (by omega) (fun c9 => ?_) (fun c9 => ?_)
    · refine AW.iconst dX5_hasWord_16 ?_
      exact AW.zret rfl dX5_hasWord_17 (by omega) ⟨by simp only [bI, decide_eq_true_eq]; split <;> omega, rfl⟩
    · refine AW.iconst dX5_hasWord_12 ?_
      refine AW.goto 17 dX5_hasWord_13 (by decide) ?_
      exact AW.zret rfl dX5_hasWord_17 (by omega) ⟨by simp only [bI, decide_eq_true_eq]; split <;> omega, rfl⟩

set_option maxRecDepth 20000 in
theorem C_letterOf (Γ : GC) (M : Mm) (k : Nat) (hk : St k) (a i : Int) (h1 : 0 ≤ a * 6 + i) (h2 : a * 6 + i < 36) : Ct Γ uX5_letterOf [rf Γ k, vi a, vi i] M (Pu (M (k + 2) (a * 6 + i).toNat) M) := by
  refine Ct.of (by decide) (Nat.le_of_ble_eq_true rfl) ?_
  show AW Γ uX5_letterOf 0 [(0, rf Γ k), (1, vi a), (2, vi i)] [] M _
  refine AW.aload_n dX5_letterOf_0 0 rfl rfl ?_
  refine AW.getR dX5_letterOf_1 fl_X5_19 hk.1 rfl ?_
  refine AW.iload_n dX5_letterOf_4 1 rfl rfl ?_
  refine AW.bipush (z := (6)) dX5_letterOf_5 (by decide) ?_
  refine AW.imul dX5_letterOf_7 ?_
  refine AW.iload_n dX5_letterOf_8 2 rfl rfl ?_
  refine AW.iadd dX5_letterOf_9 ?_
  refine AW.iald dX5_letterOf_10 hk.2.2.1 (by omega) (by omega) (by decide) ?_
  exact AW.iret rfl dX5_letterOf_11 ⟨rfl, rfl⟩

set_option maxRecDepth 20000 in
theorem C_effortOf (Γ : GC) (M : Mm) (k : Nat) (hk : St k) (a b c d : Int) (ha : D8 a) (hb : D8 b) (hc : D8 c) (hd : D8 d) : Ct Γ uX5_effortOf [rf Γ k, vi a, vi b, vi c, vi d] M (Pu (M k 5 * stepsP a c + M k 6 * stepsP b d) M) := by
  refine Ct.of (by decide) (Nat.le_of_ble_eq_true rfl) ?_
  show AW Γ uX5_effortOf 0 [(0, rf Γ k), (1, vi a), (2, vi b), (3, vi c), (4, vi d)] [] M _
  refine AW.aload_n dX5_effortOf_0 0 rfl rfl ?_
  refine AW.getI dX5_effortOf_1 fl_X5_28 hk.1 rfl ?_
  refine AW.iload_n dX5_effortOf_4 1 rfl rfl ?_
  refine AW.iload_n dX5_effortOf_5 3 rfl rfl ?_
  refine AW.callN2ip (C_steps Γ M _ _ (by assumption) (by assumption)) dX5_effortOf_6 mc_X5_77 (fun _ => rfl) ⟨Nat.le_of_ble_eq_true rfl, Nat.le_of_ble_eq_true rfl⟩ (Nat.le_of_ble_eq_true rfl) ?_
  refine AW.imul dX5_effortOf_9 ?_
  refine AW.aload_n dX5_effortOf_10 0 rfl rfl ?_
  refine AW.getI dX5_effortOf_11 fl_X5_31 hk.1 rfl ?_
  refine AW.iload_n dX5_effortOf_14 2 rfl rfl ?_
  refine AW.iload dX5_effortOf_15 4 rfl ?_
  refine AW.callN2ip (C_steps Γ M _ _ (by assumption) (by assumption)) dX5_effortOf_17 mc_X5_77 (fun _ => rfl) ⟨Nat.le_of_ble_eq_true rfl, Nat.le_of_ble_eq_true rfl⟩ (Nat.le_of_ble_eq_true rfl) ?_
  refine AW.imul dX5_effortOf_20 ?_
  refine AW.iadd dX5_effortOf_21 ?_
  exact AW.iret rfl dX5_effortOf_22 ⟨rfl, rfl⟩

theorem stRel.say {M : Mm} {k : Nat} {r : Nat → Int} (ho : OkR r) (hr : stRel M k r) {c : Int} (d4 : 0 ≤ c ∧ c < 26) (hn : ¬ r 0 = 12) : stRel (up2 (up2 M (k + 1) (M k 1).toNat c) k 1 (M k 1 + 1)) k (sayR r c) := by
  obtain ⟨h1, h2, h3, h4, h5, h6, h7⟩ := id hr
  obtain ⟨o0, o1, o2, o3, o4, o5, o6⟩ := id ho
  unfold sayR; rw [if_pos ⟨d4, by omega⟩]
  refine ⟨?_, ?_, ?_, ?_, ?_, ?_, ?_⟩
  · simp [up2, upM, up1, h1]
  · simp only [up2_e, up1]; rw [if_neg (by omega), if_neg (by omega), if_neg (by omega), if_neg (by omega)]; exact h2
  · simp only [up2_e, up1]; rw [if_neg (by omega), if_neg (by omega), if_neg (by omega), if_neg (by omega)]; exact h3
  · simp only [up2_e, up1]; rw [if_neg (by omega), if_neg (by omega), if_neg (by omega), if_neg (by omega)]; exact h4
  · simp only [up2_e, up1]; rw [if_neg (by omega), if_neg (by omega), if_neg (by omega), if_neg (by omega)]; exact h5
  · intro i hi
    have hi : (i : Int) < r 0 + 1 := by simpa [up1] using hi
    simp only [up2_e, up1]
    rw [if_neg (by omega)]
    by_cases hi2 : i = (r 0).toNat
    · rw [if_pos ⟨trivial, by omega⟩, if_neg (by omega), if_pos (by omega)]
    · rw [if_neg (by omega), if_neg (by omega), if_neg (by omega)]; exact h6 i (by omega)
  · intro w hw
    simp only [up2_e, up1] at *
    rw [if_neg (by omega), if_neg (by omega)] at hw
    rw [if_neg (by omega), if_neg (by omega), if_neg (by omega), if_neg (by omega)]
    refine ⟨(h7 w hw).1, fun i hi => ?_⟩
    rw [if_neg (by omega), if_neg (by omega), if_neg (by omega), if_neg (by omega)]
    exact (h7 w hw).2 i hi
theorem stRel.back {M : Mm} {k : Nat} {r : Nat → Int} (ho : OkR r) (hr : stRel M k r) (hn : ¬ r 0 = 0) : stRel (up2 M k 1 (M k 1 - 1)) k (backR r) := by
  obtain ⟨h1, h2, h3, h4, h5, h6, h7⟩ := id hr
  obtain ⟨o0, o1, o2, o3, o4, o5, o6⟩ := id ho
  unfold backR; rw [if_neg hn]
  refine ⟨?_, ?_, ?_, ?_, ?_, ?_, ?_⟩
  · simp [up2, upM, up1, h1]
  · simp only [up2_e, up1]; rw [if_neg (by omega), if_neg (by omega)]; exact h2
  · simp only [up2_e, up1]; rw [if_neg (by omega), if_neg (by omega)]; exact h3
  · simp only [up2_e, up1]; rw [if_neg (by omega), if_neg (by omega)]; exact h4
  · simp only [up2_e, up1]; rw [if_neg (by omega), if_neg (by omega)]; exact h5
  · intro i hi
    have hi : (i : Int) < r 0 - 1 := by simpa [up1] using hi
    simp only [up2_e, up1]
    rw [if_neg (by omega), if_neg (by omega)]; exact h6 i (by omega)
  · intro w hw
    simp only [up2_e, up1] at *
    rw [if_neg (by omega)] at hw
    rw [if_neg (by omega), if_neg (by omega)]
    refine ⟨(h7 w hw).1, fun i hi => ?_⟩
    rw [if_neg (by omega), if_neg (by omega)]
    exact (h7 w hw).2 i hi
theorem stRel.keep {M M' : Mm} {k : Nat} {r : Nat → Int} (ho : OkR r) (hr : stRel M k r) (hn : 1 ≤ r 0 ∧ r 0 ≤ 6) (hw : ¬ r 1 = 6) (e0 : ∀ j, M' k j = if j = 4 then r 1 + 1 else M k j) (e1 : M' (k + 1) = M (k + 1)) (e2 : ∀ j, M' (k + 2) j = if (r 1).toNat * 6 ≤ j ∧ j < (r 1).toNat * 6 + (r 0).toNat then M (k + 1) (j - (r 1).toNat * 6) else M (k + 2) j) (e3 : ∀ j, M' (k + 3) j = if j = (r 1).toNat then r 0 else M (k + 3) j) : stRel M' k (keepR r) := by
  obtain ⟨h1, h2, h3, h4, h5, h6, h7⟩ := id hr
  obtain ⟨o0, o1, o2, o3, o4, o5, o6⟩ := id ho
  unfold keepR; rw [if_pos ⟨hn, hw⟩]
  refine ⟨?_, ?_, ?_, ?_, ?_, ?_, ?_⟩
  · dsimp only; rw [e0, if_neg (by omega), if_neg (by omega), if_neg (by omega), if_neg (by omega)]; exact h1
  · dsimp only; rw [e0, if_pos rfl, if_pos rfl]
  · dsimp only; rw [e0, if_neg (by omega), if_neg (by omega), if_neg (by omega), if_neg (by omega)]; exact h3
  · dsimp only; rw [e0, if_neg (by omega), if_neg (by omega), if_neg (by omega), if_neg (by omega)]; exact h4
  · dsimp only; rw [e0, if_neg (by omega), if_neg (by omega), if_neg (by omega), if_neg (by omega)]; exact h5
  · intro i hi
    dsimp only at hi ⊢
    rw [if_neg (by omega), if_neg (by omega), if_neg (by omega)] at hi
    rw [e1, if_neg (by omega), if_neg (by omega), if_neg (by omega)]; exact h6 i hi
  · intro w hq
    dsimp only at hq ⊢
    rw [if_pos rfl] at hq
    rcases Int.lt_or_le (w : Int) (r 1) with q | q
    · have h8 := h7 w q
      have := (o6 w q).1
      rw [if_neg (by omega), if_neg (by omega), if_neg (by omega), e3, if_neg (by omega)]
      refine ⟨h8.1, fun i hi => ?_⟩
      rw [e2, if_neg (by omega), if_neg (by omega), if_neg (by omega), if_neg (by omega)]
      exact h8.2 i hi
    · have hw2 : w = (r 1).toNat := by omega
      subst hw2
      rw [if_neg (by omega), if_pos rfl, e3, if_pos rfl]
      refine ⟨rfl, fun i hi => ?_⟩
      rw [e2, if_pos (by omega), if_neg (by omega), if_neg (by omega), if_pos (by omega), if_pos (by omega)]
      rw [show 6 * (r 1).toNat + i - (r 1).toNat * 6 = i by omega, show 18 + 7 * (r 1).toNat + i - (18 + 7 * (r 1).toNat) = i by omega]
      exact h6 i hi
theorem stRel.lose {M M' : Mm} {k : Nat} {r : Nat → Int} {a : Int} (ho : OkR r) (hr : stRel M k r) (ha : 0 ≤ a ∧ a < r 1) (e0 : ∀ j, M' k j = if j = 4 then r 1 - 1 else M k j) (e1 : M' (k + 1) = M (k + 1)) (e2 : ∀ j, M' (k + 2) j = if a.toNat * 6 ≤ j ∧ j < a.toNat * 6 + (r 1 - 1 - a).toNat * 6 then M (k + 2) (j + 6) else M (k + 2) j) (e3 : ∀ j, M' (k + 3) j = if a.toNat ≤ j ∧ j < a.toNat + (r 1 - 1 - a).toNat then M (k + 3) (j + 1) else M (k + 3) j) : stRel M' k (loseR r a) := by
  obtain ⟨h1, h2, h3, h4, h5, h6, h7⟩ := id hr
  obtain ⟨o0, o1, o2, o3, o4, o5, o6⟩ := id ho
  unfold loseR; rw [if_pos ha]
  refine ⟨?_, ?_, ?_, ?_, ?_, ?_, ?_⟩
  · dsimp only; rw [e0, if_neg (by omega), if_neg (by omega), if_neg (by omega)]; exact h1
  · dsimp only; rw [e0, if_pos rfl, if_pos rfl]
  · dsimp only; rw [e0, if_neg (by omega), if_neg (by omega), if_neg (by omega)]; exact h3
  · dsimp only; rw [e0, if_neg (by omega), if_neg (by omega), if_neg (by omega)]; exact h4
  · dsimp only; rw [e0, if_neg (by omega), if_neg (by omega), if_neg (by omega)]; exact h5
  · intro i hi
    dsimp only at hi ⊢
    rw [if_neg (by omega), if_neg (by omega)] at hi
    rw [e1, if_neg (by omega), if_neg (by omega)]; exact h6 i hi
  · intro w hq
    dsimp only at hq ⊢
    rw [if_pos rfl] at hq
    rcases Int.lt_or_le (w : Int) a with q | q
    · have h8 := h7 w (by omega)
      have := (o6 w (by omega)).1
      rw [if_neg (by omega), if_neg (by omega), e3, if_neg (by omega)]
      refine ⟨h8.1, fun i hi => ?_⟩
      rw [e2, if_neg (by omega), if_neg (by omega), if_neg (by omega)]
      exact h8.2 i hi
    · have h8 := h7 (w + 1) (by omega)
      have := (o6 (w + 1) (by omega)).1
      rw [if_neg (by omega), if_pos (by omega), e3, if_pos (by omega), show 17 + 7 * w + 7 = 17 + 7 * (w + 1) by omega]
      refine ⟨h8.1, fun i hi => ?_⟩
      rw [e2, if_pos (by omega), if_neg (by omega), if_pos (by omega), show 18 + 7 * w + i + 7 = 18 + 7 * (w + 1) + i by omega, show 6 * w + i + 6 = 6 * (w + 1) + i by omega]
      exact h8.2 i hi
theorem stRel.call {M M' : Mm} {k : Nat} {r : Nat → Int} {a : Int} (ho : OkR r) (hr : stRel M k r) (ha : 0 ≤ a ∧ a < r 1) (hn : ¬ r 0 + r (17 + 7 * a.toNat) > 12) (e0 : ∀ j, M' k j = if j = 1 then r 0 + r (17 + 7 * a.toNat) else M k j) (e1 : ∀ j, M' (k + 1) j = if (r 0).toNat ≤ j ∧ j < (r 0).toNat + (r (17 + 7 * a.toNat)).toNat then M (k + 2) (a.toNat * 6 + (j - (r 0).toNat)) else M (k + 1) j) (e2 : M' (k + 2) = M (k + 2)) (e3 : M' (k + 3) = M (k + 3)) : stRel M' k (callR r a) := by
  obtain ⟨h1, h2, h3, h4, h5, h6, h7⟩ := id hr
  obtain ⟨o0, o1, o2, o3, o4, o5, o6⟩ := id ho
  have hk := o6 a.toNat (by omega)
  have hk7 := h7 a.toNat (by omega)
  unfold callR; rw [if_pos ⟨ha, hn⟩]
  refine ⟨?_, ?_, ?_, ?_, ?_, ?_, ?_⟩
  · dsimp only; rw [e0, if_pos rfl, if_pos rfl]
  · dsimp only; rw [e0, if_neg (by omega), if_neg (by omega), if_neg (by omega)]; exact h2
  · dsimp only; rw [e0, if_neg (by omega), if_neg (by omega), if_neg (by omega)]; exact h3
  · dsimp only; rw [e0, if_neg (by omega), if_neg (by omega), if_neg (by omega)]; exact h4
  · dsimp only; rw [e0, if_neg (by omega), if_neg (by omega), if_neg (by omega)]; exact h5
  · intro i hi
    dsimp only at hi ⊢
    rw [if_pos rfl] at hi
    rw [e1]
    by_cases hi2 : (r 0).toNat ≤ i
    · rw [if_pos (by omega), if_neg (by omega), if_pos (by omega), show 5 + i - (5 + (r 0).toNat) = i - (r 0).toNat by omega, show a.toNat * 6 + (i - (r 0).toNat) = 6 * a.toNat + (i - (r 0).toNat) by omega]
      exact hk7.2 _ (by omega)
    · rw [if_neg (by omega), if_neg (by omega), if_neg (by omega)]; exact h6 i (by omega)
  · intro w hq
    dsimp only at hq ⊢
    rw [if_neg (by omega), if_neg (by omega)] at hq
    have h8 := h7 w hq
    rw [if_neg (by omega), if_neg (by omega), e3]
    refine ⟨h8.1, fun i hi => ?_⟩
    rw [e2, if_neg (by omega), if_neg (by omega)]
    exact h8.2 i hi
theorem stRel.tell {M M' : Mm} {k : Nat} {r : Nat → Int} {w v : Int} (hr : stRel M k r) (hw : 0 ≤ w ∧ w ≤ 1) (hv : 1 ≤ v ∧ v ≤ 4) (hn : ¬ r (2 + w.toNat) = v) (e0 : ∀ j, M' k j = if j = 5 + w.toNat then v else M k j) (e1 : M' (k + 1) = M (k + 1)) (e2 : M' (k + 2) = M (k + 2)) (e3 : M' (k + 3) = M (k + 3)) : stRel M' k (tellR r w v) := by
  obtain ⟨h1, h2, h3, h4, h5, h6, h7⟩ := id hr
  unfold tellR; rw [if_pos ⟨⟨hw, hv⟩, hn⟩]
  have hx : ∀ j : Nat, ¬ j = 2 + w.toNat → up1 r (2 + w.toNat) v j = r j := fun j hj => if_neg hj
  refine ⟨?_, ?_, ?_, ?_, ?_, ?_, ?_⟩
  · rw [hx _ (by omega), e0, if_neg (by omega)]; exact h1
  · rw [hx _ (by omega), e0, if_neg (by omega)]; exact h2
  · rw [e0]; unfold up1
    by_cases q : w = 0
    · rw [if_pos (by omega), if_pos (by omega)]
    · rw [if_neg (by omega), if_neg (by omega)]; exact h3
  · rw [e0]; unfold up1
    by_cases q : w = 0
    · rw [if_neg (by omega), if_neg (by omega)]; exact h4
    · rw [if_pos (by omega), if_pos (by omega)]
  · rw [hx _ (by omega), e0, if_neg (by omega)]; exact h5
  · intro i hi
    rw [hx _ (by omega)] at *
    rw [e1]; exact h6 i hi
  · intro q hq
    rw [hx _ (by omega)] at *
    rw [e3]
    refine ⟨(h7 q hq).1, fun i hi => ?_⟩
    rw [hx _ (by omega), e2]
    exact (h7 q hq).2 i hi

set_option maxRecDepth 20000 in
theorem C_addLetter (Γ : GC) (M : Mm) (k : Nat) (hk : St k) (r : Nat → Int) (ho : OkR r) (hr : stRel M k r) (c : Int) (ha : R32 c) : Ct Γ uX5_addLetter [rf Γ k, vi c] M (fun z M' => z = sayZ r c ∧ off4 k M M' ∧ stRel M' k (sayR r c)) := by
  refine Ct.of (by decide) (Nat.le_of_ble_eq_true rfl) ?_
  show AW Γ uX5_addLetter 0 [(0, rf Γ k), (1, vi c)] [] M _
  obtain ⟨h1, h2, h3, h4, h5, h6, h7⟩ := id hr
  obtain ⟨o0, o1, o2, o3, o4, o5, o6⟩ := id ho
  refine AW.iload_n dX5_addLetter_0 1 rfl rfl ?_
  refine AW.callN1ip (C_isLetter Γ M _ ha) dX5_addLetter_1 mc_X5_43 (fun _ => rfl) ⟨Nat.le_of_ble_eq_true rfl, Nat.le_of_ble_eq_true rfl⟩ (Nat.le_of_ble_eq_true rfl) ?_
  refine AW.if_ne 9 dX5_addLetter_4 (by decide) (bI_r _) (fun c4 => ?_) (fun c4 => ?_)
  · have d4 := bI1.mp c4
    refine AW.aload_n dX5_addLetter_9 0 rfl rfl ?_
    refine AW.getI dX5_addLetter_10 fl_X5_15 hk.1 rfl ?_
    refine AW.bipush (z := (12)) dX5_addLetter_13 (by decide) ?_
    refine AW.icmp_lt 21 dX5_addLetter_15 (by decide) (by omega) (by omega) (fun c15 => ?_) (fun c15 => ?_)
    · refine AW.aload_n dX5_addLetter_21 0 rfl rfl ?_
      refine AW.getR dX5_addLetter_22 fl_X5_9 hk.1 rfl ?_
      refine AW.aload_n dX5_addLetter_25 0 rfl rfl ?_
      refine AW.getI dX5_addLetter_26 fl_X5_15 hk.1 rfl ?_
      refine AW.iload_n dX5_addLetter_29 1 rfl rfl ?_
      refine AW.iast dX5_addLetter_30 hk.2.1 (by omega) (by omega) (by decide) ?_
      refine AW.aload_n dX5_addLetter_31 0 rfl rfl ?_
      refine AW.dup dX5_addLetter_32 rfl ?_
      refine AW.getI dX5_addLetter_33 fl_X5_15 hk.1 rfl ?_
      rw [up2_n (by omega)]
      refine AW.iconst dX5_addLetter_36 ?_
      refine AW.iadd dX5_addLetter_37 ?_
      refine AW.putI dX5_addLetter_38 fp_X5_15 hk.1 rfl ?_
      refine AW.aload_n dX5_addLetter_41 0 rfl rfl ?_
      refine AW.getI dX5_addLetter_42 fl_X5_15 hk.1 rfl ?_
      rw [up2_s]
      exact AW.iret rfl dX5_addLetter_45 ⟨by unfold sayZ; rw [if_pos d4, if_neg (by omega)]; omega, (off4.rfl'.up (by omega)).up (by omega), stRel.say ho hr d4 (by omega)⟩
    · refine AW.bipush (z := (-3)) dX5_addLetter_18 (by decide) ?_
      exact AW.iret rfl dX5_addLetter_20 ⟨by unfold sayZ; rw [if_pos d4, if_pos (by omega)], off4.rfl', by unfold sayR; rw [if_neg (by omega)]; exact hr⟩
  · have d4 := bI0.mp c4
    refine AW.iconst dX5_addLetter_7 ?_
    exact AW.iret rfl dX5_addLetter_8 ⟨by unfold sayZ; rw [if_neg d4], off4.rfl', by unfold sayR; rw [if_neg (by omega)]; exact hr⟩

set_option maxRecDepth 20000 in
theorem C_takeLetter (Γ : GC) (M : Mm) (k : Nat) (hk : St k) (r : Nat → Int) (ho : OkR r) (hr : stRel M k r) : Ct Γ uX5_takeLetter [rf Γ k] M (fun z M' => z = backZ r ∧ off4 k M M' ∧ stRel M' k (backR r)) := by
  refine Ct.of (by decide) (Nat.le_of_ble_eq_true rfl) ?_
  show AW Γ uX5_takeLetter 0 [(0, rf Γ k)] [] M _
  obtain ⟨h1, h2, h3, h4, h5, h6, h7⟩ := id hr
  obtain ⟨o0, o1, o2, o3, o4, o5, o6⟩ := id ho
  refine AW.aload_n dX5_takeLetter_0 0 rfl rfl ?_
  refine AW.getI dX5_takeLetter_1 fl_X5_15 hk.1 rfl ?_
  refine AW.if_ne 10 dX5_takeLetter_4 (by decide) (by omega) (fun c4 => ?_) (fun c4 => ?_)
  · refine AW.aload_n dX5_takeLetter_10 0 rfl rfl ?_
    refine AW.dup dX5_takeLetter_11 rfl ?_
    refine AW.getI dX5_takeLetter_12 fl_X5_15 hk.1 rfl ?_
    refine AW.iconst dX5_takeLetter_15 ?_
    refine AW.isub dX5_takeLetter_16 ?_
    refine AW.putI dX5_takeLetter_17 fp_X5_15 hk.1 rfl ?_
    refine AW.aload_n dX5_takeLetter_20 0 rfl rfl ?_
    refine AW.getR dX5_takeLetter_21 fl_X5_9 hk.1 rfl ?_
    refine AW.aload_n dX5_takeLetter_24 0 rfl rfl ?_
    refine AW.getI dX5_takeLetter_25 fl_X5_15 hk.1 rfl ?_
    rw [up2_s]
    refine AW.iald dX5_takeLetter_28 hk.2.1 (by omega) (by omega) (by decide) ?_
    rw [up2_n (by omega)]
    exact AW.iret rfl dX5_takeLetter_29 ⟨by unfold backZ; rw [if_neg (by omega), h6 _ (by omega), h1], off4.rfl'.up (by omega), stRel.back ho hr (by omega)⟩
  · refine AW.bipush (z := (-4)) dX5_takeLetter_7 (by decide) ?_
    exact AW.iret rfl dX5_takeLetter_9 ⟨by unfold backZ; rw [if_pos (by omega)], off4.rfl', by unfold backR; rw [if_pos (by omega)]; exact hr⟩

set_option maxRecDepth 20000 in
theorem C_addWord (Γ : GC) (M : Mm) (k : Nat) (hk : St k) (r : Nat → Int) (ho : OkR r) (hr : stRel M k r) : Ct Γ uX5_addWord [rf Γ k] M (fun z M' => z = keepZ r ∧ off4 k M M' ∧ stRel M' k (keepR r)) := by
  refine Ct.of (by decide) (Nat.le_of_ble_eq_true rfl) ?_
  show AW Γ uX5_addWord 0 [(0, rf Γ k)] [] M _
  obtain ⟨h1, h2, h3, h4, h5, h6, h7⟩ := id hr
  obtain ⟨o0, o1, o2, o3, o4, o5, o6⟩ := id ho
  refine AW.aload_n dX5_addWord_0 0 rfl rfl ?_
  refine AW.getI dX5_addWord_1 fl_X5_15 hk.1 rfl ?_
  refine AW.if_eq 16 dX5_addWord_4 (by decide) (by omega) (fun c4 => ?_) (fun c4 => ?_)
  · refine AW.bipush (z := (-2)) dX5_addWord_16 (by decide) ?_
    exact AW.iret rfl dX5_addWord_18 ⟨by unfold keepZ; rw [if_neg (by omega)], off4.rfl', by unfold keepR; rw [if_neg (by omega)]; exact hr⟩
  · refine AW.aload_n dX5_addWord_7 0 rfl rfl ?_
    refine AW.getI dX5_addWord_8 fl_X5_15 hk.1 rfl ?_
    refine AW.bipush (z := (6)) dX5_addWord_11 (by decide) ?_
    refine AW.icmp_le 19 dX5_addWord_13 (by decide) (by omega) (by omega) (fun c13 => ?_) (fun c13 => ?_)
    · refine AW.aload_n dX5_addWord_19 0 rfl rfl ?_
      refine AW.getI dX5_addWord_20 fl_X5_25 hk.1 rfl ?_
      refine AW.bipush (z := (6)) dX5_addWord_23 (by decide) ?_
      refine AW.icmp_lt 31 dX5_addWord_25 (by decide) (by omega) (by omega) (fun c25 => ?_) (fun c25 => ?_)
      · refine AW.aload_n dX5_addWord_31 0 rfl rfl ?_
        refine AW.getR dX5_addWord_32 fl_X5_9 hk.1 rfl ?_
        refine AW.iconst dX5_addWord_35 ?_
        refine AW.aload_n dX5_addWord_36 0 rfl rfl ?_
        refine AW.getR dX5_addWord_37 fl_X5_19 hk.1 rfl ?_
        refine AW.aload_n dX5_addWord_40 0 rfl rfl ?_
        refine AW.getI dX5_addWord_41 fl_X5_25 hk.1 rfl ?_
        refine AW.bipush (z := (6)) dX5_addWord_44 (by decide) ?_
        refine AW.imul dX5_addWord_46 ?_
        refine AW.aload_n dX5_addWord_47 0 rfl rfl ?_
        refine AW.getI dX5_addWord_48 fl_X5_15 hk.1 rfl ?_
        refine AW.copyI dX5_addWord_51 mc_X5_37 hk.2.1 hk.2.2.1 (by omega) (by omega) (by omega) (by omega) (by omega) (by decide) (by decide) (Nat.le_of_ble_eq_true rfl) (Nat.le_of_ble_eq_true rfl) ?_
        refine AW.aload_n dX5_addWord_54 0 rfl rfl ?_
        refine AW.getR dX5_addWord_55 fl_X5_22 hk.1 rfl ?_
        refine AW.aload_n dX5_addWord_58 0 rfl rfl ?_
        refine AW.getI dX5_addWord_59 fl_X5_25 hk.1 rfl ?_
        rw [upM_n (by omega)]
        refine AW.aload_n dX5_addWord_62 0 rfl rfl ?_
        refine AW.getI dX5_addWord_63 fl_X5_15 hk.1 rfl ?_
        rw [upM_n (by omega)]
        refine AW.iast dX5_addWord_66 hk.2.2.2 (by omega) (by omega) (by decide) ?_
        refine AW.aload_n dX5_addWord_67 0 rfl rfl ?_
        refine AW.dup dX5_addWord_68 rfl ?_
        refine AW.getI dX5_addWord_69 fl_X5_25 hk.1 rfl ?_
        rw [up2_n (by omega), upM_n (by omega)]
        refine AW.iconst dX5_addWord_72 ?_
        refine AW.iadd dX5_addWord_73 ?_
        refine AW.putI dX5_addWord_74 fp_X5_25 hk.1 rfl ?_
        refine AW.aload_n dX5_addWord_77 0 rfl rfl ?_
        refine AW.getI dX5_addWord_78 fl_X5_25 hk.1 rfl ?_
        rw [up2_s]
        refine AW.iconst dX5_addWord_81 ?_
        refine AW.isub dX5_addWord_82 ?_
        exact AW.iret rfl dX5_addWord_83 ⟨by unfold keepZ; rw [if_pos (by omega), if_neg (by omega)]; omega, ((off4.rfl'.upM (by omega)).up (by omega)).up (by omega), stRel.keep ho hr (by omega) (by omega) (fun j => by simp only [up2_e]; by_cases q : j = 4 <;> simp [q, upM, h2]) (by rw [up2_c (by omega), up2_c (by omega), upM_n (by omega)]) (fun j => by rw [up2_c (by omega), up2_c (by omega), upM_s, va_cpy, show (M k 4 * 6).toNat = (r 1).toNat * 6 by omega, h1]; simp) (fun j => by rw [up2_c (by omega), up2_e, upM_n (by omega), h2, h1]; simp)⟩
      · refine AW.bipush (z := (-3)) dX5_addWord_28 (by decide) ?_
        exact AW.iret rfl dX5_addWord_30 ⟨by unfold keepZ; rw [if_pos (by omega), if_pos (by omega)], off4.rfl', by unfold keepR; rw [if_neg (by omega)]; exact hr⟩
    · refine AW.bipush (z := (-2)) dX5_addWord_16 (by decide) ?_
      exact AW.iret rfl dX5_addWord_18 ⟨by unfold keepZ; rw [if_neg (by omega)], off4.rfl', by unfold keepR; rw [if_neg (by omega)]; exact hr⟩

set_option maxRecDepth 20000 in
theorem C_removeWord (Γ : GC) (M : Mm) (k : Nat) (hk : St k) (r : Nat → Int) (ho : OkR r) (hr : stRel M k r) (a : Int) (ha : R32 a) : Ct Γ uX5_removeWord [rf Γ k, vi a] M (fun z M' => z = loseZ r a ∧ off4 k M M' ∧ stRel M' k (loseR r a)) := by
  refine Ct.of (by decide) (Nat.le_of_ble_eq_true rfl) ?_
  show AW Γ uX5_removeWord 0 [(0, rf Γ k), (1, vi a)] [] M _
  obtain ⟨h1, h2, h3, h4, h5, h6, h7⟩ := id hr
  obtain ⟨o0, o1, o2, o3, o4, o5, o6⟩ := id ho
  refine AW.aload_n dX5_removeWord_0 0 rfl rfl ?_
  refine AW.iload_n dX5_removeWord_1 1 rfl rfl ?_
  refine AW.callV1ip (C_hasWord Γ M k hk _ ha (by omega)) dX5_removeWord_2 mc_X5_47 hk.1 (fun _ => rfl) ⟨Nat.le_of_ble_eq_true rfl, Nat.le_of_ble_eq_true rfl⟩ (Nat.le_of_ble_eq_true rfl) ?_
  refine AW.if_ne 10 dX5_removeWord_5 (by decide) (bI_r _) (fun c5 => ?_) (fun c5 => ?_)
  · have d5 := bI1.mp c5
    refine AW.aload_n dX5_removeWord_10 0 rfl rfl ?_
    refine AW.dup dX5_removeWord_11 rfl ?_
    refine AW.getI dX5_removeWord_12 fl_X5_25 hk.1 rfl ?_
    refine AW.iconst dX5_removeWord_15 ?_
    refine AW.isub dX5_removeWord_16 ?_
    refine AW.putI dX5_removeWord_17 fp_X5_25 hk.1 rfl ?_
    refine AW.aload_n dX5_removeWord_20 0 rfl rfl ?_
    refine AW.getI dX5_removeWord_21 fl_X5_25 hk.1 rfl ?_
    rw [up2_s]
    refine AW.iload_n dX5_removeWord_24 1 rfl rfl ?_
    refine AW.isub dX5_removeWord_25 ?_
    refine AW.top (fun bh ebh => ?_)
    refine AW.istore_n [(2, vi bh), (0, rf Γ k), (1, vi a)] dX5_removeWord_26 rfl (by decide) rfl ?_
    refine AW.iload_n dX5_removeWord_27 2 rfl rfl ?_
    refine AW.bipush (z := (6)) dX5_removeWord_28 (by decide) ?_
    refine AW.imul dX5_removeWord_30 ?_
    refine AW.top (fun pl epl => ?_)
    refine AW.istore_n [(3, vi pl), (2, vi bh), (0, rf Γ k), (1, vi a)] dX5_removeWord_31 rfl (by decide) rfl ?_
    refine AW.aload_n dX5_removeWord_32 2 rfl rfl ?_
    refine AW.getR dX5_removeWord_33 fl_X5_19 hk.1 rfl ?_
    refine AW.iload_n dX5_removeWord_36 0 rfl rfl ?_
    refine AW.bipush (z := (6)) dX5_removeWord_37 (by decide) ?_
    refine AW.iadd dX5_removeWord_39 ?_
    refine AW.aload_n dX5_removeWord_40 2 rfl rfl ?_
    refine AW.getR dX5_removeWord_41 fl_X5_19 hk.1 rfl ?_
    refine AW.iload_n dX5_removeWord_44 0 rfl rfl ?_
    refine AW.iload_n dX5_removeWord_45 1 rfl rfl ?_
    refine AW.bipush (z := (6)) dX5_removeWord_46 (by decide) ?_
    refine AW.imul dX5_removeWord_48 ?_
    refine AW.copyI dX5_removeWord_49 mc_X5_37 hk.2.2.1 hk.2.2.1 (by omega) (by omega) (by omega) (by omega) (by omega) (by decide) (by decide) (Nat.le_of_ble_eq_true rfl) (Nat.le_of_ble_eq_true rfl) ?_
    refine AW.aload_n dX5_removeWord_52 2 rfl rfl ?_
    refine AW.getR dX5_removeWord_53 fl_X5_22 hk.1 rfl ?_
    refine AW.iload_n dX5_removeWord_56 3 rfl rfl ?_
    refine AW.iconst dX5_removeWord_57 ?_
    refine AW.iadd dX5_removeWord_58 ?_
    refine AW.aload_n dX5_removeWord_59 2 rfl rfl ?_
    refine AW.getR dX5_removeWord_60 fl_X5_22 hk.1 rfl ?_
    refine AW.iload_n dX5_removeWord_63 3 rfl rfl ?_
    refine AW.iload_n dX5_removeWord_64 1 rfl rfl ?_
    refine AW.copyI dX5_removeWord_65 mc_X5_37 hk.2.2.2 hk.2.2.2 (by omega) (by omega) (by omega) (by omega) (by omega) (by decide) (by decide) (Nat.le_of_ble_eq_true rfl) (Nat.le_of_ble_eq_true rfl) ?_
    refine AW.aload_n dX5_removeWord_68 2 rfl rfl ?_
    refine AW.getI dX5_removeWord_69 fl_X5_25 hk.1 rfl ?_
    rw [upM_n (by omega), upM_n (by omega), up2_s]
    exact AW.iret rfl dX5_removeWord_72 ⟨by unfold loseZ; rw [if_pos (by omega)]; omega, ((off4.rfl'.up (by omega)).upM (by omega)).upM (by omega), stRel.lose ho hr (by omega) (fun j => by rw [upM_n (by omega), upM_n (by omega), up2_e, h2]; simp) (by rw [upM_n (by omega), upM_n (by omega), up2_c (by omega)]) (fun j => by rw [upM_n (by omega), upM_s, up2_c (by omega), va_cpy, show pl.toNat = a.toNat * 6 by omega, show (bh * 6).toNat = (r 1 - 1 - a).toNat * 6 by omega]; (split <;> first | rfl | (congr 1; omega))) (fun j => by rw [upM_s, upM_n (by omega), up2_c (by omega), va_cpy, show bh.toNat = (r 1 - 1 - a).toNat by omega]; (split <;> first | rfl | (congr 1; omega)))⟩
  · have d5 := bI0.mp c5
    refine AW.iconst dX5_removeWord_8 ?_
    exact AW.iret rfl dX5_removeWord_9 ⟨by unfold loseZ; rw [if_neg (by omega)], off4.rfl', by unfold loseR; rw [if_neg (by omega)]; exact hr⟩

set_option maxRecDepth 20000 in
theorem C_addLettersOf (Γ : GC) (M : Mm) (k : Nat) (hk : St k) (r : Nat → Int) (ho : OkR r) (hr : stRel M k r) (a : Int) (ha : R32 a) : Ct Γ uX5_addLettersOf [rf Γ k, vi a] M (fun z M' => z = callZ r a ∧ off4 k M M' ∧ stRel M' k (callR r a)) := by
  refine Ct.of (by decide) (Nat.le_of_ble_eq_true rfl) ?_
  show AW Γ uX5_addLettersOf 0 [(0, rf Γ k), (1, vi a)] [] M _
  obtain ⟨h1, h2, h3, h4, h5, h6, h7⟩ := id hr
  obtain ⟨o0, o1, o2, o3, o4, o5, o6⟩ := id ho
  refine AW.aload_n dX5_addLettersOf_0 0 rfl rfl ?_
  refine AW.iload_n dX5_addLettersOf_1 1 rfl rfl ?_
  refine AW.callV1ip (C_hasWord Γ M k hk _ ha (by omega)) dX5_addLettersOf_2 mc_X5_47 hk.1 (fun _ => rfl) ⟨Nat.le_of_ble_eq_true rfl, Nat.le_of_ble_eq_true rfl⟩ (Nat.le_of_ble_eq_true rfl) ?_
  refine AW.if_ne 10 dX5_addLettersOf_5 (by decide) (bI_r _) (fun c5 => ?_) (fun c5 => ?_)
  · have d5 := bI1.mp c5
    have d7 := h7 a.toNat (by omega)
    have d6 := o6 a.toNat (by omega)
    refine AW.aload_n dX5_addLettersOf_10 0 rfl rfl ?_
    refine AW.getI dX5_addLettersOf_11 fl_X5_15 hk.1 rfl ?_
    refine AW.aload_n dX5_addLettersOf_14 0 rfl rfl ?_
    refine AW.getR dX5_addLettersOf_15 fl_X5_22 hk.1 rfl ?_
    refine AW.iload_n dX5_addLettersOf_18 1 rfl rfl ?_
    refine AW.iald dX5_addLettersOf_19 hk.2.2.2 (by omega) (by omega) (by decide) ?_
    refine AW.iadd dX5_addLettersOf_20 ?_
    refine AW.bipush (z := (12)) dX5_addLettersOf_21 (by decide) ?_
    refine AW.icmp_le 29 dX5_addLettersOf_23 (by decide) (by omega) (by omega) (fun c23 => ?_) (fun c23 => ?_)
    · refine AW.aload_n dX5_addLettersOf_29 0 rfl rfl ?_
      refine AW.getR dX5_addLettersOf_30 fl_X5_19 hk.1 rfl ?_
      refine AW.iload_n dX5_addLettersOf_33 1 rfl rfl ?_
      refine AW.bipush (z := (6)) dX5_addLettersOf_34 (by decide) ?_
      refine AW.imul dX5_addLettersOf_36 ?_
      refine AW.aload_n dX5_addLettersOf_37 0 rfl rfl ?_
      refine AW.getR dX5_addLettersOf_38 fl_X5_9 hk.1 rfl ?_
      refine AW.aload_n dX5_addLettersOf_41 0 rfl rfl ?_
      refine AW.getI dX5_addLettersOf_42 fl_X5_15 hk.1 rfl ?_
      refine AW.aload_n dX5_addLettersOf_45 0 rfl rfl ?_
      refine AW.getR dX5_addLettersOf_46 fl_X5_22 hk.1 rfl ?_
      refine AW.iload_n dX5_addLettersOf_49 1 rfl rfl ?_
      refine AW.iald dX5_addLettersOf_50 hk.2.2.2 (by omega) (by omega) (by decide) ?_
      refine AW.copyI dX5_addLettersOf_51 mc_X5_37 hk.2.2.1 hk.2.1 (by omega) (by omega) (by omega) (by omega) (by omega) (by decide) (by decide) (Nat.le_of_ble_eq_true rfl) (Nat.le_of_ble_eq_true rfl) ?_
      refine AW.aload_n dX5_addLettersOf_54 0 rfl rfl ?_
      refine AW.dup dX5_addLettersOf_55 rfl ?_
      refine AW.getI dX5_addLettersOf_56 fl_X5_15 hk.1 rfl ?_
      rw [upM_n (by omega)]
      refine AW.aload_n dX5_addLettersOf_59 0 rfl rfl ?_
      refine AW.getR dX5_addLettersOf_60 fl_X5_22 hk.1 rfl ?_
      refine AW.iload_n dX5_addLettersOf_63 1 rfl rfl ?_
      refine AW.iald dX5_addLettersOf_64 hk.2.2.2 (by omega) (by omega) (by decide) ?_
      rw [upM_n (by omega)]
      refine AW.iadd dX5_addLettersOf_65 ?_
      refine AW.putI dX5_addLettersOf_66 fp_X5_15 hk.1 rfl ?_
      refine AW.aload_n dX5_addLettersOf_69 0 rfl rfl ?_
      refine AW.getI dX5_addLettersOf_70 fl_X5_15 hk.1 rfl ?_
      rw [up2_s]
      exact AW.iret rfl dX5_addLettersOf_73 ⟨by unfold callZ; rw [if_pos (by omega), if_neg (by omega)]; omega, (off4.rfl'.upM (by omega)).up (by omega), stRel.call ho hr (by omega) (by omega) (fun j => by rw [up2_e, upM_n (by omega), h1, d7.1]; simp) (fun j => by rw [up2_c (by omega), upM_s, va_cpy, show (a * 6).toNat = a.toNat * 6 by omega, d7.1, h1]) (by rw [up2_c (by omega), upM_n (by omega)]) (by rw [up2_c (by omega), upM_n (by omega)])⟩
    · refine AW.bipush (z := (-3)) dX5_addLettersOf_26 (by decide) ?_
      exact AW.iret rfl dX5_addLettersOf_28 ⟨by unfold callZ; rw [if_pos (by omega), if_pos (by omega)], off4.rfl', by unfold callR; rw [if_neg (by omega)]; exact hr⟩
  · have d5 := bI0.mp c5
    refine AW.iconst dX5_addLettersOf_8 ?_
    exact AW.iret rfl dX5_addLettersOf_9 ⟨by unfold callZ; rw [if_neg (by omega)], off4.rfl', by unfold callR; rw [if_neg (by omega)]; exact hr⟩

set_option maxRecDepth 20000 in
theorem C_setCost (Γ : GC) (M : Mm) (k : Nat) (hk : St k) (r : Nat → Int) (ho : OkR r) (hr : stRel M k r) (a v : Int) (ha : R32 a) (hv : R32 v) : Ct Γ uX5_setCost [rf Γ k, vi a, vi v] M (fun z M' => z = tellZ r a v ∧ off4 k M M' ∧ stRel M' k (tellR r a v)) := by
  refine Ct.of (by decide) (Nat.le_of_ble_eq_true rfl) ?_
  show AW Γ uX5_setCost 0 [(0, rf Γ k), (1, vi a), (2, vi v)] [] M _
  obtain ⟨h1, h2, h3, h4, h5, h6, h7⟩ := id hr
  obtain ⟨o0, o1, o2, o3, o4, o5, o6⟩ := id ho
  refine AW.iload_n dX5_setCost_0 1 rfl rfl ?_
  refine AW.if_lt 19 dX5_setCost_1 (by decide) (by omega) (fun c1 => ?_) (fun c1 => ?_)
  · refine AW.iconst dX5_setCost_19 ?_
    exact AW.iret rfl dX5_setCost_20 ⟨by unfold tellZ; rw [if_neg (by omega)], off4.rfl', by unfold tellR; rw [if_neg (by omega)]; exact hr⟩
  · refine AW.iload_n dX5_setCost_4 1 rfl rfl ?_
    refine AW.iconst dX5_setCost_5 ?_
    refine AW.icmp_gt 19 dX5_setCost_6 (by decide) (by omega) (by omega) (fun c6 => ?_) (fun c6 => ?_)
    · refine AW.iconst dX5_setCost_19 ?_
      exact AW.iret rfl dX5_setCost_20 ⟨by unfold tellZ; rw [if_neg (by omega)], off4.rfl', by unfold tellR; rw [if_neg (by omega)]; exact hr⟩
    · refine AW.iload_n dX5_setCost_9 2 rfl rfl ?_
      refine AW.iconst dX5_setCost_10 ?_
      refine AW.icmp_lt 19 dX5_setCost_11 (by decide) (by omega) (by omega) (fun c11 => ?_) (fun c11 => ?_)
      · refine AW.iconst dX5_setCost_19 ?_
        exact AW.iret rfl dX5_setCost_20 ⟨by unfold tellZ; rw [if_neg (by omega)], off4.rfl', by unfold tellR; rw [if_neg (by omega)]; exact hr⟩
      · refine AW.iload_n dX5_setCost_14 2 rfl rfl ?_
        refine AW.iconst dX5_setCost_15 ?_
        refine AW.icmp_le 21 dX5_setCost_16 (by decide) (by omega) (by omega) (fun c16 => ?_) (fun c16 => ?_)
        · refine AW.iload_n dX5_setCost_21 1 rfl rfl ?_
          refine AW.if_ne 32 dX5_setCost_22 (by decide) (by omega) (fun c22 => ?_) (fun c22 => ?_)
          · refine AW.aload_n dX5_setCost_32 0 rfl rfl ?_
            refine AW.getI dX5_setCost_33 fl_X5_31 hk.1 rfl ?_
            refine AW.top (fun x36 ex36 => ?_)
            refine AW.istore_n [(3, vi x36), (0, rf Γ k), (1, vi a), (2, vi v)] dX5_setCost_36 rfl (by decide) rfl ?_
            refine AW.iload_n dX5_setCost_37 0 rfl rfl ?_
            refine AW.iload_n dX5_setCost_38 3 rfl rfl ?_
            refine AW.icmp_ne 45 dX5_setCost_39 (by decide) (by omega) (by omega) (fun c39 => ?_) (fun c39 => ?_)
            · refine AW.iload_n dX5_setCost_45 2 rfl rfl ?_
              refine AW.if_ne 57 dX5_setCost_46 (by decide) (by omega) (fun c46 => ?_) (fun c46 => ?_)
              · refine AW.aload_n dX5_setCost_57 1 rfl rfl ?_
                refine AW.iload_n dX5_setCost_58 3 rfl rfl ?_
                refine AW.putI dX5_setCost_59 fp_X5_31 hk.1 rfl ?_
                refine AW.iload_n dX5_setCost_62 0 rfl rfl ?_
                exact AW.iret rfl dX5_setCost_63 ⟨by unfold tellZ; rw [if_pos (by omega), if_neg (by first | (rw [show a = 0 by omega]; simp; omega) | (rw [show a = 1 by omega]; simp; omega))]; first | (rw [show a = 0 by omega]; simp; omega) | (rw [show a = 1 by omega]; simp; omega), off4.rfl'.up (by omega), stRel.tell hr (by omega) (by omega) (by first | (rw [show a = 0 by omega]; simp; omega) | (rw [show a = 1 by omega]; simp; omega)) (fun j => by rw [up2_e]; first | (rw [show a = 0 by omega]; simp; done) | (rw [show a = 1 by omega]; simp; done)) (up2_c (by omega)) (up2_c (by omega)) (up2_c (by omega))⟩
              · refine AW.aload_n dX5_setCost_49 1 rfl rfl ?_
                refine AW.iload_n dX5_setCost_50 3 rfl rfl ?_
                refine AW.putI dX5_setCost_51 fp_X5_28 hk.1 rfl ?_
                refine AW.goto 62 dX5_setCost_54 (by decide) ?_
                refine AW.iload_n dX5_setCost_62 0 rfl rfl ?_
                exact AW.iret rfl dX5_setCost_63 ⟨by unfold tellZ; rw [if_pos (by omega), if_neg (by first | (rw [show a = 0 by omega]; simp; omega) | (rw [show a = 1 by omega]; simp; omega))]; first | (rw [show a = 0 by omega]; simp; omega) | (rw [show a = 1 by omega]; simp; omega), off4.rfl'.up (by omega), stRel.tell hr (by omega) (by omega) (by first | (rw [show a = 0 by omega]; simp; omega) | (rw [show a = 1 by omega]; simp; omega)) (fun j => by rw [up2_e]; first | (rw [show a = 0 by omega]; simp; done) | (rw [show a = 1 by omega]; simp; done)) (up2_c (by omega)) (up2_c (by omega)) (up2_c (by omega))⟩
            · refine AW.bipush (z := (-2)) dX5_setCost_42 (by decide) ?_
              exact AW.iret rfl dX5_setCost_44 ⟨by unfold tellZ; rw [if_pos (by omega), if_pos (by first | (rw [show a = 0 by omega]; simp; omega) | (rw [show a = 1 by omega]; simp; omega))], off4.rfl', by unfold tellR; rw [if_neg (fun q => q.2 (by first | (rw [show a = 0 by omega]; simp; omega) | (rw [show a = 1 by omega]; simp; omega)))]; exact hr⟩
          · refine AW.aload_n dX5_setCost_25 0 rfl rfl ?_
            refine AW.getI dX5_setCost_26 fl_X5_28 hk.1 rfl ?_
            refine AW.goto 36 dX5_setCost_29 (by decide) ?_
            refine AW.top (fun x36 ex36 => ?_)
            refine AW.istore_n [(3, vi x36), (0, rf Γ k), (1, vi a), (2, vi v)] dX5_setCost_36 rfl (by decide) rfl ?_
            refine AW.iload_n dX5_setCost_37 0 rfl rfl ?_
            refine AW.iload_n dX5_setCost_38 3 rfl rfl ?_
            refine AW.icmp_ne 45 dX5_setCost_39 (by decide) (by omega) (by omega) (fun c39 => ?_) (fun c39 => ?_)
            · refine AW.iload_n dX5_setCost_45 2 rfl rfl ?_
              refine AW.if_ne 57 dX5_setCost_46 (by decide) (by omega) (fun c46 => ?_) (fun c46 => ?_)
              · refine AW.aload_n dX5_setCost_57 1 rfl rfl ?_
                refine AW.iload_n dX5_setCost_58 3 rfl rfl ?_
                refine AW.putI dX5_setCost_59 fp_X5_31 hk.1 rfl ?_
                refine AW.iload_n dX5_setCost_62 0 rfl rfl ?_
                exact AW.iret rfl dX5_setCost_63 ⟨by unfold tellZ; rw [if_pos (by omega), if_neg (by first | (rw [show a = 0 by omega]; simp; omega) | (rw [show a = 1 by omega]; simp; omega))]; first | (rw [show a = 0 by omega]; simp; omega) | (rw [show a = 1 by omega]; simp; omega), off4.rfl'.up (by omega), stRel.tell hr (by omega) (by omega) (by first | (rw [show a = 0 by omega]; simp; omega) | (rw [show a = 1 by omega]; simp; omega)) (fun j => by rw [up2_e]; first | (rw [show a = 0 by omega]; simp; done) | (rw [show a = 1 by omega]; simp; done)) (up2_c (by omega)) (up2_c (by omega)) (up2_c (by omega))⟩
              · refine AW.aload_n dX5_setCost_49 1 rfl rfl ?_
                refine AW.iload_n dX5_setCost_50 3 rfl rfl ?_
                refine AW.putI dX5_setCost_51 fp_X5_28 hk.1 rfl ?_
                refine AW.goto 62 dX5_setCost_54 (by decide) ?_
                refine AW.iload_n dX5_setCost_62 0 rfl rfl ?_
                exact AW.iret rfl dX5_setCost_63 ⟨by unfold tellZ; rw [if_pos (by omega), if_neg (by first | (rw [show a = 0 by omega]; simp; omega) | (rw [show a = 1 by omega]; simp; omega))]; first | (rw [show a = 0 by omega]; simp; omega) | (rw [show a = 1 by omega]; simp; omega), off4.rfl'.up (by omega), stRel.tell hr (by omega) (by omega) (by first | (rw [show a = 0 by omega]; simp; omega) | (rw [show a = 1 by omega]; simp; omega)) (fun j => by rw [up2_e]; first | (rw [show a = 0 by omega]; simp; done) | (rw [show a = 1 by omega]; simp; done)) (up2_c (by omega)) (up2_c (by omega)) (up2_c (by omega))⟩
            · refine AW.bipush (z := (-2)) dX5_setCost_42 (by decide) ?_
              exact AW.iret rfl dX5_setCost_44 ⟨by unfold tellZ; rw [if_pos (by omega), if_pos (by first | (rw [show a = 0 by omega]; simp; omega) | (rw [show a = 1 by omega]; simp; omega))], off4.rfl', by unfold tellR; rw [if_neg (fun q => q.2 (by first | (rw [show a = 0 by omega]; simp; omega) | (rw [show a = 1 by omega]; simp; omega)))]; exact hr⟩
        · refine AW.iconst dX5_setCost_19 ?_
          exact AW.iret rfl dX5_setCost_20 ⟨by unfold tellZ; rw [if_neg (by omega)], off4.rfl', by unfold tellR; rw [if_neg (by omega)]; exact hr⟩
