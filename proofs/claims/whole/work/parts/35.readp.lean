/-! THE TAPE read as a text: one letter after the other -/
def forR (r : Nat → Int) : Nat → Int := up1 (up1 r 1 0) 0 0
def lenR (r : Nat → Int) (c : Int) : Nat → Int := up1 (up1 r (18 + 7 * (r 1 - 1).toNat + (r (17 + 7 * (r 1 - 1).toNat)).toNat) c) (17 + 7 * (r 1 - 1).toNat) (r (17 + 7 * (r 1 - 1).toNat) + 1)
def opnR (r : Nat → Int) (c : Int) : Nat → Int := up1 (up1 (up1 r (18 + 7 * (r 1).toNat) c) (17 + 7 * (r 1).toNat) 1) 1 (r 1 + 1)
theorem OkR.for {r : Nat → Int} (h : OkR r) : OkR (forR r) := by
  obtain ⟨h0, h1, h2, h3, h4, h5, h6⟩ := h
  unfold forR
  refine ⟨by simp [up1], by simp [up1], by simp [up1]; exact h2, by simp [up1]; exact h3, by simp [up1]; exact h4, ?_, ?_⟩
  · intro i hi; simp [up1] at hi; omega
  · intro w hw; simp [up1] at hw; omega
theorem OkR.len {r : Nat → Int} (h : OkR r) (c : Int) (hc : 0 ≤ c ∧ c < 26) (h1 : 1 ≤ r 1) (hl : ¬ r (17 + 7 * (r 1 - 1).toNat) = 6) : OkR (lenR r c) := by
  obtain ⟨o0, o1, o2, o3, o4, o5, o6⟩ := id h
  obtain ⟨l1, l2⟩ := o6 (r 1 - 1).toNat (by omega)
  unfold lenR
  generalize hL : r (17 + 7 * (r 1 - 1).toNat) = L at *
  generalize hw : (r 1 - 1).toNat = W at *
  refine ⟨?_, ?_, ?_, ?_, ?_, ?_, ?_⟩
  · simp only [up1]; rw [if_neg (by omega), if_neg (by omega)]; exact o0
  · simp only [up1]; rw [if_neg (by omega), if_neg (by omega)]; exact o1
  · simp only [up1]; rw [if_neg (by omega), if_neg (by omega)]; exact o2
  · simp only [up1]; rw [if_neg (by omega), if_neg (by omega)]; exact o3
  · simp only [up1]; rw [if_neg (by omega), if_neg (by omega)]; exact o4
  · intro i hi
    have hi : (i : Int) < r 0 := by simpa [up1, show ¬ 0 = 17 + 7 * W by omega, show ¬ 0 = 18 + 7 * W + L.toNat by omega] using hi
    simp only [up1]; rw [if_neg (by omega), if_neg (by omega)]; exact o5 i hi
  · intro w hw2
    have hw2 : (w : Int) < r 1 := by simpa [up1, show ¬ 1 = 17 + 7 * W by omega, show ¬ 1 = 18 + 7 * W + L.toNat by omega] using hw2
    obtain ⟨p1, p2⟩ := o6 w hw2
    by_cases q : w = W
    · subst q
      simp only [up1]
      rw [if_pos trivial]
      refine ⟨by omega, fun i hi => ?_⟩
      rw [if_neg (by omega)]
      by_cases qi : i = L.toNat
      · rw [if_pos (by omega)]; exact hc
      · rw [if_neg (by omega)]; exact l2 i (by omega)
    · simp only [up1]
      rw [if_neg (by omega), if_neg (by omega)]
      refine ⟨p1, fun i hi => ?_⟩
      rw [if_neg (by omega), if_neg (by omega)]
      exact p2 i hi
theorem OkR.opn {r : Nat → Int} (h : OkR r) (c : Int) (hc : 0 ≤ c ∧ c < 26) (h1 : ¬ r 1 = 6) : OkR (opnR r c) := by
  obtain ⟨o0, o1, o2, o3, o4, o5, o6⟩ := id h
  unfold opnR
  generalize hw : (r 1).toNat = W at *
  refine ⟨?_, ?_, ?_, ?_, ?_, ?_, ?_⟩
  · simp only [up1]; rw [if_neg (by omega), if_neg (by omega), if_neg (by omega)]; exact o0
  · simp only [up1]; rw [if_pos trivial]; omega
  · simp only [up1]; rw [if_neg (by omega), if_neg (by omega), if_neg (by omega)]; exact o2
  · simp only [up1]; rw [if_neg (by omega), if_neg (by omega), if_neg (by omega)]; exact o3
  · simp only [up1]; rw [if_neg (by omega), if_neg (by omega), if_neg (by omega)]; exact o4
  · intro i hi
    have hi : (i : Int) < r 0 := by simpa [up1, show ¬ 0 = 17 + 7 * W by omega, show ¬ 0 = 18 + 7 * W by omega] using hi
    simp only [up1]; rw [if_neg (by omega), if_neg (by omega), if_neg (by omega)]; exact o5 i hi
  · intro w hw2
    have hw2 : (w : Int) < r 1 + 1 := by simpa [up1] using hw2
    by_cases q : w = W
    · subst q
      simp only [up1]
      rw [if_neg (by omega), if_pos trivial]
      refine ⟨by omega, fun i hi => ?_⟩
      rw [if_neg (by omega), if_neg (by omega), if_pos (by omega)]; exact hc
    · obtain ⟨p1, p2⟩ := o6 w (by omega)
      simp only [up1]
      rw [if_neg (by omega), if_neg (by omega), if_neg (by omega)]
      refine ⟨p1, fun i hi => ?_⟩
      rw [if_neg (by omega), if_neg (by omega), if_neg (by omega)]
      exact p2 i hi
def stpA (wh : Int) (r : Nat → Int) (c : Int) : Int × (Nat → Int) :=
  if c = 32 then (wh, r)
  else if 97 ≤ c ∧ c ≤ 122 then
    (if wh = 3 then (if r 0 = 12 then (4, r) else (3, sayR r (c - 97)))
     else if wh = 2 then (if r (17 + 7 * (r 1 - 1).toNat) = 6 then (4, r) else (2, lenR r (c - 97)))
     else if r 1 = 6 then (4, r) else (2, opnR r (c - 97)))
  else if c = 44 then (if wh = 2 ∧ r 1 < 6 then (1, r) else (4, r))
  else if c = 58 then (if wh = 0 ∨ wh = 2 then (3, r) else (4, r))
  else (4, r)
def okA (s : Int × (Nat → Int)) : Prop := OkR s.2 ∧ (0 ≤ s.1 ∧ s.1 ≤ 4) ∧ (s.1 = 0 → s.2 1 = 0) ∧ (s.1 = 1 → s.2 1 < 6) ∧ (s.1 = 2 → 1 ≤ s.2 1)
theorem okA_stp {wh : Int} {r : Nat → Int} (h : okA (wh, r)) (c : Int) : okA (stpA wh r c) := by
  obtain ⟨h1, h2, h3, h4, h5⟩ := h
  dsimp only at *
  have hf : okA (4, r) := ⟨h1, by dsimp only; omega, fun q => by dsimp only at q; omega, fun q => by dsimp only at q; omega, fun q => by dsimp only at q; omega⟩
  unfold stpA
  by_cases c1 : c = 32
  · rw [if_pos c1]; exact ⟨h1, h2, h3, h4, h5⟩
  rw [if_neg c1]
  by_cases c2 : 97 ≤ c ∧ c ≤ 122
  · rw [if_pos c2]
    by_cases c3 : wh = 3
    · rw [if_pos c3]
      by_cases c4 : r 0 = 12
      · rw [if_pos c4]; exact hf
      · rw [if_neg c4]; exact ⟨h1.say _, by dsimp only; omega, fun q => by dsimp only at q; omega, fun q => by dsimp only at q; omega, fun q => by dsimp only at q; omega⟩
    · rw [if_neg c3]
      by_cases c4 : wh = 2
      · rw [if_pos c4]
        by_cases c5 : r (17 + 7 * (r 1 - 1).toNat) = 6
        · rw [if_pos c5]; exact hf
        · rw [if_neg c5]
          refine ⟨h1.len _ (by omega) (h5 c4) c5, by dsimp only; omega, fun q => by dsimp only at q; omega, fun q => by dsimp only at q; omega, fun q => ?_⟩
          have := h5 c4
          simp only [lenR, up1]
          rw [if_neg (by omega), if_neg (by omega)]; exact this
      · rw [if_neg c4]
        by_cases c5 : r 1 = 6
        · rw [if_pos c5]; exact hf
        · rw [if_neg c5]
          refine ⟨h1.opn _ (by omega) c5, by dsimp only; omega, fun q => by dsimp only at q; omega, fun q => by dsimp only at q; omega, fun q => ?_⟩
          have := h1.2.1
          simp only [opnR, up1]
          rw [if_pos trivial]; omega
  rw [if_neg c2]
  by_cases c3 : c = 44
  · rw [if_pos c3]
    by_cases c4 : wh = 2 ∧ r 1 < 6
    · rw [if_pos c4]; exact ⟨h1, by dsimp only; omega, fun q => by dsimp only at q; omega, fun _ => c4.2, fun q => by dsimp only at q; omega⟩
    · rw [if_neg c4]; exact hf
  rw [if_neg c3]
  by_cases c4 : c = 58
  · rw [if_pos c4]
    by_cases c5 : wh = 0 ∨ wh = 2
    · rw [if_pos c5]; exact ⟨h1, by dsimp only; omega, fun q => by dsimp only at q; omega, fun q => by dsimp only at q; omega, fun q => by dsimp only at q; omega⟩
    · rw [if_neg c5]; exact hf
  · rw [if_neg c4]; exact hf
def aut (tp r : Nat → Int) : Nat → Int × (Nat → Int)
  | 0 => (0, forR r)
  | n + 1 => stpA (aut tp r n).1 (aut tp r n).2 (tp n)
theorem okA_aut (tp : Nat → Int) {r : Nat → Int} (ho : OkR r) : ∀ n : Nat, okA (aut tp r n)
  | 0 => ⟨ho.for, by simp [aut], fun _ => by simp [aut, forR, up1], fun q => by simp [aut] at q, fun q => by simp [aut] at q⟩
  | n + 1 => okA_stp (okA_aut tp ho n) (tp n)
theorem aut_blank {tp r : Nat → Int} {p : Nat} : ∀ d : Nat, (∀ j : Nat, p ≤ j → j < p + d → tp j = 32) → aut tp r (p + d) = aut tp r p
  | 0, _ => rfl
  | d + 1, h => by
    rw [← Nat.add_assoc]
    show stpA _ _ _ = _
    rw [h (p + d) (by omega) (by omega)]
    unfold stpA; rw [if_pos rfl]
    exact aut_blank d (fun j h1 h2 => h j h1 (by omega))
/-- no fault up to there -/
def nof (tp r : Nat → Int) (p : Nat) : Prop := ∀ j : Nat, j ≤ p → ¬ (aut tp r j).1 = 4
theorem nof_0 (tp r : Nat → Int) : nof tp r 0 := fun j hj => by rw [show j = 0 by omega]; simp [aut]
theorem nof.next {tp r : Nat → Int} {p : Nat} (h : nof tp r p) (h2 : ¬ (aut tp r (p + 1)).1 = 4) : nof tp r (p + 1) := fun j hj => by
  rcases Nat.lt_or_ge p j with q | q
  · rw [show j = p + 1 by omega]; exact h2
  · exact h j q
theorem nof.blank {tp r : Nat → Int} {p q : Nat} (h : nof tp r p) (hq : p ≤ q) (hb : ∀ j : Nat, p ≤ j → j < q → tp j = 32) : nof tp r q ∧ aut tp r q = aut tp r p := by
  refine ⟨fun j hj => ?_, ?_⟩
  · rcases Nat.lt_or_ge p j with c | c
    · have := aut_blank (tp := tp) (r := r) (p := p) (j - p) (fun i h1 h2 => hb i h1 (by omega))
      rw [show p + (j - p) = j by omega] at this
      rw [this]; exact h p (Nat.le_refl _)
    · exact h j c
  · have := aut_blank (tp := tp) (r := r) (p := p) (q - p) (fun i h1 h2 => hb i h1 (by omega))
    rw [show p + (q - p) = q by omega] at this
    exact this
/-- the place of the fault, -1 if there is none -/
def flt (tp r : Nat → Int) (n : Nat) (z : Int) : Prop := (∃ i : Nat, i < n ∧ z = i ∧ nof tp r i ∧ (aut tp r (i + 1)).1 = 4) ∨ (nof tp r n ∧ ¬ (aut tp r n).1 = 3 ∧ z = n) ∨ (nof tp r n ∧ (aut tp r n).1 = 3 ∧ z = -1)
theorem flt_uniq {tp r : Nat → Int} {n : Nat} {z y : Int} (h : flt tp r n z) (g : flt tp r n y) : z = y := by
  rcases h with ⟨i, a1, a2, a3, a4⟩ | ⟨a1, a2, a3⟩ | ⟨a1, a2, a3⟩ <;> rcases g with ⟨j, b1, b2, b3, b4⟩ | ⟨b1, b2, b3⟩ | ⟨b1, b2, b3⟩
  · rcases Nat.lt_trichotomy i j with q | q | q
    · exact absurd a4 (b3 (i + 1) (by omega))
    · omega
    · exact absurd b4 (a3 (j + 1) (by omega))
  · exact absurd a4 (b1 (i + 1) (by omega))
  · exact absurd a4 (b1 (i + 1) (by omega))
  · exact absurd b4 (a1 (j + 1) (by omega))
  · omega
  · exact absurd b2 a2
  · exact absurd b4 (a1 (j + 1) (by omega))
  · exact absurd a2 b2
  · omega
theorem flt_n {tp r : Nat → Int} {n : Nat} {z : Int} (h : flt tp r n z) : -1 ≤ z ∧ z ≤ n := by
  rcases h with ⟨i, a1, a2, a3, a4⟩ | ⟨a1, a2, a3⟩ | ⟨a1, a2, a3⟩ <;> omega
theorem flt_m {tp r : Nat → Int} {n : Nat} {z : Int} (h : flt tp r n z) (hz : z < 0) : (aut tp r n).1 = 3 := by
  rcases h with ⟨i, a1, a2, a3, a4⟩ | ⟨a1, a2, a3⟩ | ⟨a1, a2, a3⟩
  · omega
  · omega
  · exact a2
