/-! both sides, call by call: the rest -/
theorem sim_type (Γ : GC) (M : Mm) (hI : Inv M) (c : Int) (hc : R32 c) : Sim Γ uX8_type uX9_type [vi c] M := by
  have t := hI.t
  obtain ⟨t1, t2, t3⟩ := t
  refine ⟨_, C_type Γ M (by rw [t1]; exact t2) c hc, fun z M1 h => ?_⟩
  obtain ⟨e, h⟩ := h
  have e94 : M1 94 = M 94 := by
    rcases h with ⟨_, h⟩ | ⟨_, h⟩
    · rw [h, up2_c (by decide), up2_c (by decide)]
    · rw [h]
  refine (C9_type Γ M1 (by rw [e94]; exact t2) c hc).mono (fun z2 M2 h2 => ?_)
  obtain ⟨g, h2⟩ := h2
  rw [e94] at g h2
  rw [t1] at e h
  refine ⟨by rw [g, e], ?_⟩
  rcases h with ⟨k, h⟩ | ⟨k, h⟩
  · rcases h2 with ⟨_, h2⟩ | ⟨k2, _⟩
    · have f : ∀ a : Nat, a ≠ 83 → a ≠ 84 → a ≠ 94 → a ≠ 101 → M2 a = M a := fun a q1 q2 q3 q4 => by rw [h2, up2_c q3, up2_c q4, h, up2_c q1, up2_c q2]
      have f94 : ∀ j : Nat, j ≠ 14 → M2 94 j = M 94 j := fun j q => by rw [h2, up2_i q, up2_n (by decide), e94]
      have a14 : M2 94 14 = M 94 14 + 1 := by rw [h2, up2_s]
      have a83 : M2 83 1 = M 94 14 + 1 := by rw [h2, up2_n (by decide), up2_n (by decide), h, up2_s]
      have a84 : ∀ j : Nat, M2 84 j = if j = (M 94 14).toNat then c else M 84 j := fun j => by
        rw [h2, up2_n (by decide), up2_n (by decide), h, up2_n (by decide)]; simp [up2_e]
      have a101 : ∀ j : Nat, M2 101 j = if j = (M 94 14).toNat then c else M 101 j := fun j => by
        rw [h2, up2_n (by decide)]
        simp only [up2_e]
        rw [h, up2_n (by decide), up2_n (by decide)]; simp
      refine ⟨hI.1.fr (fun a q1 q2 => f a (by omega) (by omega) (by omega) (by omega)) (f 96 (by decide) (by decide) (by decide) (by decide)), hI.2.1.fr (fun a q1 q2 => f a (by omega) (by omega) (by omega) (by omega)) (f94 18 (by decide)) (f 102 (by decide) (by decide) (by decide) (by decide)), hI.im.fr (by rw [f 0 (by decide) (by decide) (by decide) (by decide)]) (fun a q1 q2 => f a (by omega) (by omega) (by omega) (by omega)) (f94 21 (by decide)) (f 103 (by decide) (by decide) (by decide) (by decide)) (f 104 (by decide) (by decide) (by decide) (by decide)), ?_, hI.l.fr (fun a q1 q2 => f a (by omega) (by omega) (by omega) (by omega)) (f 105 (by decide) (by decide) (by decide) (by decide)) (f 106 (by decide) (by decide) (by decide) (by decide)) (f 107 (by decide) (by decide) (by decide) (by decide)), hI.g.fr (f 95 (by decide) (by decide) (by decide) (by decide)), by rw [f 66 (by decide) (by decide) (by decide) (by decide), f 67 (by decide) (by decide) (by decide) (by decide)]; exact hI.w⟩
      unfold typeOk at k
      refine ⟨by rw [a83, a14], by rw [a14]; omega, fun j hj => ?_⟩
      rw [a14] at hj
      rw [a84, a101]
      by_cases q : j = (M 94 14).toNat
      · rw [if_pos q, if_pos q]; exact ⟨rfl, k.1⟩
      · rw [if_neg q, if_neg q]; exact t3 j (by omega)
    · exact absurd k k2
  · rcases h2 with ⟨k2, _⟩ | ⟨_, h2⟩
    · exact absurd k2 k
    · rw [h2, h]; exact hI
theorem sim_seed (Γ : GC) (M : Mm) (hI : Inv M) (v : Int) (hv : R32 v) : Sim Γ uX8_seed uX9_seed [vi v] M := by
  refine ⟨_, C_seed Γ M v hv, fun z M1 h => ?_⟩
  obtain ⟨e, h⟩ := h
  refine (C9_seed Γ M1 v hv).mono (fun z2 M2 h2 => ?_)
  obtain ⟨g, h2⟩ := h2
  have hs : M 1 7 = M 96 4 := hI.s.2.2.2.2.1
  by_cases c : 0 ≤ v
  · rw [if_pos c] at e h g h2
    have f : ∀ a : Nat, a ≠ 1 → a ≠ 96 → M2 a = M a := fun a q1 q2 => by rw [h2, up2_c q2, h, up2_c q1]
    have e96 : M1 96 = M 96 := by rw [h, up2_c (by decide)]
    have f96 : M2 96 = up1 (M 96) 4 v := by rw [h2]; show upM M1 96 (up1 (M1 96) 4 v) 96 = _; rw [upM_s, e96]
    have f1 : ∀ a : Nat, a ≠ 96 → M2 a = up2 M 1 7 v a := fun a q => by rw [h2, up2_c q, h]
    refine ⟨by rw [g, e, e96, hs], ⟨?_, ?_⟩, hI.2.1.fr (fun a q1 q2 => f a (by omega) (by omega)) (by rw [f 94 (by decide) (by decide)]) (f 102 (by decide) (by decide)), hI.im.fr (by rw [f 0 (by decide) (by decide)]) (fun a q1 q2 => f a (by omega) (by omega)) (by rw [f 94 (by decide) (by decide)]) (f 103 (by decide) (by decide)) (f 104 (by decide) (by decide)), hI.t.fr (by rw [f 83 (by decide) (by decide)]) (by rw [f 94 (by decide) (by decide)]) (f 84 (by decide) (by decide)) (f 101 (by decide) (by decide)), hI.l.fr (fun a q1 q2 => f a (by omega) (by omega)) (f 105 (by decide) (by decide)) (f 106 (by decide) (by decide)) (f 107 (by decide) (by decide)), hI.g.fr (f 95 (by decide) (by decide)), by rw [f 66 (by decide) (by decide), f 67 (by decide) (by decide)]; exact hI.w⟩
    · rw [f96]; exact (hI.s.draw v).frame (f1 1 (by decide)) (f1 2 (by decide)) (f1 3 (by decide)) (f1 4 (by decide))
    · rw [f96]; exact hI.ok.draw ⟨c, hv.2⟩
  · rw [if_neg c] at e h g h2
    exact ⟨by rw [g, e], by rw [h2, h]; exact hI⟩
theorem row_cpy (A g : Nat → Int) (j : Nat) : eq59 (rowA A j) (va_cpy A g (59 * j) 0 59) := fun i hi => by
  unfold va_cpy rowA
  rw [if_pos ⟨by omega, by omega⟩, Nat.sub_zero]
theorem sim_undo (Γ : GC) (M : Mm) (hI : Inv M) : Sim Γ uX8_undo uX9_undo [] M := by
  refine ⟨_, C_undo Γ M (M 94 18) (M 102) hI.p, fun z M1 h => ?_⟩
  have e94 : M1 94 = M 94 := by
    rcases h with ⟨_, _, h⟩ | ⟨_, _, _, _, h⟩
    · rw [h]
    · exact h 94 (by decide)
  have e96 : M1 96 = M 96 := by
    rcases h with ⟨_, _, h⟩ | ⟨_, _, _, _, h⟩
    · rw [h]
    · exact h 96 (by decide)
  have e102 : M1 102 = M 102 := by
    rcases h with ⟨_, _, h⟩ | ⟨_, _, _, _, h⟩
    · rw [h]
    · exact h 102 (by decide)
  refine (C9_undo Γ M1 (by rw [e94]; exact hI.u)).mono (fun z2 M2 h2 => ?_)
  rw [e94, e96, e102] at h2
  have hu := hI.u
  rcases h with ⟨c, hz, h⟩ | ⟨c, hz, x1, x2, x3⟩
  · rcases h2 with ⟨_, hz2, h2⟩ | ⟨c2, _⟩
    · exact ⟨by rw [hz2, hz], by rw [h2, h]; exact hI⟩
    · omega
  · rcases h2 with ⟨c2, _⟩ | ⟨_, hz2, y1, y2, y3, y4⟩
    · omega
    · have f : ∀ a : Nat, (a < 1 ∨ 5 < a) → a ≠ 94 → a ≠ 96 → M2 a = M a := fun a q1 q2 q3 => by rw [y4 a q2 q3, x3 a q1]
      have k : ∀ a : Nat, a < 94 → M2 a = M1 a := fun a q => y4 a (by omega) (by omega)
      have hk := (hI.p.2.2.2 (M 94 18 - 1).toNat (by omega)).1
      refine ⟨by rw [hz2, hz], ⟨?_, ?_⟩, ?_, hI.im.fr (by rw [f 0 (by decide) (by decide) (by decide)]) (fun a q1 q2 => f a (by omega) (by omega) (by omega)) (y2 21 (by decide)) (f 103 (by decide) (by decide) (by decide)) (f 104 (by decide) (by decide) (by decide)), hI.t.fr (by rw [f 83 (by decide) (by decide) (by decide)]) (y2 14 (by decide)) (f 84 (by decide) (by decide) (by decide)) (f 101 (by decide) (by decide) (by decide)), hI.l.fr (fun a q1 q2 => f a (by omega) (by omega) (by omega)) (f 105 (by decide) (by decide) (by decide)) (f 106 (by decide) (by decide) (by decide)) (f 107 (by decide) (by decide) (by decide)), hI.g.fr (f 95 (by decide) (by decide) (by decide)), by rw [f 66 (by decide) (by decide) (by decide), f 67 (by decide) (by decide) (by decide)]; exact hI.w⟩
      · rw [y3]; exact (x2.frame (k _ (by decide)) (k _ (by decide)) (k _ (by decide)) (k _ (by decide))).congr hk (row_cpy _ _ _)
      · rw [y3]; exact hk.congr (row_cpy _ _ _)
      · unfold IvP
        rw [y1, f 102 (by decide) (by decide) (by decide)]
        exact x1.frame (fun a q1 q2 => k a (by omega))
theorem cpy354 (f g : Nat → Int) : ∀ j : Nat, j < 354 → f j = va_cpy f g 0 0 354 j := fun j hj => (cpy0 hj).symm
theorem sim_image (Γ : GC) (M : Mm) (hI : Inv M) : Sim Γ uX8_image uX9_image [] M := by
  refine ⟨_, C_image Γ M, fun z M1 h => ?_⟩
  obtain ⟨e, x1, x2, x3, x4, x5⟩ := h
  refine (C9_image Γ M1).mono (fun z2 M2 h2 => ?_)
  obtain ⟨g, y1, y2, y3, y4, y5⟩ := h2
  have e94 : M1 94 = M 94 := x5 94 (by decide)
  have e96 : M1 96 = M 96 := x5 96 (by decide)
  have e102 : M1 102 = M 102 := x5 102 (by decide)
  have f : ∀ a : Nat, ((0 < a ∧ a < 31) ∨ 60 < a) → a ≠ 94 → a ≠ 103 → a ≠ 104 → M2 a = M a := fun a q1 q2 q3 q4 => by rw [y5 a q2 q3 q4, x5 a q1]
  have k : ∀ a : Nat, a < 94 → M2 a = M1 a := fun a q => y5 a (by omega) (by omega) (by omega)
  have f94 : ∀ j : Nat, j ≠ 21 → M2 94 j = M 94 j := fun j q => by rw [y2 j q, e94]
  refine ⟨by rw [g, e], hI.1.fr (fun a q1 q2 => f a (by omega) (by omega) (by omega) (by omega)) (f 96 (by decide) (by decide) (by decide) (by decide)), hI.2.1.fr (fun a q1 q2 => f a (by omega) (by omega) (by omega) (by omega)) (f94 18 (by decide)) (f 102 (by decide) (by decide) (by decide) (by decide)), Or.inr ⟨by rw [k 0 (by decide), x1], ?_, ?_, ?_⟩, hI.t.fr (by rw [f 83 (by decide) (by decide) (by decide) (by decide)]) (f94 14 (by decide)) (f 84 (by decide) (by decide) (by decide) (by decide)) (f 101 (by decide) (by decide) (by decide) (by decide)), hI.l.fr (fun a q1 q2 => f a (by omega) (by omega) (by omega) (by omega)) (f 105 (by decide) (by decide) (by decide) (by decide)) (f 106 (by decide) (by decide) (by decide) (by decide)) (f 107 (by decide) (by decide) (by decide) (by decide)), hI.g.fr (f 95 (by decide) (by decide) (by decide) (by decide)), by rw [f 66 (by decide) (by decide) (by decide) (by decide), f 67 (by decide) (by decide) (by decide) (by decide)]; exact hI.w⟩
  · rw [y3, e96]; exact ((x3 _ hI.ok hI.s).frame (k _ (by decide)) (k _ (by decide)) (k _ (by decide)) (k _ (by decide))).congr hI.ok (cpy59 _ _)
  · rw [y3, e96]; exact hI.ok.congr (cpy59 _ _)
  · rw [y1, y4, e94, e102]; exact ((x4 _ _ hI.p).frame (fun a q1 q2 => k a (by omega))).congr (cpy354 _ _)
theorem sim_restore (Γ : GC) (M : Mm) (hI : Inv M) : Sim Γ uX8_restore uX9_restore [] M := by
  have h0 : M 0 4 = 0 ∨ M 0 4 = 1 := by
    rcases hI.im with h | h
    · exact Or.inl h.1
    · exact Or.inr h.1
  have h21 : -1 ≤ M 94 21 ∧ M 94 21 ≤ 6 := by
    rcases hI.im with h | ⟨_, _, _, h⟩
    · omega
    · have := h.2.1; omega
  refine ⟨_, C_restore Γ M h0, fun z M1 h => ?_⟩
  have e9 : ∀ a : Nat, 30 < a → M1 a = M a := by
    rcases h with ⟨_, _, h⟩ | ⟨_, _, _, _, h⟩
    · intro a _; rw [h]
    · exact fun a q => h a (Or.inr q)
  refine (C9_restore Γ M1 (by rw [e9 94 (by decide)]; exact h21)).mono (fun z2 M2 h2 => ?_)
  rw [e9 94 (by decide), e9 96 (by decide), e9 102 (by decide), e9 103 (by decide), e9 104 (by decide)] at h2
  rcases hI.im with him | ⟨i1, i2, i3, i4⟩
  · rcases h with ⟨_, hz, h⟩ | ⟨c, _⟩
    · rcases h2 with ⟨_, hz2, h2⟩ | ⟨c2, _⟩
      · exact ⟨by rw [hz2, hz], by rw [h2, h]; exact hI⟩
      · omega
    · exact absurd him.1 c
  · have i5 := i4.2.1
    rcases h with ⟨c, _⟩ | ⟨_, hz, x1, x2, x3⟩
    · omega
    · rcases h2 with ⟨c2, _⟩ | ⟨_, hz2, y1, y2, y3, y4, y5⟩
      · omega
      · have f : ∀ a : Nat, (a < 1 ∨ 30 < a) → a ≠ 94 → a ≠ 96 → a ≠ 102 → M2 a = M a := fun a q1 q2 q3 q4 => by rw [y5 a q2 q3 q4, x3 a q1]
        have k : ∀ a : Nat, a < 94 → M2 a = M1 a := fun a q => y5 a (by omega) (by omega) (by omega)
        refine ⟨by rw [hz2, hz], ⟨?_, ?_⟩, ?_, hI.im.fr (by rw [f 0 (by decide) (by decide) (by decide) (by decide)]) (fun a q1 q2 => f a (by omega) (by omega) (by omega) (by omega)) (y2 21 (by decide)) (f 103 (by decide) (by decide) (by decide) (by decide)) (f 104 (by decide) (by decide) (by decide) (by decide)), hI.t.fr (by rw [f 83 (by decide) (by decide) (by decide) (by decide)]) (y2 14 (by decide)) (f 84 (by decide) (by decide) (by decide) (by decide)) (f 101 (by decide) (by decide) (by decide) (by decide)), hI.l.fr (fun a q1 q2 => f a (by omega) (by omega) (by omega) (by omega)) (f 105 (by decide) (by decide) (by decide) (by decide)) (f 106 (by decide) (by decide) (by decide) (by decide)) (f 107 (by decide) (by decide) (by decide) (by decide)), hI.g.fr (f 95 (by decide) (by decide) (by decide) (by decide)), by rw [f 66 (by decide) (by decide) (by decide) (by decide), f 67 (by decide) (by decide) (by decide) (by decide)]; exact hI.w⟩
        · rw [y3]; exact ((x1 _ i3 i2).frame (k _ (by decide)) (k _ (by decide)) (k _ (by decide)) (k _ (by decide))).congr i3 (cpy59 _ _)
        · rw [y3]; exact i3.congr (cpy59 _ _)
        · unfold IvP
          rw [y1, y4]
          exact ((x2 _ _ i4).frame (fun a q1 q2 => k a (by omega))).congr (cpy354 _ _)
theorem sim_drift (Γ : GC) (M : Mm) (hI : Inv M) (n : Int) (hn : R32 n) : Sim Γ uX8_drift uX9_drift [vi n] M := by
  refine ⟨_, C_drift Γ M n hn (M 96) (M 94 18) (M 102) hI.ok hI.s hI.p, fun z M1 h => ?_⟩
  have e9 : ∀ a : Nat, 30 < a → M1 a = M a := by
    rcases h with ⟨_, _, h⟩ | ⟨_, _, _, _, h⟩
    · intro a _; rw [h]
    · exact fun a q => h a (Or.inr q)
  refine (C9_drift Γ M1 n hn (by rw [e9 96 (by decide)]; exact hI.ok) (by rw [e9 94 (by decide)]; exact hI.u)).mono (fun z2 M2 h2 => ?_)
  rcases h with ⟨c, hz, h⟩ | ⟨c, hz, x1, x2, x3⟩
  · rcases h2 with ⟨_, hz2, h2⟩ | ⟨c2, _⟩
    · exact ⟨by rw [hz2, hz], by rw [h2, h]; exact hI⟩
    · exact absurd c2 c
  · rcases h2 with ⟨c2, _⟩ | ⟨_, y0, y1, y2, y3, y4, y5⟩
    · exact absurd c c2
    · rw [e9 94 (by decide), e9 96 (by decide), e9 102 (by decide)] at y0 y1 y2 y3
      rw [e9 94 (by decide)] at y4
      have f : ∀ a : Nat, (a < 1 ∨ 30 < a) → a ≠ 94 → a ≠ 96 → a ≠ 97 → a ≠ 102 → M2 a = M a := fun a q1 q2 q3 q4 q5 => by rw [y5 a q2 q3 q4 q5, x3 a q1]
      have k : ∀ a : Nat, a < 94 → M2 a = M1 a := fun a q => y5 a (by omega) (by omega) (by omega) (by omega)
      refine ⟨by rw [y0, hz], ⟨?_, ?_⟩, ?_, hI.im.fr (by rw [f 0 (by decide) (by decide) (by decide) (by decide) (by decide)]) (fun a q1 q2 => f a (by omega) (by omega) (by omega) (by omega) (by omega)) (y4 21 (by decide) (by decide)) (f 103 (by decide) (by decide) (by decide) (by decide) (by decide)) (f 104 (by decide) (by decide) (by decide) (by decide) (by decide)), hI.t.fr (by rw [f 83 (by decide) (by decide) (by decide) (by decide) (by decide)]) (y4 14 (by decide) (by decide)) (f 84 (by decide) (by decide) (by decide) (by decide) (by decide)) (f 101 (by decide) (by decide) (by decide) (by decide) (by decide)), hI.l.fr (fun a q1 q2 => f a (by omega) (by omega) (by omega) (by omega) (by omega)) (f 105 (by decide) (by decide) (by decide) (by decide) (by decide)) (f 106 (by decide) (by decide) (by decide) (by decide) (by decide)) (f 107 (by decide) (by decide) (by decide) (by decide) (by decide)), hI.g.fr (f 95 (by decide) (by decide) (by decide) (by decide) (by decide)), by rw [f 66 (by decide) (by decide) (by decide) (by decide) (by decide), f 67 (by decide) (by decide) (by decide) (by decide) (by decide)]; exact hI.w⟩
      · rw [y1]; exact x1.frame (k _ (by decide)) (k _ (by decide)) (k _ (by decide)) (k _ (by decide))
      · rw [y1]; exact drG_ok _ _ _ _ hI.ok
      · unfold IvP
        rw [y2]
        exact (x2.frame (fun a q1 q2 => k a (by omega))).congr (fun j hj => (y3 j hj).symm)
theorem aut_tp {tp tq r : Nat → Int} : ∀ n : Nat, (∀ j : Nat, j < n → tp j = tq j) → aut tp r n = aut tq r n
  | 0, _ => rfl
  | n + 1, h => by
    simp only [aut]
    rw [aut_tp n (fun j hj => h j (by omega)), h n (by omega)]
theorem nof_tp {tp tq r : Nat → Int} {n : Nat} (h : ∀ j : Nat, j < n → tp j = tq j) (g : nof tp r n) : nof tq r n := fun j hj => by
  rw [← aut_tp j (fun i hi => h i (by omega))]; exact g j hj
theorem flt_tp {tp tq r : Nat → Int} {n : Nat} {z : Int} (h : ∀ j : Nat, j < n → tp j = tq j) (g : flt tp r n z) : flt tq r n z := by
  rcases g with ⟨i, a1, a2, a3, a4⟩ | ⟨a1, a2, a3⟩ | ⟨a1, a2, a3⟩
  · exact Or.inl ⟨i, a1, a2, nof_tp (fun j hj => h j (by omega)) a3, by rw [← aut_tp (i + 1) (fun j hj => h j (by omega))]; exact a4⟩
  · exact Or.inr (Or.inl ⟨nof_tp h a1, by rw [← aut_tp n h]; exact a2, a3⟩)
  · exact Or.inr (Or.inr ⟨nof_tp h a1, by rw [← aut_tp n h]; exact a2, a3⟩)
theorem sim_read (Γ : GC) (M : Mm) (hI : Inv M) : Sim Γ uX8_read uX9_read [] M := by
  obtain ⟨t1, t2, t3⟩ := hI.t
  refine ⟨_, C_read Γ M (M 96) (M 102) (M 94 18) hI.ok hI.s hI.p (by rw [t1]; exact t2) (fun j hj => by rw [t1] at hj; rw [(t3 j hj).1]; exact (t3 j hj).2), fun z M1 h => ?_⟩
  obtain ⟨p, h1, h2, h3, h4⟩ := h
  have e9 : ∀ a : Nat, 83 < a → M1 a = M a := fun a q => h4 a (by omega) (by omega)
  refine (C9_read Γ M1 (by rw [e9 96 (by decide)]; exact hI.ok) (by rw [e9 94 (by decide)]; exact hI.u) (by rw [e9 94 (by decide)]; exact t2) (fun j hj => by rw [e9 94 (by decide)] at hj; rw [e9 101 (by decide)]; exact (t3 j hj).2)).mono (fun z2 M2 g => ?_)
  obtain ⟨p2, g1, g2, g3, g4, g5⟩ := g
  rw [e9 94 (by decide), e9 101 (by decide), e9 96 (by decide)] at g1
  rw [e9 94 (by decide), e9 101 (by decide), e9 96 (by decide), e9 102 (by decide)] at g3
  rw [e9 94 (by decide)] at g4
  rw [t1] at h1 h3
  have ht : ∀ j : Nat, j < (M 94 14).toNat → M 84 j = M 101 j := fun j hj => (t3 j (by omega)).1
  have ep : p2 = p := flt_uniq g1 (flt_tp ht h1)
  subst ep
  have f : ∀ a : Nat, (a < 1 ∨ (30 < a ∧ a < 61) ∨ 64 < a) → a ≠ 83 → a ≠ 94 → a ≠ 96 → a ≠ 97 → a ≠ 102 → M2 a = M a := fun a q1 q2 q3 q4 q5 q6 => by rw [g5 a q3 q4 q5 q6, h4 a q1 q2]
  have k : ∀ a : Nat, a < 94 → M2 a = M1 a := fun a q => g5 a (by omega) (by omega) (by omega) (by omega)
  have hu := hI.u
  have key : z2 = z ∧ IvS M2 ∧ IvP M2 := by
    rcases h3 with ⟨c, hz, x1, x2⟩ | ⟨c, hz, x1, x2⟩
    · rcases g3 with ⟨_, hz2, y1, y2, y3⟩ | ⟨c2, _⟩
      · refine ⟨by rw [hz2, hz], ⟨(x1.frame (k _ (by decide)) (k _ (by decide)) (k _ (by decide)) (k _ (by decide))).congr hI.ok (fun j hj => (y1 j hj).symm), hI.ok.congr (fun j hj => (y1 j hj).symm)⟩, ?_⟩
        unfold IvP
        rw [y2, y3]
        exact x2.frame (fun a q1 q2 => k a (by omega))
      · omega
    · rcases g3 with ⟨c2, _⟩ | ⟨_, hz2, y1, y2, y3⟩
      · omega
      · rw [aut_tp _ ht] at hz x1
        refine ⟨by rw [hz2, hz], ⟨by rw [y1]; exact x1.frame (k _ (by decide)) (k _ (by decide)) (k _ (by decide)) (k _ (by decide)), by rw [y1]; exact (okA_aut (M 101) hI.ok _).1⟩, ?_⟩
        unfold IvP
        rw [y2, y3]
        exact (x2.frame (fun a q1 q2 => k a (by omega))).congr (ntA_congr hu (fun _ _ => rfl) (cpy59 _ _))
  refine ⟨key.1, key.2.1, key.2.2, hI.im.fr (by rw [f 0 (by decide) (by decide) (by decide) (by decide) (by decide) (by decide)]) (fun a q1 q2 => f a (by omega) (by omega) (by omega) (by omega) (by omega) (by omega)) (g4 21 (by decide) (by decide) (by decide)) (f 103 (by decide) (by decide) (by decide) (by decide) (by decide) (by decide)) (f 104 (by decide) (by decide) (by decide) (by decide) (by decide) (by decide)), ⟨by rw [k 83 (by decide), h2, g2], by rw [g2]; decide, fun j hj => by rw [g2] at hj; omega⟩, hI.l.fr (fun a q1 q2 => f a (by omega) (by omega) (by omega) (by omega) (by omega) (by omega)) (f 105 (by decide) (by decide) (by decide) (by decide) (by decide) (by decide)) (f 106 (by decide) (by decide) (by decide) (by decide) (by decide) (by decide)) (f 107 (by decide) (by decide) (by decide) (by decide) (by decide) (by decide)), hI.g.fr (f 95 (by decide) (by decide) (by decide) (by decide) (by decide) (by decide)), by rw [f 66 (by decide) (by decide) (by decide) (by decide) (by decide) (by decide), f 67 (by decide) (by decide) (by decide) (by decide) (by decide) (by decide)]; exact hI.w⟩
