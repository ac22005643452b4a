/-! both sides, call by call -/
def IvS (M : Mm) : Prop := stRel M 1 (M 96) ∧ OkR (M 96)
def IvP (M : Mm) : Prop := pastRel M 5 (M 94 18) (M 102)
def IvI (M : Mm) : Prop := (M 0 4 = 0 ∧ M 94 21 = -1) ∨ (M 0 4 = 1 ∧ stRel M 31 (M 103) ∧ OkR (M 103) ∧ pastRel M 35 (M 94 21) (M 104))
def IvT (M : Mm) : Prop := M 83 1 = M 94 14 ∧ (0 ≤ M 94 14 ∧ M 94 14 ≤ 90) ∧ ∀ j : Nat, (j : Int) < M 94 14 → M 84 j = M 101 j ∧ (32 ≤ M 101 j ∧ M 101 j ≤ 126)
def IvL (M : Mm) : Prop := OkS M (M 105) (M 106) (M 107) ∧ OkG (M 105) (M 106)
def Inv (M : Mm) : Prop := IvS M ∧ IvP M ∧ IvI M ∧ IvT M ∧ IvL M ∧ SG M ∧ (M 66 0 = 0 ∧ M 67 0 = 0)
theorem IvS.fr {M M' : Mm} (h : IvS M) (e : ∀ a : Nat, 1 ≤ a → a ≤ 4 → M' a = M a) (e2 : M' 96 = M 96) : IvS M' := by
  unfold IvS; rw [e2]
  exact ⟨h.1.frame (e _ (by decide) (by decide)) (e _ (by decide) (by decide)) (e _ (by decide) (by decide)) (e _ (by decide) (by decide)), h.2⟩
theorem IvP.fr {M M' : Mm} (h : IvP M) (e : ∀ a : Nat, 5 ≤ a → a ≤ 30 → M' a = M a) (e1 : M' 94 18 = M 94 18) (e2 : M' 102 = M 102) : IvP M' := by
  unfold IvP; rw [e1, e2]; exact h.frame (fun a q1 q2 => e a (by omega) (by omega))
theorem IvI.fr {M M' : Mm} (h : IvI M) (e0 : M' 0 4 = M 0 4) (e : ∀ a : Nat, 31 ≤ a → a ≤ 60 → M' a = M a) (e1 : M' 94 21 = M 94 21) (e2 : M' 103 = M 103) (e3 : M' 104 = M 104) : IvI M' := by
  unfold IvI; rw [e0, e1, e2, e3]
  rcases h with h | ⟨h1, h2, h3, h4⟩
  · exact Or.inl h
  · exact Or.inr ⟨h1, h2.frame (e _ (by decide) (by decide)) (e _ (by decide) (by decide)) (e _ (by decide) (by decide)) (e _ (by decide) (by decide)), h3, h4.frame (fun a q1 q2 => e a (by omega) (by omega))⟩
theorem IvT.fr {M M' : Mm} (h : IvT M) (e : M' 83 1 = M 83 1) (e1 : M' 94 14 = M 94 14) (e2 : M' 84 = M 84) (e3 : M' 101 = M 101) : IvT M' := by
  unfold IvT; rw [e, e1, e2, e3]; exact h
theorem IvL.fr {M M' : Mm} (h : IvL M) (e : ∀ a : Nat, 86 ≤ a → a ≤ 93 → M' a = M a) (e1 : M' 105 = M 105) (e2 : M' 106 = M 106) (e3 : M' 107 = M 107) : IvL M' := by
  unfold IvL; rw [e1, e2, e3]
  refine ⟨fun s hs => ?_, h.2⟩
  have := h.1 s hs
  unfold paRel at *
  rw [e (86 + 2 * s) (by omega) (by omega), e (86 + 2 * s + 1) (by omega) (by omega)]; exact this
theorem SG.fr {M M' : Mm} (h : SG M) (e : M' 95 = M 95) : SG M' := fun j hj => by rw [e]; exact h j hj
theorem Inv.s {M : Mm} (h : Inv M) : stRel M 1 (M 96) := h.1.1
theorem Inv.ok {M : Mm} (h : Inv M) : OkR (M 96) := h.1.2
theorem Inv.p {M : Mm} (h : Inv M) : pastRel M 5 (M 94 18) (M 102) := h.2.1
theorem Inv.u {M : Mm} (h : Inv M) : 0 ≤ M 94 18 ∧ M 94 18 ≤ 6 := h.2.1.2.1
theorem Inv.im {M : Mm} (h : Inv M) : IvI M := h.2.2.1
theorem Inv.t {M : Mm} (h : Inv M) : IvT M := h.2.2.2.1
theorem Inv.l {M : Mm} (h : Inv M) : IvL M := h.2.2.2.2.1
theorem Inv.g {M : Mm} (h : Inv M) : SG M := h.2.2.2.2.2.1
theorem Inv.w {M : Mm} (h : Inv M) : M 66 0 = 0 ∧ M 67 0 = 0 := h.2.2.2.2.2.2
/-- only helpers changed -/
theorem Inv.scr {M M' : Mm} (h : Inv M) (e : ∀ a : Nat, (a < 61 ∨ 82 < a) → a ≠ 94 → a ≠ 97 → a ≠ 98 → a ≠ 99 → a ≠ 100 → a ≠ 108 → M' a = M a) (e14 : M' 94 14 = M 94 14) (e18 : M' 94 18 = M 94 18) (e21 : M' 94 21 = M 94 21) (hw : M' 66 0 = 0 ∧ M' 67 0 = 0) : Inv M' := by
  have f : ∀ a : Nat, (a < 61 ∨ 82 < a) → (a < 94 ∨ (100 < a ∧ a ≠ 108) ∨ a = 95 ∨ a = 96) → M' a = M a := fun a q1 q2 => e a q1 (by omega) (by omega) (by omega) (by omega) (by omega) (by omega)
  exact ⟨h.1.fr (fun a q1 q2 => f a (by omega) (by omega)) (f _ (by decide) (by decide)), h.2.1.fr (fun a q1 q2 => f a (by omega) (by omega)) e18 (f _ (by decide) (by decide)), h.im.fr (by rw [f 0 (by decide) (by decide)]) (fun a q1 q2 => f a (by omega) (by omega)) e21 (f _ (by decide) (by decide)) (f _ (by decide) (by decide)), h.t.fr (by rw [f 83 (by decide) (by decide)]) e14 (f _ (by decide) (by decide)) (f _ (by decide) (by decide)), h.l.fr (fun a q1 q2 => f a (by omega) (by omega)) (f _ (by decide) (by decide)) (f _ (by decide) (by decide)) (f _ (by decide) (by decide)), h.g.fr (f _ (by decide) (by decide)), hw⟩
/-- a call of the one side, then of the other: the same answer -/
def Sim (Γ : GC) (μ ν : MI) (as : List Value) (M : Mm) : Prop := ∃ Qc : Int → Mm → Prop, Ct Γ μ (rf Γ 0 :: as) M Qc ∧ ∀ (z : Int) (M1 : Mm), Qc z M1 → Ct Γ ν (rf Γ 94 :: as) M1 (fun z2 M2 => z2 = z ∧ Inv M2)

theorem sim_sign (Γ : GC) (M : Mm) (hI : Inv M) (a : Int) (ha : R32 a) (b : Int) (hb : R32 b) : Sim Γ uX8_sign uX9_sign [vi a, vi b] M := by
  refine ⟨_, C_sign Γ M a b ha hb, fun z M1 h => ?_⟩
  obtain ⟨e, rfl⟩ := h
  exact (C9_sign Γ M1 hI.g a b ha hb).mono (fun z2 M2 h2 => ⟨h2.1.trans e.symm, by rw [h2.2]; exact hI⟩)
theorem sim_letter (Γ : GC) (M : Mm) (hI : Inv M) (a : Int) (ha : R32 a) (b : Int) (hb : R32 b) : Sim Γ uX8_letter uX9_letter [vi a, vi b] M := by
  refine ⟨_, C_letter Γ M a b ha hb, fun z M1 h => ?_⟩
  obtain ⟨e, rfl⟩ := h
  exact (C9_letter Γ M1 hI.g a b ha hb).mono (fun z2 M2 h2 => ⟨h2.1.trans e.symm, by rw [h2.2]; exact hI⟩)
theorem sim_apart (Γ : GC) (M : Mm) (hI : Inv M) (a : Int) (ha : R32 a) (b : Int) (hb : R32 b) : Sim Γ uX8_apart uX9_apart [vi a, vi b] M := by
  refine ⟨_, C_apart Γ M a b ha hb, fun z M1 h => ?_⟩
  obtain ⟨e, rfl⟩ := h
  exact (C9_apart Γ M1 hI.g a b ha hb).mono (fun z2 M2 h2 => ⟨h2.1.trans e.symm, by rw [h2.2]; exact hI⟩)
theorem sim_said (Γ : GC) (M : Mm) (hI : Inv M) (a : Int) (ha : R32 a) (b : Int) (hb : R32 b) : Sim Γ uX8_said uX9_said [vi a, vi b] M := by
  refine ⟨_, C_said Γ M (M 96) hI.ok hI.s a b ha hb, fun z M1 h => ?_⟩
  obtain ⟨e, rfl⟩ := h
  exact (C9_said Γ M1 hI.ok a b ha hb).mono (fun z2 M2 h2 => ⟨h2.1.trans e.symm, by rw [h2.2]; exact hI⟩)
theorem sim_count (Γ : GC) (M : Mm) (hI : Inv M) (a : Int) (ha : R32 a) : Sim Γ uX8_count uX9_count [vi a] M := by
  refine ⟨_, C_count Γ M (M 96) (M 102) (M 94 18) hI.ok hI.s hI.p a ha, fun z M1 h => ?_⟩
  obtain ⟨e, rfl⟩ := h
  exact (C9_count Γ M1 hI.g hI.ok a ha).mono (fun z2 M2 h2 => ⟨h2.1.trans e.symm, by rw [h2.2]; exact hI⟩)
theorem sim_least (Γ : GC) (M : Mm) (hI : Inv M) (c : Int) (hc : R32 c) : Sim Γ uX8_least uX9_least [vi c] M := by
  refine ⟨_, C_least Γ M (M 96) hI.ok hI.s hI.w c hc, fun z M1 h => ?_⟩
  obtain ⟨e, f, w⟩ := h
  have h1 : Inv M1 := hI.scr (fun a q1 q2 q3 q4 q5 q6 q7 => f a (by omega)) (by rw [f 94 (by decide)]) (by rw [f 94 (by decide)]) (by rw [f 94 (by decide)]) w
  have q96 : M1 96 = M 96 := f 96 (by decide)
  refine (C9_least Γ M1 h1.g h1.ok c hc).mono (fun z2 M2 h2 => ?_)
  obtain ⟨e2, g1, g2⟩ := h2
  exact ⟨by rw [e2, e, q96], h1.scr (fun a q1 q2 q3 q4 q5 q6 q7 => g2 a q2) (g1 14 (by decide) (by decide) (by decide)) (g1 18 (by decide) (by decide) (by decide)) (g1 21 (by decide) (by decide) (by decide)) (by rw [g2 66 (by decide), g2 67 (by decide)]; exact h1.w)⟩
theorem sim_arm (Γ : GC) (M : Mm) (hI : Inv M) (i : Int) (hi : R32 i) (c : Int) (hc : R32 c) : Sim Γ uX8_arm uX9_arm [vi i, vi c] M := by
  refine ⟨_, C_arm Γ M (M 96) hI.ok hI.s hI.w i c hi hc, fun z M1 h => ?_⟩
  obtain ⟨e, f, w⟩ := h
  have h1 : Inv M1 := hI.scr (fun a q1 q2 q3 q4 q5 q6 q7 => f a (by omega)) (by rw [f 94 (by decide)]) (by rw [f 94 (by decide)]) (by rw [f 94 (by decide)]) w
  have q96 : M1 96 = M 96 := f 96 (by decide)
  refine (C9_arm Γ M1 h1.g h1.ok i c hi hc).mono (fun z2 M2 h2 => ?_)
  obtain ⟨e2, g1, g2⟩ := h2
  exact ⟨by rw [e2, e, q96], h1.scr (fun a q1 q2 q3 q4 q5 q6 q7 => g2 a q2) (g1 14 (by decide) (by decide) (by decide)) (g1 18 (by decide) (by decide) (by decide)) (g1 21 (by decide) (by decide) (by decide)) (by rw [g2 66 (by decide), g2 67 (by decide)]; exact h1.w)⟩
theorem sim_brief (Γ : GC) (M : Mm) (hI : Inv M) (c : Int) (hc : R32 c) : Sim Γ uX8_brief uX9_brief [vi c] M := by
  refine ⟨_, C_brief Γ M (M 96) hI.ok hI.s c hc, fun z M1 h => ?_⟩
  obtain ⟨e, f⟩ := h
  have h1 : Inv M1 := hI.scr (fun a q1 q2 q3 q4 q5 q6 q7 => f a (by omega)) (by rw [f 94 (by decide)]) (by rw [f 94 (by decide)]) (by rw [f 94 (by decide)]) (by rw [f 66 (by decide), f 67 (by decide)]; exact hI.w)
  have q96 : M1 96 = M 96 := f 96 (by decide)
  refine (C9_brief Γ M1 h1.g h1.ok c hc).mono (fun z2 M2 h2 => ?_)
  obtain ⟨e2, g⟩ := h2
  exact ⟨(briefS_uniq hI.ok e (by rw [← q96]; exact e2)).symm, h1.scr (fun a q1 q2 q3 q4 q5 q6 q7 => g a q4) (by rw [g 94 (by decide)]) (by rw [g 94 (by decide)]) (by rw [g 94 (by decide)]) (by rw [g 66 (by decide), g 67 (by decide)]; exact h1.w)⟩
theorem sim_nearest (Γ : GC) (M : Mm) (hI : Inv M) (c : Int) (hc : R32 c) : Sim Γ uX8_nearest uX9_nearest [vi c] M := by
  refine ⟨_, C_nearest Γ M (M 96) hI.ok hI.s c hc, fun z M1 h => ?_⟩
  obtain ⟨e, f⟩ := h
  have h1 : Inv M1 := hI.scr (fun a q1 q2 q3 q4 q5 q6 q7 => f a (by omega) (by omega) (by omega)) (by rw [f 94 (by decide) (by decide) (by decide)]) (by rw [f 94 (by decide) (by decide) (by decide)]) (by rw [f 94 (by decide) (by decide) (by decide)]) (by rw [f 66 (by decide) (by decide) (by decide), f 67 (by decide) (by decide) (by decide)]; exact hI.w)
  have q96 : M1 96 = M 96 := f 96 (by decide) (by decide) (by decide)
  refine (C9_nearest Γ M1 h1.g h1.ok c hc).mono (fun z2 M2 h2 => ?_)
  obtain ⟨e2, g1, g2⟩ := h2
  exact ⟨by rw [e2, e, q96], h1.scr (fun a q1 q2 q3 q4 q5 q6 q7 => g2 a q2 q5 q6) (g1 14 (by decide) (by decide) (by decide) (by decide)) (g1 18 (by decide) (by decide) (by decide) (by decide)) (g1 21 (by decide) (by decide) (by decide) (by decide)) (by rw [g2 66 (by decide) (by decide) (by decide), g2 67 (by decide) (by decide) (by decide)]; exact h1.w)⟩
theorem sim_slips (Γ : GC) (M : Mm) (hI : Inv M) (c : Int) (hc : R32 c) : Sim Γ uX8_slips uX9_slips [vi c] M := by
  refine ⟨_, C_slips Γ M (M 96) hI.ok hI.s c hc, fun z M1 h => ?_⟩
  obtain ⟨e, f⟩ := h
  have h1 : Inv M1 := hI.scr (fun a q1 q2 q3 q4 q5 q6 q7 => f a (by omega) (by omega) (by omega)) (by rw [f 94 (by decide) (by decide) (by decide)]) (by rw [f 94 (by decide) (by decide) (by decide)]) (by rw [f 94 (by decide) (by decide) (by decide)]) (by rw [f 66 (by decide) (by decide) (by decide), f 67 (by decide) (by decide) (by decide)]; exact hI.w)
  have q96 : M1 96 = M 96 := f 96 (by decide) (by decide) (by decide)
  refine (C9_slips Γ M1 h1.g h1.ok c hc).mono (fun z2 M2 h2 => ?_)
  obtain ⟨e2, g1, g2⟩ := h2
  exact ⟨by rw [e2, e, q96], h1.scr (fun a q1 q2 q3 q4 q5 q6 q7 => g2 a q2 q5 q6) (g1 14 (by decide) (by decide) (by decide) (by decide)) (g1 18 (by decide) (by decide) (by decide) (by decide)) (g1 21 (by decide) (by decide) (by decide) (by decide)) (by rw [g2 66 (by decide) (by decide) (by decide), g2 67 (by decide) (by decide) (by decide)]; exact h1.w)⟩
theorem sim_still (Γ : GC) (M : Mm) (hI : Inv M) (k : Int) (hk : R32 k) (c : Int) (hc : R32 c) (v : Int) (hv : R32 v) : Sim Γ uX8_still uX9_still [vi k, vi c, vi v] M := by
  refine ⟨_, C_still Γ M (M 96) hI.ok hI.s k c v hk hc hv, fun z M1 h => ?_⟩
  obtain ⟨e, f⟩ := h
  have h1 : Inv M1 := hI.scr (fun a q1 q2 q3 q4 q5 q6 q7 => f a (by omega) (by omega) (by omega) (by omega)) (by rw [f 94 (by decide) (by decide) (by decide) (by decide)]) (by rw [f 94 (by decide) (by decide) (by decide) (by decide)]) (by rw [f 94 (by decide) (by decide) (by decide) (by decide)]) (by rw [f 66 (by decide) (by decide) (by decide) (by decide), f 67 (by decide) (by decide) (by decide) (by decide)]; exact hI.w)
  have q96 : M1 96 = M 96 := f 96 (by decide) (by decide) (by decide) (by decide)
  refine (C9_still Γ M1 h1.g h1.ok k c v hk hc hv).mono (fun z2 M2 h2 => ?_)
  obtain ⟨e2, g1, g2⟩ := h2
  exact ⟨by rw [e2, e, q96], h1.scr (fun a q1 q2 q3 q4 q5 q6 q7 => g2 a q2 q5 q6) (g1 14 (by decide) (by decide) (by decide) (by decide)) (g1 18 (by decide) (by decide) (by decide) (by decide)) (g1 21 (by decide) (by decide) (by decide) (by decide)) (by rw [g2 66 (by decide) (by decide) (by decide), g2 67 (by decide) (by decide) (by decide)]; exact h1.w)⟩
theorem seenS_uniq {L Z T r : Nat → Int} {s lane i n z y : Int} (h : seenS L Z T r s lane i n z) (g : seenS L Z T r s lane i n y) : z = y := by
  unfold seenS at *
  by_cases q : 1 ≤ n ∧ n ≤ 6
  · rw [if_pos q] at h g
    by_cases q2 : 0 ≤ refZ L Z s lane i (2 * n)
    · rw [if_pos q2] at h g
      rcases h with ⟨h1, h2⟩ | ⟨h1, h2⟩ <;> rcases g with ⟨g1, g2⟩ | ⟨g1, g2⟩
      · rw [h2, g2]
      · exact absurd h1 g1
      · exact absurd g1 h1
      · rw [h2, g2]
    · rw [if_neg q2] at h g; rw [h, g]
  · rw [if_neg q] at h g; rw [h, g]
theorem IvL.r64 {M : Mm} (h : IvL M) : ∀ s : Nat, s < 4 → 0 ≤ M 105 s → ∀ j : Nat, (24 * s ≤ j ∧ (j : Int) < 24 * s + M 106 s) → R64 (M 107 j) := fun s hs hl j hj => by
  rcases h.1 s hs with ⟨_, _, _, _, _, q⟩ | ⟨_, q⟩
  · have := (q (j - 24 * s) (by omega)).2
    rw [show 24 * s + (j - 24 * s) = j by omega] at this; exact this
  · omega

theorem sim_seen (Γ : GC) (M : Mm) (hI : Inv M) (s : Int) (hs : R32 s) (l : Int) (hl : R32 l) (i : Int) (hi : R32 i) (n : Int) (hn : R32 n) : Sim Γ uX8_seen uX9_seen [vi s, vi l, vi i, vi n] M := by
  refine ⟨_, C_seen Γ M (M 105) (M 106) (M 107) (M 96) hI.l.1 hI.ok hI.s s l i n hs hl hi hn, fun z M1 h => ?_⟩
  obtain ⟨e, f⟩ := h
  have h1 : Inv M1 := hI.scr (fun a q1 q2 q3 q4 q5 q6 q7 => f a (by omega) (by omega) (by omega)) (by rw [f 94 (by decide) (by decide) (by decide)]) (by rw [f 94 (by decide) (by decide) (by decide)]) (by rw [f 94 (by decide) (by decide) (by decide)]) (by rw [f 66 (by decide) (by decide) (by decide), f 67 (by decide) (by decide) (by decide)]; exact hI.w)
  have q96 : M1 96 = M 96 := f 96 (by decide) (by decide) (by decide)
  refine (C9_seen Γ M1 h1.g h1.ok h1.l.2 h1.l.r64 s l i n hs hl hi hn).mono (fun z2 M2 h2 => ?_)
  obtain ⟨e2, g1, g2⟩ := h2
  exact ⟨(seenS_uniq e (by rw [← q96, ← f 105 (by decide) (by decide) (by decide), ← f 106 (by decide) (by decide) (by decide), ← f 107 (by decide) (by decide) (by decide)]; exact e2)).symm, h1.scr (fun a q1 q2 q3 q4 q5 q6 q7 => g2 a q2 q5 q6) (g1 14 (by decide) (by decide) (by decide) (by decide)) (g1 18 (by decide) (by decide) (by decide) (by decide)) (g1 21 (by decide) (by decide) (by decide) (by decide)) (by rw [g2 66 (by decide) (by decide) (by decide), g2 67 (by decide) (by decide) (by decide)]; exact h1.w)⟩
theorem deed {M M1 M2 : Mm} {z : Int} {R : Nat → Int} (hI : Inv M) (hx : xP M M1 z R (M 94 18) (M 102) (M 96)) (hR : OkR R) (hd : dP M1 M2 z R) : Inv M2 := by
  obtain ⟨x1, x2, x3⟩ := hx
  obtain ⟨d1, d2, d3, d4, d5⟩ := hd
  have e96 : M1 96 = M 96 := x3 96 (by decide)
  have e94 : M1 94 = M 94 := x3 94 (by decide)
  have e102 : M1 102 = M 102 := x3 102 (by decide)
  have f : ∀ a : Nat, (a < 1 ∨ (30 < a ∧ a < 61) ∨ 64 < a) → a ≠ 94 → a ≠ 96 → a ≠ 97 → a ≠ 102 → M2 a = M a := fun a q1 q2 q3 q4 q5 => by rw [d5 a q2 q3 q4 q5, x3 a q1]
  have k : ∀ a : Nat, a < 65 → M2 a = M1 a := fun a q => d5 a (by omega) (by omega) (by omega) (by omega)
  have hu := hI.u
  refine ⟨⟨?_, ?_⟩, ?_, ?_, ?_, ?_, hI.g.fr (f 95 (by decide) (by decide) (by decide) (by decide) (by decide)), ?_⟩
  · rw [d1]; exact x1.frame (k _ (by decide)) (k _ (by decide)) (k _ (by decide)) (k _ (by decide))
  · rw [d1]; exact hR
  · unfold IvP
    rw [d3, d2, e94, e102, e96]
    refine (x2.frame (fun a q1 q2 => k a (by omega))).congr (fun j hj => ?_)
    by_cases hz : 0 ≤ z
    · rw [if_pos hz, if_pos hz]; exact ntA_congr hu (fun _ _ => rfl) (cpy59 _ _) j hj
    · rw [if_neg hz, if_neg hz]
  · exact hI.im.fr (by rw [f 0 (by decide) (by decide) (by decide) (by decide) (by decide)]) (fun a q1 q2 => f a (by omega) (by omega) (by omega) (by omega) (by omega)) (by rw [d4 21 (by decide), e94]) (f _ (by decide) (by decide) (by decide) (by decide) (by decide)) (f _ (by decide) (by decide) (by decide) (by decide) (by decide))
  · exact hI.t.fr (by rw [f 83 (by decide) (by decide) (by decide) (by decide) (by decide)]) (by rw [d4 14 (by decide), e94]) (f _ (by decide) (by decide) (by decide) (by decide) (by decide)) (f _ (by decide) (by decide) (by decide) (by decide) (by decide))
  · exact hI.l.fr (fun a q1 q2 => f a (by omega) (by omega) (by omega) (by omega) (by omega)) (f _ (by decide) (by decide) (by decide) (by decide) (by decide)) (f _ (by decide) (by decide) (by decide) (by decide) (by decide)) (f _ (by decide) (by decide) (by decide) (by decide) (by decide))
  · rw [f 66 (by decide) (by decide) (by decide) (by decide) (by decide), f 67 (by decide) (by decide) (by decide) (by decide) (by decide)]; exact hI.w

theorem sim_say (Γ : GC) (M : Mm) (hI : Inv M) (c : Int) (hc : R32 c) : Sim Γ uX8_say uX9_say [vi c] M := by
  refine ⟨_, C_say Γ M (M 96) (M 102) (M 94 18) hI.ok hI.s hI.p c hc, fun z M1 h => ?_⟩
  obtain ⟨e, hx⟩ := h
  have e96 : M1 96 = M 96 := hx.2.2 96 (by decide)
  have e94 : M1 94 = M 94 := hx.2.2 94 (by decide)
  refine (C9_say Γ M1 (by rw [e96]; exact hI.ok) (by rw [e94]; exact hI.u) c hc).mono (fun z2 M2 h2 => ?_)
  obtain ⟨e2, hd⟩ := h2
  rw [e96] at e2 hd
  exact ⟨by rw [e2, e], deed hI hx (hI.ok.say c) hd⟩
theorem sim_back (Γ : GC) (M : Mm) (hI : Inv M)   : Sim Γ uX8_back uX9_back [] M := by
  refine ⟨_, C_back Γ M (M 96) (M 102) (M 94 18) hI.ok hI.s hI.p  , fun z M1 h => ?_⟩
  obtain ⟨e, hx⟩ := h
  have e96 : M1 96 = M 96 := hx.2.2 96 (by decide)
  have e94 : M1 94 = M 94 := hx.2.2 94 (by decide)
  refine (C9_back Γ M1 (by rw [e96]; exact hI.ok) (by rw [e94]; exact hI.u)  ).mono (fun z2 M2 h2 => ?_)
  obtain ⟨e2, hd⟩ := h2
  rw [e96] at e2 hd
  exact ⟨by rw [e2, e], deed hI hx (hI.ok.back ) hd⟩
theorem sim_keep (Γ : GC) (M : Mm) (hI : Inv M)   : Sim Γ uX8_keep uX9_keep [] M := by
  refine ⟨_, C_keep Γ M (M 96) (M 102) (M 94 18) hI.ok hI.s hI.p  , fun z M1 h => ?_⟩
  obtain ⟨e, hx⟩ := h
  have e96 : M1 96 = M 96 := hx.2.2 96 (by decide)
  have e94 : M1 94 = M 94 := hx.2.2 94 (by decide)
  refine (C9_keep Γ M1 (by rw [e96]; exact hI.ok) (by rw [e94]; exact hI.u)  ).mono (fun z2 M2 h2 => ?_)
  obtain ⟨e2, hd⟩ := h2
  rw [e96] at e2 hd
  exact ⟨by rw [e2, e], deed hI hx (hI.ok.keep ) hd⟩
theorem sim_lose (Γ : GC) (M : Mm) (hI : Inv M) (c : Int) (hc : R32 c) : Sim Γ uX8_lose uX9_lose [vi c] M := by
  refine ⟨_, C_lose Γ M (M 96) (M 102) (M 94 18) hI.ok hI.s hI.p c hc, fun z M1 h => ?_⟩
  obtain ⟨e, hx⟩ := h
  have e96 : M1 96 = M 96 := hx.2.2 96 (by decide)
  have e94 : M1 94 = M 94 := hx.2.2 94 (by decide)
  refine (C9_lose Γ M1 (by rw [e96]; exact hI.ok) (by rw [e94]; exact hI.u) c hc).mono (fun z2 M2 h2 => ?_)
  obtain ⟨e2, hd⟩ := h2
  rw [e96] at e2 hd
  exact ⟨by rw [e2, e], deed hI hx (hI.ok.lose c) hd⟩
theorem sim_call (Γ : GC) (M : Mm) (hI : Inv M) (c : Int) (hc : R32 c) : Sim Γ uX8_call uX9_call [vi c] M := by
  refine ⟨_, C_call Γ M (M 96) (M 102) (M 94 18) hI.ok hI.s hI.p c hc, fun z M1 h => ?_⟩
  obtain ⟨e, hx⟩ := h
  have e96 : M1 96 = M 96 := hx.2.2 96 (by decide)
  have e94 : M1 94 = M 94 := hx.2.2 94 (by decide)
  refine (C9_call Γ M1 (by rw [e96]; exact hI.ok) (by rw [e94]; exact hI.u) c hc).mono (fun z2 M2 h2 => ?_)
  obtain ⟨e2, hd⟩ := h2
  rw [e96] at e2 hd
  exact ⟨by rw [e2, e], deed hI hx (hI.ok.call c) hd⟩
theorem sim_tell (Γ : GC) (M : Mm) (hI : Inv M) (c : Int) (v : Int) (hc : R32 c) (hv : R32 v) : Sim Γ uX8_tell uX9_tell [vi c, vi v] M := by
  refine ⟨_, C_tell Γ M (M 96) (M 102) (M 94 18) hI.ok hI.s hI.p c v hc hv, fun z M1 h => ?_⟩
  obtain ⟨e, hx⟩ := h
  have e96 : M1 96 = M 96 := hx.2.2 96 (by decide)
  have e94 : M1 94 = M 94 := hx.2.2 94 (by decide)
  refine (C9_tell Γ M1 (by rw [e96]; exact hI.ok) (by rw [e94]; exact hI.u) c v hc hv).mono (fun z2 M2 h2 => ?_)
  obtain ⟨e2, hd⟩ := h2
  rw [e96] at e2 hd
  exact ⟨by rw [e2, e], deed hI hx (hI.ok.tell c v) hd⟩