/-! both sides, call by call: sheets -/
theorem Inv.sh {M M' : Mm} (h : Inv M) (e : ∀ a : Nat, (a < 61 ∨ (82 < a ∧ a < 86) ∨ 93 < a) → a ≠ 94 → a ≠ 105 → a ≠ 106 → a ≠ 107 → a ≠ 108 → M' a = M a) (e94 : ∀ j : Nat, j ≠ 3 → j ≠ 4 → j ≠ 5 → M' 94 j = M 94 j) (hw : M' 66 0 = 0 ∧ M' 67 0 = 0) (hl : IvL M') : Inv M' := by
  have f : ∀ a : Nat, (a < 61 ∨ (82 < a ∧ a < 86) ∨ 93 < a) → (a < 94 ∨ (94 < a ∧ a < 105)) → M' a = M a := fun a q1 q2 => e a q1 (by omega) (by omega) (by omega) (by omega) (by omega)
  exact ⟨h.1.fr (fun a q1 q2 => f a (by omega) (by omega)) (f _ (by decide) (by decide)), h.2.1.fr (fun a q1 q2 => f a (by omega) (by omega)) (e94 18 (by decide) (by decide) (by decide)) (f _ (by decide) (by decide)), h.im.fr (by rw [f 0 (by decide) (by decide)]) (fun a q1 q2 => f a (by omega) (by omega)) (e94 21 (by decide) (by decide) (by decide)) (f _ (by decide) (by decide)) (f _ (by decide) (by decide)), h.t.fr (by rw [f 83 (by decide) (by decide)]) (e94 14 (by decide) (by decide) (by decide)) (f _ (by decide) (by decide)) (f _ (by decide) (by decide)), hl, h.g.fr (f _ (by decide) (by decide)), hw⟩
theorem paRel.fr {M M' : Mm} {L Z T L' Z' T' : Nat → Int} {s : Nat} (h : paRel M L Z T s) (e0 : M' (86 + 2 * s) = M (86 + 2 * s)) (e1 : M' (86 + 2 * s + 1) = M (86 + 2 * s + 1)) (eL : L' s = L s) (eZ : Z' s = Z s) (eT : ∀ j : Nat, j < 24 → T' (24 * s + j) = T (24 * s + j)) : paRel M' L' Z' T' s := by
  rcases h with ⟨a1, a2, a3, a4, a5, a6⟩ | ⟨a1, a2⟩
  · refine Or.inl ⟨by rw [e0]; exact a1, by rw [eL]; exact a2, by rw [e0, eL]; exact a3, by rw [e0, eZ]; exact a4, by rw [eZ]; exact a5, fun j hj => ?_⟩
    rw [eZ] at hj
    rw [e1, eT j (by omega)]; exact a6 j hj
  · exact Or.inr ⟨by rw [e0]; exact a1, by rw [eL]; exact a2⟩
/-- one sheet changed -/
theorem IvL.one {M M' : Mm} (h : IvL M) (t : Nat) (ht : t < 4) (e : ∀ a : Nat, 86 ≤ a → a ≤ 93 → a ≠ 86 + 2 * t → a ≠ 86 + 2 * t + 1 → M' a = M a) (e5 : ∀ q : Nat, q ≠ t → M' 105 q = M 105 q) (e6 : ∀ q : Nat, q ≠ t → M' 106 q = M 106 q) (e7 : ∀ q : Nat, (q < 24 * t ∨ 24 * t + 24 ≤ q) → M' 107 q = M 107 q) (hp : paRel M' (M' 105) (M' 106) (M' 107) t) (hL : -1 ≤ M' 105 t ∧ M' 105 t ≤ 3) (hZ : 0 ≤ M' 106 t ∧ M' 106 t ≤ 24) : IvL M' := by
  refine ⟨fun s hs => ?_, fun s hs => ?_⟩
  · by_cases q : s = t
    · rw [q]; exact hp
    · exact (h.1 s hs).fr (e _ (by omega) (by omega) (by omega) (by omega)) (e _ (by omega) (by omega) (by omega) (by omega)) (e5 s q) (e6 s q) (fun j hj => e7 _ (by omega))
  · by_cases q : s = t
    · rw [q]; exact ⟨hL, hZ⟩
    · rw [e5 s q, e6 s q]; exact h.2 s hs
theorem ref_ok {L Z : Nat → Int} {s lane i n : Int} (h : 0 ≤ refZ L Z s lane i n) : (0 ≤ s ∧ s < 4) ∧ (0 ≤ lane ∧ lane < 4) ∧ L s.toNat = lane ∧ 0 ≤ i ∧ n ≤ Z s.toNat - i := by
  unfold refZ at h
  by_cases c : (0 ≤ s ∧ s < 4) ∧ (0 ≤ lane ∧ lane < 4)
  · rw [if_pos c] at h
    by_cases c1 : L s.toNat < 0
    · rw [if_pos c1] at h; omega
    · rw [if_neg c1] at h
      by_cases c2 : L s.toNat = lane
      · rw [if_pos c2] at h
        by_cases c3 : 0 ≤ i ∧ n ≤ Z s.toNat - i
        · exact ⟨c.1, c.2, c2, c3.1, c3.2⟩
        · rw [if_neg c3] at h; omega
      · rw [if_neg c2] at h; omega
  · rw [if_neg c] at h; omega
theorem paRel.on {M : Mm} {L Z T : Nat → Int} {s : Nat} (h : paRel M L Z T s) (hl : 0 ≤ L s) : M (86 + 2 * s) 0 = 1 ∧ (0 ≤ L s ∧ L s ≤ 3) ∧ M (86 + 2 * s) 1 = L s ∧ M (86 + 2 * s) 2 = Z s ∧ (0 ≤ Z s ∧ Z s ≤ 24) ∧ ∀ j : Nat, (j : Int) < Z s → M (86 + 2 * s + 1) j = T (24 * s + j) ∧ R64 (T (24 * s + j)) := by
  rcases h with h | ⟨_, h⟩
  · exact h
  · omega
theorem sim_drop (Γ : GC) (M : Mm) (hI : Inv M) (s : Int) (hs : R32 s) : Sim Γ uX8_drop uX9_drop [vi s] M := by
  refine ⟨_, C_drop Γ M (M 105) (M 106) (M 107) hI.l.1 s hs, fun z M1 h => ?_⟩
  obtain ⟨e, h⟩ := h
  by_cases c : (0 ≤ s ∧ s < 4) ∧ 0 ≤ M 105 s.toNat
  · rw [if_pos c] at h
    have ek : ∀ a : Nat, 93 < a → M1 a = M a := fun a q => by rw [h, up2_c (by omega)]
    refine (C9_drop Γ M1 (by rw [ek 105 (by decide), ek 106 (by decide)]; exact hI.l.2) s hs).mono (fun z2 M2 h2 => ?_)
    obtain ⟨g, h2⟩ := h2
    rw [ek 105 (by decide), ek 106 (by decide)] at g
    rw [ek 105 (by decide), if_pos c] at h2
    refine ⟨by rw [g, e], ?_⟩
    have f : ∀ a : Nat, a ≠ 86 + 2 * s.toNat → a ≠ 105 → M2 a = M a := fun a q1 q2 => by rw [h2, up2_c q2, h, up2_c q1]
    have f5 : ∀ q : Nat, q ≠ s.toNat → M2 105 q = M 105 q := fun q c => by rw [h2, up2_i c, ek 105 (by decide)]
    have f5s : M2 105 s.toNat = -1 := by rw [h2, up2_s]
    have f0 : M2 (86 + 2 * s.toNat) 0 = 0 := by rw [h2, up2_n (by omega), h, up2_s]
    refine hI.sh (fun a q1 q2 q3 q4 q5 q6 => f a (by omega) q3) (fun j _ _ _ => by rw [f 94 (by omega) (by decide)]) (by rw [f 66 (by omega) (by decide), f 67 (by omega) (by decide)]; exact hI.w) (hI.l.one s.toNat (by omega) (fun a q1 q2 q3 q4 => f a q3 (by omega)) f5 (fun q _ => by rw [f 106 (by omega) (by decide)]) (fun q _ => by rw [f 107 (by omega) (by decide)]) (Or.inr ⟨f0, f5s⟩) (by rw [f5s]; decide) (by rw [f 106 (by omega) (by decide)]; exact (hI.l.2 s.toNat (by omega)).2))
  · rw [if_neg c] at h
    rw [h]
    refine (C9_drop Γ M hI.l.2 s hs).mono (fun z2 M2 h2 => ?_)
    obtain ⟨g, h2⟩ := h2
    rw [if_neg c] at h2
    exact ⟨by rw [g, e], by rw [h2]; exact hI⟩
theorem lowP_64 {lane v : Int} (hv : R64 v) : R64 (lowP lane v) := by
  unfold lowP
  have a1 := @Int.le_bmod v 256 (by decide)
  have a2 := @Int.bmod_lt v 256 (by decide)
  have b1 := @Int.le_bmod v 65536 (by decide)
  have b2 := @Int.bmod_lt v 65536 (by decide)
  have c1 := @Int.le_bmod v 4294967296 (by decide)
  have c2 := @Int.bmod_lt v 4294967296 (by decide)
  split
  · omega
  · split
    · omega
    · split
      · omega
      · exact hv
theorem sim_item (Γ : GC) (M : Mm) (hI : Inv M) (s : Int) (hs : R32 s) (l : Int) (hl : R32 l) (i : Int) (hi : R32 i) (v : Int) (hv : R64 v) : Sim Γ uX8_item uX9_item [vi s, vi l, vi i, vl v] M := by
  refine ⟨_, C_item Γ M (M 105) (M 106) (M 107) hI.l.1 s l i v hs hl hi, fun z M1 h => ?_⟩
  obtain ⟨e, h⟩ := h
  by_cases c : 0 ≤ refZ (M 105) (M 106) s l i 1
  · rw [if_pos c] at h e
    obtain ⟨r1, r2, r3, r4, r5⟩ := ref_ok c
    have ek : ∀ a : Nat, 93 < a → M1 a = M a := fun a q => by rw [h, up2_c (by omega)]
    refine (C9_item Γ M1 (by rw [ek 105 (by decide), ek 106 (by decide)]; exact hI.l.2) s l i v hs hl hi).mono (fun z2 M2 h2 => ?_)
    obtain ⟨g, h2⟩ := h2
    rw [ek 105 (by decide), ek 106 (by decide), if_pos c] at g h2
    refine ⟨by rw [g, e], ?_⟩
    have f : ∀ a : Nat, a ≠ 86 + 2 * s.toNat + 1 → a ≠ 107 → M2 a = M a := fun a q1 q2 => by rw [h2, up2_c q2, h, up2_c q1]
    have f7 : ∀ q : Nat, M2 107 q = if q = 24 * s.toNat + i.toNat then lowP l v else M 107 q := fun q => by
      rw [h2, up2_e]; rw [ek 107 (by decide)]; simp
    have fs : ∀ q : Nat, M2 (86 + 2 * s.toNat + 1) q = if q = i.toNat then lowP l v else M (86 + 2 * s.toNat + 1) q := fun q => by
      rw [h2, up2_n (by omega), h, up2_e]; simp
    have ho := (hI.l.1 s.toNat (by omega)).on (by omega)
    obtain ⟨o1, o2, o3, o4, o5, o6⟩ := ho
    refine hI.sh (fun a q1 q2 q3 q4 q5 q6 => f a (by omega) q5) (fun j _ _ _ => by rw [f 94 (by omega) (by decide)]) (by rw [f 66 (by omega) (by decide), f 67 (by omega) (by decide)]; exact hI.w) (hI.l.one s.toNat (by omega) (fun a q1 q2 q3 q4 => f a q4 (by omega)) (fun q _ => by rw [f 105 (by omega) (by decide)]) (fun q _ => by rw [f 106 (by omega) (by decide)]) (fun q hq => by rw [f7, if_neg (by omega)]) ?_ (by rw [f 105 (by omega) (by decide)]; omega) (by rw [f 106 (by omega) (by decide)]; omega))
    rw [f 105 (by omega) (by decide), f 106 (by omega) (by decide)]
    refine Or.inl ⟨by rw [f _ (by omega) (by omega)]; exact o1, o2, by rw [f _ (by omega) (by omega)]; exact o3, by rw [f _ (by omega) (by omega)]; exact o4, o5, fun j hj => ?_⟩
    rw [fs, f7]
    by_cases q : j = i.toNat
    · rw [if_pos q, if_pos (by omega)]; exact ⟨rfl, lowP_64 hv⟩
    · rw [if_neg q, if_neg (by omega)]; exact o6 j hj
  · rw [if_neg c] at h e
    rw [h]
    refine (C9_item Γ M hI.l.2 s l i v hs hl hi).mono (fun z2 M2 h2 => ?_)
    obtain ⟨g, h2⟩ := h2
    rw [if_neg c] at g h2
    exact ⟨by rw [g, e], by rw [h2]; exact hI⟩
theorem sim_sheet (Γ : GC) (M : Mm) (hI : Inv M) (s : Int) (hs : R32 s) (l : Int) (hl : R32 l) (n : Int) (hn : R32 n) : Sim Γ uX8_sheet uX9_sheet [vi s, vi l, vi n] M := by
  refine ⟨_, C_sheet Γ M s l n hs hl hn, fun z M1 h => ?_⟩
  obtain ⟨e, h⟩ := h
  refine (C9_sheet Γ M1 s l n hs hl hn).mono (fun z2 M2 h2 => ?_)
  obtain ⟨g, h2⟩ := h2
  refine ⟨by rw [g, e], ?_⟩
  rcases h with ⟨c, h⟩ | ⟨c, h⟩
  · rcases h2 with ⟨_, h2⟩ | ⟨c2, _⟩
    · obtain ⟨c1, c2, c3, c4⟩ := c
      have k1 : ∀ a : Nat, a ≠ 86 + 2 * s.toNat → a ≠ 86 + 2 * s.toNat + 1 → M1 a = M a := fun a q1 q2 => by rw [h, upM_n q2, up2_c q1, up2_c q1, up2_c q1]
      have k2 : ∀ a : Nat, a ≠ 105 → a ≠ 106 → a ≠ 107 → M2 a = M1 a := fun a q1 q2 q3 => by rw [h2, upM_n q3, up2_c q2, up2_c q1]
      have f : ∀ a : Nat, a ≠ 86 + 2 * s.toNat → a ≠ 86 + 2 * s.toNat + 1 → a ≠ 105 → a ≠ 106 → a ≠ 107 → M2 a = M a := fun a q1 q2 q3 q4 q5 => by rw [k2 a q3 q4 q5, k1 a q1 q2]
      have f5 : ∀ q : Nat, M2 105 q = if q = s.toNat then l else M 105 q := fun q => by
        rw [h2, upM_n (by decide), up2_c (by decide), up2_e, k1 105 (by omega) (by omega)]; simp
      have f6 : ∀ q : Nat, M2 106 q = if q = s.toNat then n else M 106 q := fun q => by
        rw [h2, upM_n (by decide), up2_e, up2_c (by decide), k1 106 (by omega) (by omega)]; simp
      have f7 : ∀ q : Nat, M2 107 q = if 24 * s.toNat ≤ q ∧ q < 24 * s.toNat + 24 then 0 else M 107 q := fun q => by
        rw [h2, upM_s, k1 107 (by omega) (by omega)]; rfl
      have g0 : ∀ j : Nat, M2 (86 + 2 * s.toNat) j = if j = 2 then n else if j = 1 then l else if j = 0 then 1 else M (86 + 2 * s.toNat) j := fun j => by
        rw [k2 _ (by omega) (by omega) (by omega), h, upM_n (by omega)]
        simp only [up2_e]
        simp
      have g1 : ∀ j : Nat, j < 24 → M2 (86 + 2 * s.toNat + 1) j = 0 := fun j hj => by
        rw [k2 _ (by omega) (by omega) (by omega), h, upM_s]; unfold flFl; rw [if_pos hj]
      have s5 : M2 105 s.toNat = l := by rw [f5, if_pos rfl]
      have s6 : M2 106 s.toNat = n := by rw [f6, if_pos rfl]
      refine hI.sh (fun a q1 q2 q3 q4 q5 q6 => f a (by omega) (by omega) q3 q4 q5) (fun j _ _ _ => by rw [f 94 (by omega) (by omega) (by decide) (by decide) (by decide)]) (by rw [f 66 (by omega) (by omega) (by decide) (by decide) (by decide), f 67 (by omega) (by omega) (by decide) (by decide) (by decide)]; exact hI.w) (hI.l.one s.toNat (by omega) (fun a q1 q2 q3 q4 => f a q3 q4 (by omega) (by omega) (by omega)) (fun q c => by rw [f5, if_neg c]) (fun q c => by rw [f6, if_neg c]) (fun q hq => by rw [f7, if_neg (by omega)]) ?_ (by rw [s5]; omega) (by rw [s6]; omega))
      refine Or.inl ⟨by rw [g0]; simp, by rw [s5]; omega, by rw [g0, s5]; simp, by rw [g0, s6]; simp, by rw [s6]; omega, fun j hj => ?_⟩
      rw [s6] at hj
      rw [g1 j (by omega), f7, if_pos ⟨by omega, by omega⟩]
      exact ⟨rfl, by decide⟩
    · exact absurd c c2
  · rcases h2 with ⟨c2, _⟩ | ⟨_, h2⟩
    · exact absurd c2 c
    · rw [h2, h]; exact hI
theorem copy_ok {L Z : Nat → Int} {s i t j n : Int} (h : 0 ≤ copyZ L Z s i t j n) : (0 ≤ s ∧ s < 4) ∧ (0 ≤ t ∧ t < 4) ∧ 0 ≤ L s.toNat ∧ 0 ≤ L t.toNat ∧ (0 ≤ n ∧ 0 ≤ i ∧ 0 ≤ j) ∧ i + n ≤ Z s.toNat ∧ j + n ≤ Z t.toNat := by
  unfold copyZ at h
  by_cases c : (0 ≤ s ∧ s < 4) ∧ (0 ≤ t ∧ t < 4)
  · rw [if_pos c] at h
    by_cases c1 : L s.toNat < 0 ∨ L t.toNat < 0
    · rw [if_pos c1] at h; omega
    · rw [if_neg c1] at h
      by_cases c2 : L s.toNat = L t.toNat
      · rw [if_pos c2] at h
        by_cases c3 : (0 ≤ n ∧ 0 ≤ i ∧ 0 ≤ j) ∧ i + n ≤ Z s.toNat ∧ j + n ≤ Z t.toNat
        · exact ⟨c.1, c.2, by omega, by omega, c3⟩
        · rw [if_neg c3] at h; omega
      · rw [if_neg c2] at h; omega
  · rw [if_neg c] at h; omega
theorem sim_copy (Γ : GC) (M : Mm) (hI : Inv M) (s : Int) (hs : R32 s) (i : Int) (hi : R32 i) (t : Int) (ht : R32 t) (j : Int) (hj : R32 j) (n : Int) (hn : R32 n) : Sim Γ uX8_copy uX9_copy [vi s, vi i, vi t, vi j, vi n] M := by
  refine ⟨_, C_copy Γ M (M 105) (M 106) (M 107) hI.l.1 s i t j n hs hi ht hj hn, fun z M1 h => ?_⟩
  obtain ⟨e, h⟩ := h
  have ek : ∀ a : Nat, 93 < a → M1 a = M a := fun a q => by
    rcases h with ⟨c, h⟩ | ⟨_, h⟩
    · obtain ⟨_, c2, _⟩ := copy_ok c
      rw [h, upM_n (by omega)]
    · rw [h]
  refine (C9_copy Γ M1 (by rw [ek 105 (by decide), ek 106 (by decide)]; exact hI.l.2) s i t j n hs hi ht hj hn).mono (fun z2 M2 h2 => ?_)
  obtain ⟨g, h2⟩ := h2
  rw [ek 105 (by decide), ek 106 (by decide)] at g h2
  refine ⟨by rw [g, e], ?_⟩
  rcases h with ⟨c, h⟩ | ⟨c, h⟩
  · rcases h2 with ⟨_, y1, y2⟩ | ⟨c2, _⟩
    · obtain ⟨c1, c2, c3, c4, c5, c6, c7⟩ := copy_ok c
      rw [ek 107 (by decide)] at y1
      have f : ∀ a : Nat, a ≠ 86 + 2 * t.toNat + 1 → a ≠ 107 → a ≠ 108 → M2 a = M a := fun a q1 q2 q3 => by rw [y2 a q2 q3, h, upM_n q1]
      obtain ⟨o1, o2, o3, o4, o5, o6⟩ := (hI.l.1 s.toNat (by omega)).on c3
      obtain ⟨p1, p2, p3, p4, p5, p6⟩ := (hI.l.1 t.toNat (by omega)).on c4
      have f7 : ∀ q : Nat, M2 107 q = if 24 * t.toNat + j.toNat ≤ q ∧ q < 24 * t.toNat + j.toNat + n.toNat then M 107 (24 * s.toNat + i.toNat + (q - (24 * t.toNat + j.toNat))) else M 107 q := fun q => by
        rw [y1]; unfold va_cpy
        by_cases cc : 24 * t.toNat + j.toNat ≤ q ∧ q < 24 * t.toNat + j.toNat + n.toNat
        · rw [if_pos cc, if_pos cc, if_pos ⟨by omega, by omega⟩, Nat.zero_add, Nat.sub_zero]
        · rw [if_neg cc, if_neg cc]
      have ft : ∀ q : Nat, M2 (86 + 2 * t.toNat + 1) q = if j.toNat ≤ q ∧ q < j.toNat + n.toNat then M (86 + 2 * s.toNat + 1) (i.toNat + (q - j.toNat)) else M (86 + 2 * t.toNat + 1) q := fun q => by
        rw [y2 _ (by omega) (by omega), h, upM_s]; rfl
      refine hI.sh (fun a q1 q2 q3 q4 q5 q6 => f a (by omega) q5 q6) (fun j _ _ _ => by rw [f 94 (by omega) (by decide) (by decide)]) (by rw [f 66 (by omega) (by decide) (by decide), f 67 (by omega) (by decide) (by decide)]; exact hI.w) (hI.l.one t.toNat (by omega) (fun a q1 q2 q3 q4 => f a q4 (by omega) (by omega)) (fun q _ => by rw [f 105 (by omega) (by decide) (by decide)]) (fun q _ => by rw [f 106 (by omega) (by decide) (by decide)]) (fun q hq => by rw [f7, if_neg (by omega)]) ?_ (by rw [f 105 (by omega) (by decide) (by decide)]; omega) (by rw [f 106 (by omega) (by decide) (by decide)]; omega))
      rw [f 105 (by omega) (by decide) (by decide), f 106 (by omega) (by decide) (by decide)]
      refine Or.inl ⟨by rw [f _ (by omega) (by omega) (by omega)]; exact p1, p2, by rw [f _ (by omega) (by omega) (by omega)]; exact p3, by rw [f _ (by omega) (by omega) (by omega)]; exact p4, p5, fun q hq => ?_⟩
      rw [ft, f7]
      by_cases cc : j.toNat ≤ q ∧ q < j.toNat + n.toNat
      · rw [if_pos cc, if_pos ⟨by omega, by omega⟩, show 24 * s.toNat + i.toNat + (24 * t.toNat + q - (24 * t.toNat + j.toNat)) = 24 * s.toNat + (i.toNat + (q - j.toNat)) by omega]
        exact o6 _ (by omega)
      · rw [if_neg cc, if_neg (by omega)]; exact p6 q hq
    · omega
  · rcases h2 with ⟨c2, _⟩ | ⟨_, h2⟩
    · omega
    · rw [h2, h]; exact hI
theorem sim_film (Γ : GC) (M : Mm) (hI : Inv M) (s : Int) (hs : R32 s) (l : Int) (hl : R32 l) (i : Int) (hi : R32 i) : Sim Γ uX8_film uX9_film [vi s, vi l, vi i] M := by
  refine ⟨_, C_film Γ M (M 105) (M 106) (M 107) (M 96) hI.l.1 hI.ok hI.s hI.w s l i hs hl hi, fun z M1 h => ?_⟩
  obtain ⟨e, h, hw⟩ := h
  have ek : ∀ a : Nat, 93 < a → M1 a = M a := fun a q => by
    rcases h with ⟨c, _, h⟩ | ⟨_, h⟩
    · obtain ⟨c2, _⟩ := ref_ok c
      exact h a (by omega) (by omega)
    · rw [h]
  refine (C9_film Γ M1 (hI.g.fr (ek 95 (by decide))) (by rw [ek 96 (by decide)]; exact hI.ok) (by rw [ek 105 (by decide), ek 106 (by decide)]; exact hI.l.2) s l i hs hl hi).mono (fun z2 M2 h2 => ?_)
  obtain ⟨g, h2⟩ := h2
  rw [ek 105 (by decide), ek 106 (by decide), ek 96 (by decide)] at g h2
  refine ⟨by rw [g, e], ?_⟩
  rcases h with ⟨c, x1, x2⟩ | ⟨c, h⟩
  · rcases h2 with ⟨_, y1, y2, y3⟩ | ⟨c2, _⟩
    · obtain ⟨c1, c2, c3, c4, c5⟩ := ref_ok c
      rw [ek 107 (by decide)] at y1
      rw [ek 94 (by decide)] at y2
      have hr := hI.ok.1
      have f : ∀ a : Nat, (a < 65 ∨ 70 < a) → a ≠ 86 + 2 * s.toNat + 1 → a ≠ 94 → a ≠ 107 → M2 a = M a := fun a q0 q1 q2 q3 => by rw [y3 a q2 q3, x2 a q0 q1]
      obtain ⟨o1, o2, o3, o4, o5, o6⟩ := (hI.l.1 s.toNat (by omega)).on (by omega)
      refine hI.sh (fun a q1 q2 q3 q4 q5 q6 => f a (by omega) (by omega) q2 q5) y2 (by rw [y3 66 (by decide) (by decide), y3 67 (by decide) (by decide)]; exact hw) (hI.l.one s.toNat (by omega) (fun a q1 q2 q3 q4 => f a (by omega) q4 (by omega) (by omega)) (fun q _ => by rw [f 105 (by omega) (by omega) (by decide) (by decide)]) (fun q _ => by rw [f 106 (by omega) (by omega) (by decide) (by decide)]) (fun q hq => by rw [y1]; exact flm_out _ _ _ _ _ (by omega)) ?_ (by rw [f 105 (by omega) (by omega) (by decide) (by decide)]; omega) (by rw [f 106 (by omega) (by omega) (by decide) (by decide)]; omega))
      rw [f 105 (by omega) (by omega) (by decide) (by decide), f 106 (by omega) (by omega) (by decide) (by decide)]
      refine Or.inl ⟨by rw [f _ (by omega) (by omega) (by omega) (by omega)]; exact o1, o2, by rw [f _ (by omega) (by omega) (by omega) (by omega)]; exact o3, by rw [f _ (by omega) (by omega) (by omega) (by omega)]; exact o4, o5, fun q hq => ?_⟩
      have o6q := o6 q hq
      rw [y3 _ (by omega) (by omega), x1, y1, flm_eq _ _ (M 107) _ (24 * s.toNat) q o6q.1]
      refine ⟨rfl, ?_⟩
      by_cases cc : 24 * s.toNat + i.toNat ≤ 24 * s.toNat + q ∧ 24 * s.toNat + q < 24 * s.toNat + i.toNat + 2 * (M 96 0).toNat
      · have := flm_d (M 96) (M 107) (24 * s.toNat + i.toNat) (M 96 0).toNat _ cc.1 cc.2
        unfold D8 at this; omega
      · rw [flm_out _ _ _ _ _ (by omega)]; exact o6q.2
    · omega
  · rcases h2 with ⟨c2, _⟩ | ⟨_, h2⟩
    · omega
    · rw [h2, h]; exact hI
