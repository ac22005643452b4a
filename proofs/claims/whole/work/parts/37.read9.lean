/-! read, of the reference -/
theorem up2_2 (M : Mm) (k i : Nat) (a b : Int) : up2 (up2 M k i a) k i b = up2 M k i b := by
  funext c j; simp only [up2_e]; by_cases h : c = k ∧ j = i
  · rw [if_pos h, if_pos h]
  · rw [if_neg h, if_neg h, if_neg h]
theorem up2_id (M : Mm) (k i : Nat) (a : Int) (h : M k i = a) : up2 M k i a = M := by
  funext c j; simp only [up2_e]; by_cases q : c = k ∧ j = i
  · rw [if_pos q, q.1, q.2, h]
  · rw [if_neg q]
/-- ready: the tape, its size, the place; all else but the row is M's -/
def RD (tp : Nat → Int) (n : Nat) (M N : Mm) (p : Nat) : Prop := N 101 = tp ∧ N 94 14 = n ∧ N 94 15 = p ∧ (∀ j : Nat, j ≠ 15 → N 94 j = M 94 j) ∧ ∀ a : Nat, a ≠ 94 → a ≠ 96 → N a = M a
def hv (tp : Nat → Int) (n q : Nat) : Int := if q < n then tp q else 0
theorem RD.mv {tp : Nat → Int} {n : Nat} {M N : Mm} {p : Nat} (h : RD tp n M N p) (q : Nat) : RD tp n M (up2 N 94 15 q) q :=
  ⟨by rw [up2_c (by decide)]; exact h.1, by rw [up2_i (by decide)]; exact h.2.1, up2_s, fun j hj => by rw [up2_i hj]; exact h.2.2.2.1 j hj, fun a q1 q2 => by rw [up2_c q1]; exact h.2.2.2.2 a q1 q2⟩
theorem RD.row {tp : Nat → Int} {n : Nat} {M N : Mm} {p : Nat} (h : RD tp n M N p) (i : Nat) (c : Int) : RD tp n M (up2 N 96 i c) p :=
  ⟨by rw [up2_c (by decide)]; exact h.1, by rw [up2_c (by decide)]; exact h.2.1, by rw [up2_c (by decide)]; exact h.2.2.1, fun j hj => by rw [up2_c (by decide)]; exact h.2.2.2.1 j hj, fun a q1 q2 => by rw [up2_c q2]; exact h.2.2.2.2 a q1 q2⟩
abbrev tpOk (tp : Nat → Int) (n : Nat) : Prop := n ≤ 90 ∧ ∀ j : Nat, j < n → 32 ≤ tp j ∧ tp j ≤ 126
theorem hv_b {tp : Nat → Int} {n q : Nat} (h : tpOk tp n) : 0 ≤ hv tp n q ∧ hv tp n q ≤ 126 := by
  unfold hv; split
  · have := h.2 q (by assumption); omega
  · omega
theorem hv_lt {tp : Nat → Int} {n q : Nat} (h : hv tp n q ≠ 0) : q < n ∧ hv tp n q = tp q := by
  unfold hv at *; by_cases c : q < n
  · rw [if_pos c]; exact ⟨c, rfl⟩
  · rw [if_neg c] at h; exact absurd rfl h
theorem hv_0 {tp : Nat → Int} {n q : Nat} (ht : tpOk tp n) (h : hv tp n q = 0) : n ≤ q := by
  unfold hv at *; by_cases c : q < n
  · rw [if_pos c] at h; have := ht.2 q c; omega
  · omega
def hrP (tp : Nat → Int) (n : Nat) (N : Mm) (p : Nat) (z : Int) (M' : Mm) : Prop := ∃ q : Nat, p ≤ q ∧ q ≤ n ∧ (∀ j : Nat, p ≤ j → j < q → tp j = 32) ∧ M' = up2 N 94 15 q ∧ z = hv tp n q ∧ (q < n → tp q ≠ 32)

set_option maxRecDepth 20000 in
theorem here_loop (Γ : GC) (N : Mm) (tp : Nat → Int) (n p : Nat) (ht : tpOk tp n) (h1 : N 101 = tp) (h2 : N 94 14 = n) : ∀ (fu q : Nat), p ≤ q → q ≤ n → (∀ j : Nat, p ≤ j → j < q → tp j = 32) → 90 - q < fu → AW Γ uX9_here 0 [(0, rf Γ 94)] [] (up2 N 94 15 q) (hrP tp n N p) := by
  have hn := ht.1
  intro fu
  induction fu with
  | zero => intro q g0 g1 g2 gm; omega
  | succ fu ih =>
    intro q g0 g1 g2 gm
    refine AW.aload_n dX9_here_0 0 rfl rfl ?_
    refine AW.getI dX9_here_1 fl_X9_212 (show sh 94 = (0, 9, [some 95, some 96, some 97, none, none, none, some 98, some 99, some 100, none, none, none, none, some 101, none, none, none, some 102, none, some 103, some 104, none, some 105, some 106, some 107, some 108]) from rfl) rfl ?_
    rw [up2_s]
    refine AW.aload_n dX9_here_4 0 rfl rfl ?_
    refine AW.getI dX9_here_5 fl_X9_209 (show sh 94 = (0, 9, [some 95, some 96, some 97, none, none, none, some 98, some 99, some 100, none, none, none, none, some 101, none, none, none, some 102, none, some 103, some 104, none, some 105, some 106, some 107, some 108]) from rfl) rfl ?_
    rw [up2_i (by decide), h2]
    refine AW.icmp_ge 38 dX9_here_8 (by decide) (by omega) (by omega) (fun c8 => ?_) (fun c8 => ?_)
    · refine AW.aload_n dX9_here_38 0 rfl rfl ?_
      refine AW.getI dX9_here_39 fl_X9_212 (show sh 94 = (0, 9, [some 95, some 96, some 97, none, none, none, some 98, some 99, some 100, none, none, none, none, some 101, none, none, none, some 102, none, some 103, some 104, none, some 105, some 106, some 107, some 108]) from rfl) rfl ?_
      rw [up2_s]
      refine AW.aload_n dX9_here_42 0 rfl rfl ?_
      refine AW.getI dX9_here_43 fl_X9_209 (show sh 94 = (0, 9, [some 95, some 96, some 97, none, none, none, some 98, some 99, some 100, none, none, none, none, some 101, none, none, none, some 102, none, some 103, some 104, none, some 105, some 106, some 107, some 108]) from rfl) rfl ?_
      rw [up2_i (by decide), h2]
      refine AW.icmp_ge 61 dX9_here_46 (by decide) (by omega) (by omega) (fun c46 => ?_) (fun c46 => ?_)
      · refine AW.iconst dX9_here_61 ?_
        exact AW.iret rfl dX9_here_62 ⟨q, g0, g1, g2, rfl, by unfold hv; first | (rw [if_pos (by omega)]; done) | (rw [if_neg (by omega)]; done), fun hq => by first | omega⟩
      · refine AW.aload_n dX9_here_49 0 rfl rfl ?_
        refine AW.getR dX9_here_50 fl_X9_28 (show sh 94 = (0, 9, [some 95, some 96, some 97, none, none, none, some 98, some 99, some 100, none, none, none, none, some 101, none, none, none, some 102, none, some 103, some 104, none, some 105, some 106, some 107, some 108]) from rfl) rfl ?_
        refine AW.aload_n dX9_here_53 0 rfl rfl ?_
        refine AW.getI dX9_here_54 fl_X9_212 (show sh 94 = (0, 9, [some 95, some 96, some 97, none, none, none, some 98, some 99, some 100, none, none, none, none, some 101, none, none, none, some 102, none, some 103, some 104, none, some 105, some 106, some 107, some 108]) from rfl) rfl ?_
        rw [up2_s]
        refine AW.ialdN q dX9_here_57 (show sh 101 = (1, 90, []) from rfl) (by omega) (by omega) (by decide) ?_
        rw [up2_c (by decide), h1]
        refine AW.goto 62 dX9_here_58 (by decide) ?_
        exact AW.iret rfl dX9_here_62 ⟨q, g0, g1, g2, rfl, by unfold hv; first | (rw [if_pos (by omega)]; done) | (rw [if_neg (by omega)]; done), fun hq => by first | omega⟩
    · refine AW.aload_n dX9_here_11 0 rfl rfl ?_
      refine AW.getR dX9_here_12 fl_X9_28 (show sh 94 = (0, 9, [some 95, some 96, some 97, none, none, none, some 98, some 99, some 100, none, none, none, none, some 101, none, none, none, some 102, none, some 103, some 104, none, some 105, some 106, some 107, some 108]) from rfl) rfl ?_
      refine AW.aload_n dX9_here_15 0 rfl rfl ?_
      refine AW.getI dX9_here_16 fl_X9_212 (show sh 94 = (0, 9, [some 95, some 96, some 97, none, none, none, some 98, some 99, some 100, none, none, none, none, some 101, none, none, none, some 102, none, some 103, some 104, none, some 105, some 106, some 107, some 108]) from rfl) rfl ?_
      rw [up2_s]
      refine AW.ialdN q dX9_here_19 (show sh 101 = (1, 90, []) from rfl) (by omega) (by omega) (by decide) ?_
      rw [up2_c (by decide), h1]
      refine AW.bipush (z := (32)) dX9_here_20 (by decide) ?_
      refine AW.icmp_ne 38 dX9_here_22 (by decide) (by have := ht.2 q (by omega); omega) (by omega) (fun c22 => ?_) (fun c22 => ?_)
      · have htq := ht.2 q (by omega)
        refine AW.aload_n dX9_here_38 0 rfl rfl ?_
        refine AW.getI dX9_here_39 fl_X9_212 (show sh 94 = (0, 9, [some 95, some 96, some 97, none, none, none, some 98, some 99, some 100, none, none, none, none, some 101, none, none, none, some 102, none, some 103, some 104, none, some 105, some 106, some 107, some 108]) from rfl) rfl ?_
        rw [up2_s]
        refine AW.aload_n dX9_here_42 0 rfl rfl ?_
        refine AW.getI dX9_here_43 fl_X9_209 (show sh 94 = (0, 9, [some 95, some 96, some 97, none, none, none, some 98, some 99, some 100, none, none, none, none, some 101, none, none, none, some 102, none, some 103, some 104, none, some 105, some 106, some 107, some 108]) from rfl) rfl ?_
        rw [up2_i (by decide), h2]
        refine AW.icmp_ge 61 dX9_here_46 (by decide) (by omega) (by omega) (fun c46 => ?_) (fun c46 => ?_)
        · refine AW.iconst dX9_here_61 ?_
          exact AW.iret rfl dX9_here_62 ⟨q, g0, g1, g2, rfl, by unfold hv; first | (rw [if_pos (by omega)]; done) | (rw [if_neg (by omega)]; done), fun hq => by first | omega⟩
        · refine AW.aload_n dX9_here_49 0 rfl rfl ?_
          refine AW.getR dX9_here_50 fl_X9_28 (show sh 94 = (0, 9, [some 95, some 96, some 97, none, none, none, some 98, some 99, some 100, none, none, none, none, some 101, none, none, none, some 102, none, some 103, some 104, none, some 105, some 106, some 107, some 108]) from rfl) rfl ?_
          refine AW.aload_n dX9_here_53 0 rfl rfl ?_
          refine AW.getI dX9_here_54 fl_X9_212 (show sh 94 = (0, 9, [some 95, some 96, some 97, none, none, none, some 98, some 99, some 100, none, none, none, none, some 101, none, none, none, some 102, none, some 103, some 104, none, some 105, some 106, some 107, some 108]) from rfl) rfl ?_
          rw [up2_s]
          refine AW.ialdN q dX9_here_57 (show sh 101 = (1, 90, []) from rfl) (by omega) (by omega) (by decide) ?_
          rw [up2_c (by decide), h1]
          refine AW.goto 62 dX9_here_58 (by decide) ?_
          exact AW.iret rfl dX9_here_62 ⟨q, g0, g1, g2, rfl, by unfold hv; first | (rw [if_pos (by omega)]; done) | (rw [if_neg (by omega)]; done), fun hq => by first | omega⟩
      · have htq := ht.2 q (by omega)
        refine AW.aload_n dX9_here_25 0 rfl rfl ?_
        refine AW.dup dX9_here_26 rfl ?_
        refine AW.getI dX9_here_27 fl_X9_212 (show sh 94 = (0, 9, [some 95, some 96, some 97, none, none, none, some 98, some 99, some 100, none, none, none, none, some 101, none, none, none, some 102, none, some 103, some 104, none, some 105, some 106, some 107, some 108]) from rfl) rfl ?_
        rw [up2_s]
        refine AW.iconst dX9_here_30 ?_
        refine AW.iadd dX9_here_31 ?_
        refine AW.putI dX9_here_32 fp_X9_212 (show sh 94 = (0, 9, [some 95, some 96, some 97, none, none, none, some 98, some 99, some 100, none, none, none, none, some 101, none, none, none, some 102, none, some 103, some 104, none, some 105, some 106, some 107, some 108]) from rfl) rfl ?_
        refine AW.goto 0 dX9_here_35 (by decide) ?_
        refine AW.toM (show _ = up2 N 94 15 ((q + 1 : Nat) : Int) by rw [up2_2]; rfl) (ih (q + 1) (by omega) (by omega) (fun j j1 j2 => by
          rcases Nat.lt_or_ge j q with c | c
          · exact g2 j j1 c
          · rw [show j = q by omega]; omega) (by omega))
theorem C9_here (Γ : GC) (M N : Mm) (tp : Nat → Int) (n p : Nat) (ht : tpOk tp n) (h : RD tp n M N p) (hp : p ≤ n) : Ct Γ uX9_here [rf Γ 94] N (hrP tp n N p) := by
  refine Ct.of (by decide) (Nat.le_of_ble_eq_true rfl) ?_
  show AW Γ uX9_here 0 [(0, rf Γ 94)] [] N _
  refine AW.toM (up2_id N 94 15 p h.2.2.1).symm ?_
  exact here_loop Γ N tp n p ht h.1 h.2.1 92 p (Nat.le_refl _) hp (fun j q1 q2 => by omega) (by omega)
theorem C9_hereS (Γ : GC) (M N : Mm) (tp : Nat → Int) (n p : Nat) (ht : tpOk tp n) (h : RD tp n M N p) (hp : p ≤ n) (hs : p < n → tp p ≠ 32) : Ct Γ uX9_here [rf Γ 94] N (Pu (hv tp n p) N) :=
  (C9_here Γ M N tp n p ht h hp).mono (fun z M' ⟨q, a1, a2, a3, a4, a5, a6⟩ => by
    have hq : q = p := by
      rcases Nat.lt_or_ge p q with c | c
      · exact absurd (a3 p (Nat.le_refl _) c) (hs (by omega))
      · omega
    subst hq
    exact ⟨a5, by rw [a4, up2_id N 94 15 q h.2.2.1]⟩)
/-- a fault there -/
def stk (tp r : Nat → Int) (n q : Nat) : Prop := (q = n ∧ ¬ (aut tp r n).1 = 3) ∨ (q < n ∧ (aut tp r (q + 1)).1 = 4)
def preW (tp : Nat → Int) (n p : Nat) (wh : Int) : Prop := wh = 1 ∨ (wh = 0 ∧ (p < n → tp p ≠ 32 ∧ tp p ≠ 58))
theorem lenR_row (R : Nat → Int) (w : Nat) (hw : R 1 = w) (j : Nat) (hj : j < 6) (c : Int) : lenR (up1 (up1 R (17 + 7 * w) j) 1 (w + 1)) c = up1 (up1 (up1 R (17 + 7 * w + (j + 1)) c) (17 + 7 * w) ((j + 1 : Nat) : Int)) 1 (w + 1) := by
  have e1 : up1 (up1 R (17 + 7 * w) (j : Int)) 1 ((w : Int) + 1) 1 = (w : Int) + 1 := by simp [up1]
  have e2 : up1 (up1 R (17 + 7 * w) (j : Int)) 1 ((w : Int) + 1) (17 + 7 * w) = j := by simp [up1, show ¬ 17 + 7 * w = 1 by omega]
  unfold lenR
  rw [e1, show ((w : Int) + 1 - 1).toNat = w by omega, e2]
  funext i
  simp only [up1]
  by_cases q1 : i = 17 + 7 * w
  · rw [if_pos q1, if_neg (by omega), if_pos q1]; omega
  · rw [if_neg q1]
    by_cases q2 : i = 1
    · rw [if_neg (by omega), if_pos q2, if_pos q2]
    · rw [if_neg q2, if_neg q2, if_neg q1, if_neg q1]
      by_cases q3 : i = 18 + 7 * w + j
      · rw [if_pos (by omega), if_pos (by omega)]
      · rw [if_neg (by omega), if_neg (by omega)]
theorem opnR_row (R : Nat → Int) (w : Nat) (hw : R 1 = w) (c : Int) : opnR R c = up1 (up1 (up1 R (17 + 7 * w + (0 + 1)) c) (17 + 7 * w) ((0 + 1 : Nat) : Int)) 1 (w + 1) := by
  unfold opnR
  rw [hw, show ((w : Int)).toNat = w by omega, show 18 + 7 * w = 17 + 7 * w + (0 + 1) by omega]; rfl
theorem aut_next (tp r : Nat → Int) (q : Nat) (wh : Int) (R : Nat → Int) (h : aut tp r q = (wh, R)) : aut tp r (q + 1) = stpA wh R (tp q) := by
  show stpA (aut tp r q).1 (aut tp r q).2 (tp q) = _; rw [h]
/-- a letter that is none: a fault, or behind a word -/
theorem stp_bad {wh : Int} {R : Nat → Int} {c : Int} (h1 : c ≠ 32) (h2 : ¬ (97 ≤ c ∧ c ≤ 122)) (h3 : ¬ (c = 44 ∧ wh = 2 ∧ R 1 < 6)) (h4 : ¬ (c = 58 ∧ (wh = 0 ∨ wh = 2))) : (stpA wh R c).1 = 4 := by
  unfold stpA; rw [if_neg h1, if_neg h2]
  by_cases q : c = 44
  · rw [if_pos q, if_neg (fun x => h3 ⟨q, x⟩)]
  · rw [if_neg q]
    by_cases q2 : c = 58
    · rw [if_pos q2, if_neg (fun x => h4 ⟨q2, x⟩)]
    · rw [if_neg q2]
theorem stk_bad {tp r : Nat → Int} {n q : Nat} {wh : Int} {R : Nat → Int} (h : aut tp r q = (wh, R)) (hqn : q ≤ n) (h1 : q < n → tp q ≠ 32) (h2 : ¬ (97 ≤ hv tp n q ∧ hv tp n q ≤ 122)) (h3 : ¬ (hv tp n q = 44 ∧ wh = 2 ∧ R 1 < 6)) (h4 : ¬ (hv tp n q = 58 ∧ (wh = 0 ∨ wh = 2))) (h5 : ¬ wh = 3 ∨ q < n) : stk tp r n q := by
  by_cases c : q < n
  · refine Or.inr ⟨c, ?_⟩
    have e : hv tp n q = tp q := by unfold hv; rw [if_pos c]
    rw [e] at h2 h3 h4
    rw [aut_next tp r q wh R h]; exact stp_bad (h1 c) h2 h3 h4
  · refine Or.inl ⟨by omega, ?_⟩
    rw [show n = q by omega, h]; exact h5.resolve_right c
def wSt (tp r : Nat → Int) (n p : Nat) (N : Mm) (w j : Nat) : Prop := (j = 0 ∧ ∃ wh : Int, aut tp r p = (wh, N 96) ∧ preW tp n p wh) ∨ (1 ≤ j ∧ aut tp r p = (2, up1 (up1 (N 96) (17 + 7 * w) j) 1 (w + 1)))
def wdP (tp r : Nat → Int) (n p0 : Nat) (M : Mm) (z : Int) (M' : Mm) : Prop := ∃ q : Nat, (q ≤ n ∧ p0 ≤ q) ∧ RD tp n M M' q ∧ nof tp r q ∧ (q < n → tp q ≠ 32) ∧ ((z = 0 ∧ stk tp r n q) ∨ (z = 1 ∧ q < n ∧ aut tp r q = (2, M' 96) ∧ (tp q = 58 ∨ (tp q = 44 ∧ M' 96 1 < 6))))

set_option maxRecDepth 20000 in
theorem word_loop (Γ : GC) (M : Mm) (tp r : Nat → Int) (n w : Nat) (ht : tpOk tp n) (hw : w < 6) (to : Int) (eto : to = 17 + 7 * w) (p0 : Nat) : ∀ (fu j p : Nat) (x : Int) (N : Mm), x = j → j ≤ 6 ∧ p0 ≤ p → RD tp n M N p → p ≤ n → nof tp r p → N 96 1 = w → wSt tp r n p N w j → 90 - p < fu → AW Γ uX9_word 15 [(2, vi x), (1, vi to), (0, rf Γ 94)] [] N (wdP tp r n p0 M) := by
  have hn := ht.1
  intro fu
  induction fu with
  | zero => intro j p x N g0 g6 g1 g2 g3 g4 g5 gm; omega
  | succ fu ih =>
    intro j p x N g0 g6 g1 g2 g3 g4 g5 gm
    refine AW.aload_n dX9_word_15 2 rfl rfl ?_
    refine AW.callV0i (C9_here Γ M N tp n p ht g1 g2) dX9_word_16 mc_X9_215 (show sh 94 = (0, 9, [some 95, some 96, some 97, none, none, none, some 98, some 99, some 100, none, none, none, none, some 101, none, none, none, some 102, none, some 103, some 104, none, some 105, some 106, some 107, some 108]) from rfl) (fun _ => rfl) ⟨Nat.le_of_ble_eq_true rfl, Nat.le_of_ble_eq_true rfl⟩ (Nat.le_of_ble_eq_true rfl) (fun z16 M16 h16 => ?_)
    obtain ⟨q, a1, a2, a3, a4, a5, a6⟩ := h16
    have rdq := g1.mv q
    have nq := (g3.blank a1 a3)
    have hvb := hv_b (q := q) ht
    have e96 : M16 96 = N 96 := by rw [a4, up2_c (by decide)]
    rw [← a4] at rdq
    have wq : wSt tp r n q M16 w j := by
      unfold wSt; rw [nq.2, e96]
      rcases g5 with ⟨b1, wh, b2, b3⟩ | b
      · refine Or.inl ⟨b1, wh, b2, ?_⟩
        rcases b3 with b3 | ⟨b3, b4⟩
        · exact Or.inl b3
        · refine Or.inr ⟨b3, fun hq => ?_⟩
          have hpq : q = p := by
            rcases Nat.lt_or_ge p q with c | c
            · exact absurd (a3 p (Nat.le_refl _) c) (b4 (by omega)).1
            · omega
          rw [hpq]; exact b4 (by omega)
      · exact Or.inr b
    have w16 : M16 96 1 = w := by rw [e96]; exact g4
    refine AW.i2l dX9_word_19 (by omega) ?_
    refine AW.ldc2 (z := 97) dX9_word_20 kl_X9_218 (by decide +kernel) ?_
    refine AW.ldc2 (z := 122) dX9_word_23 kl_X9_220 (by decide +kernel) ?_
    refine AW.callS3ip (C9_in Γ _ _ _ _ (by omega) (by decide) (by decide)) dX9_word_26 mc_X9_76 (fun _ => rfl) ⟨Nat.le_of_ble_eq_true rfl, Nat.le_of_ble_eq_true rfl⟩ (Nat.le_of_ble_eq_true rfl) ?_
    refine AW.if_eq 71 dX9_word_29 (by decide) (bI_r _) (fun c29 => ?_) (fun c29 => ?_)
    · have d29 := bI0.mp c29
      refine AW.aload_n dX9_word_71 2 rfl rfl ?_
      refine AW.getR dX9_word_72 fl_X9_13 (show sh 94 = (0, 9, [some 95, some 96, some 97, none, none, none, some 98, some 99, some 100, none, none, none, none, some 101, none, none, none, some 102, none, some 103, some 104, none, some 105, some 106, some 107, some 108]) from rfl) rfl ?_
      refine AW.iload_n dX9_word_75 1 rfl rfl ?_
      have hto : to = ((17 + 7 * w : Nat) : Int) := by omega
      refine AW.iload_n dX9_word_76 0 rfl rfl ?_
      refine AW.iastN (17 + 7 * w) dX9_word_77 (show sh 96 = (1, 59, []) from rfl) (by omega) (by omega) (by decide) ?_
      refine AW.aload_n dX9_word_78 2 rfl rfl ?_
      refine AW.getR dX9_word_79 fl_X9_13 (show sh 94 = (0, 9, [some 95, some 96, some 97, none, none, none, some 98, some 99, some 100, none, none, none, none, some 101, none, none, none, some 102, none, some 103, some 104, none, some 105, some 106, some 107, some 108]) from rfl) rfl ?_
      refine AW.iconst dX9_word_82 ?_
      refine AW.dup2 dX9_word_83 rfl rfl ?_
      refine AW.ialdN 1 dX9_word_84 (show sh 96 = (1, 59, []) from rfl) rfl (by decide) (by decide) ?_
      rw [up2_i (by omega), w16]
      refine AW.iconst dX9_word_85 ?_
      refine AW.iadd dX9_word_86 ?_
      refine AW.iastN 1 dX9_word_87 (show sh 96 = (1, 59, []) from rfl) rfl (by decide) (by decide) ?_
      obtain ⟨M1, hM1⟩ : ∃ z : Mm, z = up2 (up2 M16 96 (17 + 7 * w) x) 96 1 ((w : Int) + 1) := ⟨_, rfl⟩
      rw [← hM1]
      have rd1 : RD tp n M M1 q := by rw [hM1]; exact (rdq.row _ _).row _ _
      have r1 : M1 96 = up1 (up1 (M16 96) (17 + 7 * w) x) 1 (w + 1) := by rw [hM1]; rfl
      have w1 : M1 96 1 = (w : Int) + 1 := by rw [hM1, up2_s]
      refine AW.iload_n dX9_word_88 0 rfl rfl ?_
      refine AW.if_le 125 dX9_word_89 (by decide) (by omega) (fun c89 => ?_) (fun c89 => ?_)
      · have hstk : stk tp r n q := by
          rcases wq with ⟨b1, wh, b2, b3⟩ | ⟨b1, b2⟩
          · unfold preW at b3
            refine stk_bad b2 a2 a6 (by omega) (by omega) (fun x => ?_) (Or.inl (by omega))
            have hl := hv_lt (show hv tp n q ≠ 0 by omega)
            omega
          · omega
        refine AW.iconst dX9_word_125 ?_
        exact AW.zret rfl dX9_word_126 (by decide) ⟨q, ⟨a2, by omega⟩, rd1, nq.1, a6, Or.inl ⟨rfl, hstk⟩⟩
      · have b2 : aut tp r q = (2, M1 96) := by
          rcases wq with ⟨b1, _⟩ | ⟨b1, b2⟩
          · omega
          · rw [b2, r1, g0]
        refine AW.aload_n dX9_word_92 2 rfl rfl ?_
        refine AW.callV0ip (C9_hereS Γ M _ tp n q ht rd1 a2 a6) dX9_word_93 mc_X9_215 (show sh 94 = (0, 9, [some 95, some 96, some 97, none, none, none, some 98, some 99, some 100, none, none, none, none, some 101, none, none, none, some 102, none, some 103, some 104, none, some 105, some 106, some 107, some 108]) from rfl) (fun _ => rfl) ⟨Nat.le_of_ble_eq_true rfl, Nat.le_of_ble_eq_true rfl⟩ (Nat.le_of_ble_eq_true rfl) ?_
        refine AW.bipush (z := (58)) dX9_word_96 (by decide) ?_
        refine AW.icmp_eq 121 dX9_word_98 (by decide) (by omega) (by omega) (fun c98 => ?_) (fun c98 => ?_)
        · refine AW.iconst dX9_word_121 ?_
          refine AW.goto 126 dX9_word_122 (by decide) ?_
          exact AW.zret rfl dX9_word_126 (by decide) ⟨q, ⟨a2, by omega⟩, rd1, nq.1, a6, Or.inr ⟨rfl, (hv_lt (show hv tp n q ≠ 0 by omega)).1, b2, by have := (hv_lt (show hv tp n q ≠ 0 by omega)).2; omega⟩⟩
        · refine AW.aload_n dX9_word_101 2 rfl rfl ?_
          refine AW.callV0ip (C9_hereS Γ M _ tp n q ht rd1 a2 a6) dX9_word_102 mc_X9_215 (show sh 94 = (0, 9, [some 95, some 96, some 97, none, none, none, some 98, some 99, some 100, none, none, none, none, some 101, none, none, none, some 102, none, some 103, some 104, none, some 105, some 106, some 107, some 108]) from rfl) (fun _ => rfl) ⟨Nat.le_of_ble_eq_true rfl, Nat.le_of_ble_eq_true rfl⟩ (Nat.le_of_ble_eq_true rfl) ?_
          refine AW.bipush (z := (44)) dX9_word_105 (by decide) ?_
          refine AW.icmp_ne 125 dX9_word_107 (by decide) (by omega) (by omega) (fun c107 => ?_) (fun c107 => ?_)
          · have d1 : True := trivial
            have hstk : stk tp r n q := stk_bad b2 a2 a6 (by omega) (by omega) (by omega) (Or.inl (by decide))
            refine AW.iconst dX9_word_125 ?_
            exact AW.zret rfl dX9_word_126 (by decide) ⟨q, ⟨a2, by omega⟩, rd1, nq.1, a6, Or.inl ⟨rfl, hstk⟩⟩
          · refine AW.aload_n dX9_word_110 2 rfl rfl ?_
            refine AW.getR dX9_word_111 fl_X9_13 (show sh 94 = (0, 9, [some 95, some 96, some 97, none, none, none, some 98, some 99, some 100, none, none, none, none, some 101, none, none, none, some 102, none, some 103, some 104, none, some 105, some 106, some 107, some 108]) from rfl) rfl ?_
            refine AW.iconst dX9_word_114 ?_
            refine AW.ialdN 1 dX9_word_115 (show sh 96 = (1, 59, []) from rfl) rfl (by decide) (by decide) ?_
            rw [w1]
            refine AW.bipush (z := (6)) dX9_word_116 (by decide) ?_
            refine AW.icmp_ge 125 dX9_word_118 (by decide) (by omega) (by omega) (fun c118 => ?_) (fun c118 => ?_)
            · have d1 : True := trivial
              have hstk : stk tp r n q := stk_bad b2 a2 a6 (by omega) (by omega) (by omega) (Or.inl (by decide))
              refine AW.iconst dX9_word_125 ?_
              exact AW.zret rfl dX9_word_126 (by decide) ⟨q, ⟨a2, by omega⟩, rd1, nq.1, a6, Or.inl ⟨rfl, hstk⟩⟩
            · refine AW.iconst dX9_word_121 ?_
              refine AW.goto 126 dX9_word_122 (by decide) ?_
              exact AW.zret rfl dX9_word_126 (by decide) ⟨q, ⟨a2, by omega⟩, rd1, nq.1, a6, Or.inr ⟨rfl, (hv_lt (show hv tp n q ≠ 0 by omega)).1, b2, by have := (hv_lt (show hv tp n q ≠ 0 by omega)).2; omega⟩⟩
    · have d29 := bI1.mp c29
      obtain ⟨hqn, hvq⟩ := hv_lt (show hv tp n q ≠ 0 by omega)
      refine AW.iload_n dX9_word_32 0 rfl rfl ?_
      refine AW.bipush (z := (6)) dX9_word_33 (by decide) ?_
      refine AW.icmp_ne 40 dX9_word_35 (by decide) (by omega) (by omega) (fun c35 => ?_) (fun c35 => ?_)
      · obtain ⟨x2, ex2⟩ : ∃ z : Int, x + 1 = z := ⟨_, rfl⟩
        refine AW.iinc [(2, vi x2), (1, vi to), (0, rf Γ 94)] dX9_word_40 0 rfl (by decide) x2 ex2 rfl ?_
        refine AW.aload_n dX9_word_43 2 rfl rfl ?_
        refine AW.getR dX9_word_44 fl_X9_13 (show sh 94 = (0, 9, [some 95, some 96, some 97, none, none, none, some 98, some 99, some 100, none, none, none, none, some 101, none, none, none, some 102, none, some 103, some 104, none, some 105, some 106, some 107, some 108]) from rfl) rfl ?_
        refine AW.iload_n dX9_word_47 1 rfl rfl ?_
        refine AW.iload_n dX9_word_48 0 rfl rfl ?_
        refine AW.iadd dX9_word_49 ?_
        refine AW.aload_n dX9_word_50 2 rfl rfl ?_
        refine AW.callV0ip (C9_hereS Γ M _ tp n q ht rdq a2 a6) dX9_word_51 mc_X9_215 (show sh 94 = (0, 9, [some 95, some 96, some 97, none, none, none, some 98, some 99, some 100, none, none, none, none, some 101, none, none, none, some 102, none, some 103, some 104, none, some 105, some 106, some 107, some 108]) from rfl) (fun _ => rfl) ⟨Nat.le_of_ble_eq_true rfl, Nat.le_of_ble_eq_true rfl⟩ (Nat.le_of_ble_eq_true rfl) ?_
        refine AW.bipush (z := (97)) dX9_word_54 (by decide) ?_
        refine AW.isub dX9_word_56 ?_
        refine AW.iastN (17 + 7 * w + (j + 1)) dX9_word_57 (show sh 96 = (1, 59, []) from rfl) (by omega) (by omega) (by decide) ?_
        refine AW.aload_n dX9_word_58 2 rfl rfl ?_
        refine AW.dup dX9_word_59 rfl ?_
        refine AW.getI dX9_word_60 fl_X9_212 (show sh 94 = (0, 9, [some 95, some 96, some 97, none, none, none, some 98, some 99, some 100, none, none, none, none, some 101, none, none, none, some 102, none, some 103, some 104, none, some 105, some 106, some 107, some 108]) from rfl) rfl ?_
        rw [up2_c (by decide), rdq.2.2.1]
        refine AW.iconst dX9_word_63 ?_
        refine AW.iadd dX9_word_64 ?_
        refine AW.putI dX9_word_65 fp_X9_212 (show sh 94 = (0, 9, [some 95, some 96, some 97, none, none, none, some 98, some 99, some 100, none, none, none, none, some 101, none, none, none, some 102, none, some 103, some 104, none, some 105, some 106, some 107, some 108]) from rfl) rfl ?_
        refine AW.goto 15 dX9_word_68 (by decide) ?_
        refine AW.sub [0, 1, 2] rfl ?_
        have nx : aut tp r (q + 1) = (2, up1 (up1 (up1 (M16 96) (17 + 7 * w + (j + 1)) (hv tp n q - 97)) (17 + 7 * w) ((j + 1 : Nat) : Int)) 1 (w + 1)) := by
          rcases wq with ⟨b1, wh, b2, b3⟩ | ⟨b1, b2⟩
          · subst b1
            rw [aut_next tp r q _ _ b2, ← opnR_row _ w w16]
            unfold stpA
            unfold preW at b3
            rw [if_neg (by omega), if_pos (by omega), if_neg (by omega), if_neg (by omega), if_neg (by omega), hvq]
          · rw [aut_next tp r q _ _ b2, ← lenR_row _ w w16 j (by omega)]
            have e1 : up1 (up1 (M16 96) (17 + 7 * w) (j : Int)) 1 ((w : Int) + 1) 1 = (w : Int) + 1 := by simp [up1]
            have e2 : up1 (up1 (M16 96) (17 + 7 * w) (j : Int)) 1 ((w : Int) + 1) (17 + 7 * w) = j := by simp [up1, show ¬ 17 + 7 * w = 1 by omega]
            unfold stpA
            rw [if_neg (by omega), if_pos (by omega), if_neg (by decide), if_pos rfl, e1, show ((w : Int) + 1 - 1).toNat = w by omega, e2, if_neg (by omega), hvq]
        refine ih (j + 1) (q + 1) x2 _ (by omega) (by omega) ((rdq.row _ _).mv (q + 1)) (by omega) (nq.1.next (by rw [nx]; show ¬ (2 : Int) = 4; decide)) ?_ (Or.inr ⟨by omega, ?_⟩) (by omega)
        · rw [up2_c (by decide), up2_i (by omega)]; exact w16
        · rw [up2_c (by decide), nx]; rfl
      · refine AW.iconst dX9_word_38 ?_
        exact AW.zret rfl dX9_word_39 (by decide) ⟨q, ⟨a2, by omega⟩, rdq, nq.1, a6, Or.inl ⟨rfl, by
  rcases wq with ⟨b1, _⟩ | ⟨b1, b2⟩
  · omega
  · refine Or.inr ⟨hqn, ?_⟩
    rw [aut_next tp r q _ _ b2]
    unfold stpA
    have e1 : up1 (up1 (M16 96) (17 + 7 * w) (j : Int)) 1 ((w : Int) + 1) 1 = (w : Int) + 1 := by simp [up1]
    have e2 : up1 (up1 (M16 96) (17 + 7 * w) (j : Int)) 1 ((w : Int) + 1) (17 + 7 * w) = j := by simp [up1, show ¬ 17 + 7 * w = 1 by omega]
    rw [if_neg (by omega), if_pos (by omega), if_neg (by decide), if_pos rfl, e1, show ((w : Int) + 1 - 1).toNat = w by omega, e2, if_pos (by omega)]⟩⟩

set_option maxRecDepth 20000 in
theorem C9_word (Γ : GC) (M N : Mm) (tp r : Nat → Int) (n w p : Nat) (ht : tpOk tp n) (hw : w < 6) (g1 : RD tp n M N p) (g2 : p ≤ n) (g3 : nof tp r p) (g4 : N 96 1 = w) (wh : Int) (g5 : aut tp r p = (wh, N 96)) (g6 : preW tp n p wh) : Ct Γ uX9_word [rf Γ 94] N (wdP tp r n p M) := by
  refine Ct.of (by decide) (Nat.le_of_ble_eq_true rfl) ?_
  show AW Γ uX9_word 0 [(0, rf Γ 94)] [] N _
  have hn := ht.1
  refine AW.bipush (z := (17)) dX9_word_0 (by decide) ?_
  refine AW.bipush (z := (7)) dX9_word_2 (by decide) ?_
  refine AW.aload_n dX9_word_4 0 rfl rfl ?_
  refine AW.getR dX9_word_5 fl_X9_13 (show sh 94 = (0, 9, [some 95, some 96, some 97, none, none, none, some 98, some 99, some 100, none, none, none, none, some 101, none, none, none, some 102, none, some 103, some 104, none, some 105, some 106, some 107, some 108]) from rfl) rfl ?_
  refine AW.iconst dX9_word_8 ?_
  refine AW.ialdN 1 dX9_word_9 (show sh 96 = (1, 59, []) from rfl) rfl (by decide) (by decide) ?_
  rw [g4]
  refine AW.imul dX9_word_10 ?_
  refine AW.iadd dX9_word_11 ?_
  refine AW.top (fun x12 ex12 => ?_)
  refine AW.istore_n [(1, vi x12), (0, rf Γ 94)] dX9_word_12 rfl (by decide) rfl ?_
  refine AW.iconst dX9_word_13 ?_
  refine AW.top (fun x14 ex14 => ?_)
  refine AW.istore_n [(2, vi x14), (1, vi x12), (0, rf Γ 94)] dX9_word_14 rfl (by decide) rfl ?_
  refine AW.sub [0, 1, 2] rfl ?_
  exact word_loop Γ M tp r n w ht hw x12 (by omega) p 92 0 p x14 N (by omega) (by omega) g1 g2 g3 g4 (Or.inl ⟨rfl, wh, g5, g6⟩) (by omega)

def txP (tp r : Nat → Int) (n : Nat) (M : Mm) (z : Int) (M' : Mm) : Prop := ∃ q : Nat, q ≤ n ∧ RD tp n M M' q ∧ nof tp r q ∧ (q < n → tp q ≠ 32) ∧ ((z = 0 ∧ stk tp r n q) ∨ (z = 1 ∧ q = n ∧ aut tp r n = (3, M' 96)))

set_option maxRecDepth 20000 in
theorem text_loop3 (Γ : GC) (M : Mm) (tp r : Nat → Int) (ho : OkR r) (n : Nat) (ht : tpOk tp n) : ∀ (fu p : Nat) (x : Int) (N : Mm), RD tp n M N p → p ≤ n → nof tp r p → aut tp r p = (3, N 96) → 90 - p < fu → AW Γ uX9_isText 93 [(1, vi x), (0, rf Γ 94)] [] N (txP tp r n M) := by
  have hn := ht.1
  intro fu
  induction fu with
  | zero => intro p x N g1 g2 g3 g4 gm; omega
  | succ fu ih =>
    intro p x N g1 g2 g3 g4 gm
    refine AW.aload_n dX9_isText_93 1 rfl rfl ?_
    refine AW.callV0i (C9_here Γ M N tp n p ht g1 g2) dX9_isText_94 mc_X9_215 (show sh 94 = (0, 9, [some 95, some 96, some 97, none, none, none, some 98, some 99, some 100, none, none, none, none, some 101, none, none, none, some 102, none, some 103, some 104, none, some 105, some 106, some 107, some 108]) from rfl) (fun _ => rfl) ⟨Nat.le_of_ble_eq_true rfl, Nat.le_of_ble_eq_true rfl⟩ (Nat.le_of_ble_eq_true rfl) (fun z94 M94 h94 => ?_)
    obtain ⟨q, a1, a2, a3, a4, a5, a6⟩ := h94
    have rdq := g1.mv q
    have nq := (g3.blank a1 a3)
    have hvb := hv_b (q := q) ht
    have e96 : M94 96 = N 96 := by rw [a4, up2_c (by decide)]
    rw [← a4] at rdq
    have b2 : aut tp r q = (3, M94 96) := by rw [nq.2, e96]; exact g4
    have ok := (okA_aut tp ho q).1
    rw [b2] at ok
    have ok0 : 0 ≤ M94 96 0 ∧ M94 96 0 ≤ 12 := ok.1
    refine AW.i2l dX9_isText_97 (by omega) ?_
    refine AW.ldc2 (z := 97) dX9_isText_98 kl_X9_218 (by decide +kernel) ?_
    refine AW.ldc2 (z := 122) dX9_isText_101 kl_X9_220 (by decide +kernel) ?_
    refine AW.callS3ip (C9_in Γ _ _ _ _ (by omega) (by decide) (by decide)) dX9_isText_104 mc_X9_76 (fun _ => rfl) ⟨Nat.le_of_ble_eq_true rfl, Nat.le_of_ble_eq_true rfl⟩ (Nat.le_of_ble_eq_true rfl) ?_
    refine AW.if_eq 164 dX9_isText_107 (by decide) (bI_r _) (fun c107 => ?_) (fun c107 => ?_)
    · have d107 := bI0.mp c107
      refine AW.aload_n dX9_isText_164 1 rfl rfl ?_
      refine AW.callV0ip (C9_hereS Γ M _ tp n q ht rdq a2 a6) dX9_isText_165 mc_X9_215 (show sh 94 = (0, 9, [some 95, some 96, some 97, none, none, none, some 98, some 99, some 100, none, none, none, none, some 101, none, none, none, some 102, none, some 103, some 104, none, some 105, some 106, some 107, some 108]) from rfl) (fun _ => rfl) ⟨Nat.le_of_ble_eq_true rfl, Nat.le_of_ble_eq_true rfl⟩ (Nat.le_of_ble_eq_true rfl) ?_
      refine AW.if_ne 175 dX9_isText_168 (by decide) (by omega) (fun c168 => ?_) (fun c168 => ?_)
      · refine AW.iconst dX9_isText_175 ?_
        exact AW.zret rfl dX9_isText_176 (by decide) ⟨q, a2, rdq, nq.1, a6, Or.inl ⟨rfl, by
            first
              | exact stk_bad b2 a2 a6 (by omega) (by omega) (by omega) (Or.inr (hv_lt (show hv tp n q ≠ 0 by omega)).1)
              | (refine Or.inr ⟨hqn, ?_⟩
                 rw [aut_next tp r q _ _ b2]
                 unfold stpA
                 rw [if_neg (by omega), if_pos (by omega), if_pos rfl, if_pos (by omega)])⟩⟩
      · refine AW.iconst dX9_isText_171 ?_
        refine AW.goto 176 dX9_isText_172 (by decide) ?_
        exact AW.zret rfl dX9_isText_176 (by decide) ⟨q, a2, rdq, nq.1, a6, Or.inr ⟨rfl, by have := hv_0 ht (show hv tp n q = 0 by omega); omega, by have h0 := hv_0 ht (show hv tp n q = 0 by omega); rw [show n = q by omega]; exact b2⟩⟩
    · have d107 := bI1.mp c107
      obtain ⟨hqn, hvq⟩ := hv_lt (show hv tp n q ≠ 0 by omega)
      refine AW.aload_n dX9_isText_110 1 rfl rfl ?_
      refine AW.getR dX9_isText_111 fl_X9_13 (show sh 94 = (0, 9, [some 95, some 96, some 97, none, none, none, some 98, some 99, some 100, none, none, none, none, some 101, none, none, none, some 102, none, some 103, some 104, none, some 105, some 106, some 107, some 108]) from rfl) rfl ?_
      refine AW.iconst dX9_isText_114 ?_
      refine AW.ialdN 0 dX9_isText_115 (show sh 96 = (1, 59, []) from rfl) rfl (by decide) (by decide) ?_
      refine AW.bipush (z := (12)) dX9_isText_116 (by decide) ?_
      refine AW.icmp_ge 164 dX9_isText_118 (by decide) (by omega) (by omega) (fun c118 => ?_) (fun c118 => ?_)
      · refine AW.aload_n dX9_isText_164 1 rfl rfl ?_
        refine AW.callV0ip (C9_hereS Γ M _ tp n q ht rdq a2 a6) dX9_isText_165 mc_X9_215 (show sh 94 = (0, 9, [some 95, some 96, some 97, none, none, none, some 98, some 99, some 100, none, none, none, none, some 101, none, none, none, some 102, none, some 103, some 104, none, some 105, some 106, some 107, some 108]) from rfl) (fun _ => rfl) ⟨Nat.le_of_ble_eq_true rfl, Nat.le_of_ble_eq_true rfl⟩ (Nat.le_of_ble_eq_true rfl) ?_
        refine AW.if_ne 175 dX9_isText_168 (by decide) (by omega) (fun c168 => ?_) (fun c168 => ?_)
        · refine AW.iconst dX9_isText_175 ?_
          exact AW.zret rfl dX9_isText_176 (by decide) ⟨q, a2, rdq, nq.1, a6, Or.inl ⟨rfl, by
              first
                | exact stk_bad b2 a2 a6 (by omega) (by omega) (by omega) (Or.inr (hv_lt (show hv tp n q ≠ 0 by omega)).1)
                | (refine Or.inr ⟨hqn, ?_⟩
                   rw [aut_next tp r q _ _ b2]
                   unfold stpA
                   rw [if_neg (by omega), if_pos (by omega), if_pos rfl, if_pos (by omega)])⟩⟩
        · refine AW.iconst dX9_isText_171 ?_
          refine AW.goto 176 dX9_isText_172 (by decide) ?_
          exact AW.zret rfl dX9_isText_176 (by decide) ⟨q, a2, rdq, nq.1, a6, Or.inr ⟨rfl, by have := hv_0 ht (show hv tp n q = 0 by omega); omega, by have h0 := hv_0 ht (show hv tp n q = 0 by omega); rw [show n = q by omega]; exact b2⟩⟩
      · refine AW.aload_n dX9_isText_121 1 rfl rfl ?_
        refine AW.getR dX9_isText_122 fl_X9_13 (show sh 94 = (0, 9, [some 95, some 96, some 97, none, none, none, some 98, some 99, some 100, none, none, none, none, some 101, none, none, none, some 102, none, some 103, some 104, none, some 105, some 106, some 107, some 108]) from rfl) rfl ?_
        refine AW.iconst dX9_isText_125 ?_
        refine AW.aload_n dX9_isText_126 1 rfl rfl ?_
        refine AW.getR dX9_isText_127 fl_X9_13 (show sh 94 = (0, 9, [some 95, some 96, some 97, none, none, none, some 98, some 99, some 100, none, none, none, none, some 101, none, none, none, some 102, none, some 103, some 104, none, some 105, some 106, some 107, some 108]) from rfl) rfl ?_
        refine AW.iconst dX9_isText_130 ?_
        refine AW.ialdN 0 dX9_isText_131 (show sh 96 = (1, 59, []) from rfl) rfl (by decide) (by decide) ?_
        refine AW.iadd dX9_isText_132 ?_
        refine AW.aload_n dX9_isText_133 1 rfl rfl ?_
        refine AW.callV0ip (C9_hereS Γ M _ tp n q ht rdq a2 a6) dX9_isText_134 mc_X9_215 (show sh 94 = (0, 9, [some 95, some 96, some 97, none, none, none, some 98, some 99, some 100, none, none, none, none, some 101, none, none, none, some 102, none, some 103, some 104, none, some 105, some 106, some 107, some 108]) from rfl) (fun _ => rfl) ⟨Nat.le_of_ble_eq_true rfl, Nat.le_of_ble_eq_true rfl⟩ (Nat.le_of_ble_eq_true rfl) ?_
        refine AW.bipush (z := (97)) dX9_isText_137 (by decide) ?_
        refine AW.isub dX9_isText_139 ?_
        refine AW.iastN (5 + (M94 96 0).toNat) dX9_isText_140 (show sh 96 = (1, 59, []) from rfl) (by omega) (by omega) (by decide) ?_
        refine AW.aload_n dX9_isText_141 1 rfl rfl ?_
        refine AW.getR dX9_isText_142 fl_X9_13 (show sh 94 = (0, 9, [some 95, some 96, some 97, none, none, none, some 98, some 99, some 100, none, none, none, none, some 101, none, none, none, some 102, none, some 103, some 104, none, some 105, some 106, some 107, some 108]) from rfl) rfl ?_
        refine AW.iconst dX9_isText_145 ?_
        refine AW.dup2 dX9_isText_146 rfl rfl ?_
        refine AW.ialdN 0 dX9_isText_147 (show sh 96 = (1, 59, []) from rfl) rfl (by decide) (by decide) ?_
        rw [up2_i (by omega)]
        refine AW.iconst dX9_isText_148 ?_
        refine AW.iadd dX9_isText_149 ?_
        refine AW.iastN 0 dX9_isText_150 (show sh 96 = (1, 59, []) from rfl) rfl (by decide) (by decide) ?_
        refine AW.aload_n dX9_isText_151 1 rfl rfl ?_
        refine AW.dup dX9_isText_152 rfl ?_
        refine AW.getI dX9_isText_153 fl_X9_212 (show sh 94 = (0, 9, [some 95, some 96, some 97, none, none, none, some 98, some 99, some 100, none, none, none, none, some 101, none, none, none, some 102, none, some 103, some 104, none, some 105, some 106, some 107, some 108]) from rfl) rfl ?_
        rw [up2_c (by decide), up2_c (by decide), rdq.2.2.1]
        refine AW.iconst dX9_isText_156 ?_
        refine AW.iadd dX9_isText_157 ?_
        refine AW.putI dX9_isText_158 fp_X9_212 (show sh 94 = (0, 9, [some 95, some 96, some 97, none, none, none, some 98, some 99, some 100, none, none, none, none, some 101, none, none, none, some 102, none, some 103, some 104, none, some 105, some 106, some 107, some 108]) from rfl) rfl ?_
        refine AW.goto 93 dX9_isText_161 (by decide) ?_
        refine AW.sub [0, 1] rfl ?_
        have nx : aut tp r (q + 1) = (3, sayR (M94 96) (hv tp n q - 97)) := by
          rw [aut_next tp r q _ _ b2]
          unfold stpA
          rw [if_neg (by omega), if_pos (by omega), if_pos rfl, if_neg (by omega), hvq]
        refine ih (q + 1) x _ (((rdq.row _ _).row _ _).mv (q + 1)) (by omega) (nq.1.next (by rw [nx]; show ¬ (3 : Int) = 4; decide)) ?_ (by omega)
        rw [up2_c (by decide), nx]
        unfold sayR
        rw [if_pos ⟨by omega, by omega⟩]
        rfl

set_option maxRecDepth 20000 in
theorem text_tail (Γ : GC) (M : Mm) (tp r : Nat → Int) (ho : OkR r) (n : Nat) (ht : tpOk tp n) (p : Nat) (x : Int) (N : Mm) (g0 : x = 0) (g1 : RD tp n M N p) (g2 : p < n) (g3 : nof tp r p) (h58 : tp p = 58) (wh : Int) (hwh : wh = 0 ∨ wh = 2) (g4 : aut tp r p = (wh, N 96)) : AW Γ uX9_isText 34 [(1, vi x), (0, rf Γ 94)] [] N (txP tp r n M) := by
  have hn := ht.1
  refine AW.iload_n dX9_isText_34 0 rfl rfl ?_
  refine AW.if_eq 83 dX9_isText_35 (by decide) (by omega) (fun c35 => ?_) (fun c35 => ?_)
  · refine AW.aload_n dX9_isText_83 1 rfl rfl ?_
    refine AW.dup dX9_isText_84 rfl ?_
    refine AW.getI dX9_isText_85 fl_X9_212 (show sh 94 = (0, 9, [some 95, some 96, some 97, none, none, none, some 98, some 99, some 100, none, none, none, none, some 101, none, none, none, some 102, none, some 103, some 104, none, some 105, some 106, some 107, some 108]) from rfl) rfl ?_
    rw [g1.2.2.1]
    refine AW.iconst dX9_isText_88 ?_
    refine AW.iadd dX9_isText_89 ?_
    refine AW.putI dX9_isText_90 fp_X9_212 (show sh 94 = (0, 9, [some 95, some 96, some 97, none, none, none, some 98, some 99, some 100, none, none, none, none, some 101, none, none, none, some 102, none, some 103, some 104, none, some 105, some 106, some 107, some 108]) from rfl) rfl ?_
    refine AW.sub [0, 1] rfl ?_
    have nx : aut tp r (p + 1) = (3, N 96) := by
      rw [aut_next tp r p _ _ g4]
      unfold stpA
      rw [if_neg (by omega), if_neg (by omega), if_neg (by omega), if_pos (by omega), if_pos (by omega)]
    refine text_loop3 Γ M tp r ho n ht 92 (p + 1) x _ (g1.mv (p + 1)) (by omega) (g3.next (by rw [nx]; show ¬ (3 : Int) = 4; decide)) ?_ (by omega)
    rw [up2_c (by decide)]; exact nx
  · exfalso; omega

set_option maxRecDepth 20000 in
theorem text_loop1 (Γ : GC) (M : Mm) (tp r : Nat → Int) (ho : OkR r) (n : Nat) (ht : tpOk tp n) : ∀ (fu p : Nat) (x wh : Int) (N : Mm), x = 1 → RD tp n M N p → p ≤ n → nof tp r p → aut tp r p = (wh, N 96) → preW tp n p wh → 90 - p < fu → AW Γ uX9_isText 34 [(1, vi x), (0, rf Γ 94)] [] N (txP tp r n M) := by
  have hn := ht.1
  intro fu
  induction fu with
  | zero => intro p x wh N g0 g1 g2 g3 g4 g5 gm; omega
  | succ fu ih =>
    intro p x wh N g0 g1 g2 g3 g4 g5 gm
    have hok := okA_aut tp ho p
    rw [g4] at hok
    have hok1 := hok.1.2.1
    have hok2 := hok.2.2.1
    have hok3 := hok.2.2.2.1
    dsimp only at hok1 hok2 hok3
    have hw5 : N 96 1 < 6 := by unfold preW at g5; omega
    refine AW.iload_n dX9_isText_34 0 rfl rfl ?_
    refine AW.if_eq 83 dX9_isText_35 (by decide) (by omega) (fun c35 => ?_) (fun c35 => ?_)
    · exfalso; omega
    · refine AW.aload_n dX9_isText_38 1 rfl rfl ?_
      refine AW.callV0i (C9_word Γ M N tp r n (N 96 1).toNat p ht (by omega) g1 g2 g3 (by omega) wh g4 g5) dX9_isText_39 mc_X9_222 (show sh 94 = (0, 9, [some 95, some 96, some 97, none, none, none, some 98, some 99, some 100, none, none, none, none, some 101, none, none, none, some 102, none, some 103, some 104, none, some 105, some 106, some 107, some 108]) from rfl) (fun _ => rfl) ⟨Nat.le_of_ble_eq_true rfl, Nat.le_of_ble_eq_true rfl⟩ (Nat.le_of_ble_eq_true rfl) (fun z39 M39 h39 => ?_)
      obtain ⟨q, ⟨a2, apq⟩, rdq, nq, a6, h39⟩ := h39
      have hvb := hv_b (q := q) ht
      refine AW.if_ne 47 dX9_isText_42 (by decide) (by omega) (fun c42 => ?_) (fun c42 => ?_)
      · obtain ⟨y1, y2, y3, y4⟩ := h39.resolve_left (fun y => by omega)
        have hvq : hv tp n q = tp q := by unfold hv; rw [if_pos y2]
        have hpq : True := trivial
        refine AW.aload_n dX9_isText_47 1 rfl rfl ?_
        refine AW.callV0ip (C9_hereS Γ M _ tp n q ht rdq a2 a6) dX9_isText_48 mc_X9_215 (show sh 94 = (0, 9, [some 95, some 96, some 97, none, none, none, some 98, some 99, some 100, none, none, none, none, some 101, none, none, none, some 102, none, some 103, some 104, none, some 105, some 106, some 107, some 108]) from rfl) (fun _ => rfl) ⟨Nat.le_of_ble_eq_true rfl, Nat.le_of_ble_eq_true rfl⟩ (Nat.le_of_ble_eq_true rfl) ?_
        refine AW.bipush (z := (44)) dX9_isText_51 (by decide) ?_
        refine AW.icmp_ne 60 dX9_isText_53 (by decide) (by omega) (by omega) (fun c53 => ?_) (fun c53 => ?_)
        · refine AW.iconst dX9_isText_60 ?_
          refine AW.top (fun mo emo => ?_)
          refine AW.istore_n [(1, vi mo), (0, rf Γ 94)] dX9_isText_61 rfl (by decide) rfl ?_
          refine AW.aload_n dX9_isText_62 1 rfl rfl ?_
          refine AW.dup dX9_isText_63 rfl ?_
          refine AW.getI dX9_isText_64 fl_X9_212 (show sh 94 = (0, 9, [some 95, some 96, some 97, none, none, none, some 98, some 99, some 100, none, none, none, none, some 101, none, none, none, some 102, none, some 103, some 104, none, some 105, some 106, some 107, some 108]) from rfl) rfl ?_
          rw [rdq.2.2.1]
          refine AW.iload_n dX9_isText_67 0 rfl rfl ?_
          refine AW.if_eq 75 dX9_isText_68 (by decide) (by omega) (fun c68 => ?_) (fun c68 => ?_)
          · refine AW.iconst dX9_isText_75 ?_
            refine AW.iadd dX9_isText_76 ?_
            refine AW.putI dX9_isText_77 fp_X9_212 (show sh 94 = (0, 9, [some 95, some 96, some 97, none, none, none, some 98, some 99, some 100, none, none, none, none, some 101, none, none, none, some 102, none, some 103, some 104, none, some 105, some 106, some 107, some 108]) from rfl) rfl ?_
            refine AW.goto 34 dX9_isText_80 (by decide) ?_
            refine AW.sub [0, 1] rfl ?_
            first
              | (exfalso; omega)
              | (rw [show (q : Int) + 0 = ((q : Nat) : Int) by omega, up2_id M39 94 15 q rdq.2.2.1]
                 exact text_tail Γ M tp r ho n ht q mo M39 (by omega) rdq y2 nq (by omega) 2 (Or.inr rfl) y3)
              | (have nx : aut tp r (q + 1) = (1, M39 96) := by
                   rw [aut_next tp r q _ _ y3]
                   unfold stpA
                   rw [if_neg (by omega), if_neg (by omega), if_pos (by omega), if_pos (by omega)]
                 refine ih (q + 1) mo 1 _ (by omega) (rdq.mv (q + 1)) (by omega) (nq.next (by rw [nx]; show ¬ (1 : Int) = 4; decide)) ?_ (Or.inl rfl) ?_
                 · rw [up2_c (by decide)]; exact nx
                 · omega)
          · refine AW.iconst dX9_isText_71 ?_
            refine AW.goto 76 dX9_isText_72 (by decide) ?_
            refine AW.iadd dX9_isText_76 ?_
            refine AW.putI dX9_isText_77 fp_X9_212 (show sh 94 = (0, 9, [some 95, some 96, some 97, none, none, none, some 98, some 99, some 100, none, none, none, none, some 101, none, none, none, some 102, none, some 103, some 104, none, some 105, some 106, some 107, some 108]) from rfl) rfl ?_
            refine AW.goto 34 dX9_isText_80 (by decide) ?_
            refine AW.sub [0, 1] rfl ?_
            first
              | (exfalso; omega)
              | (rw [show (q : Int) + 0 = ((q : Nat) : Int) by omega, up2_id M39 94 15 q rdq.2.2.1]
                 exact text_tail Γ M tp r ho n ht q mo M39 (by omega) rdq y2 nq (by omega) 2 (Or.inr rfl) y3)
              | (have nx : aut tp r (q + 1) = (1, M39 96) := by
                   rw [aut_next tp r q _ _ y3]
                   unfold stpA
                   rw [if_neg (by omega), if_neg (by omega), if_pos (by omega), if_pos (by omega)]
                 refine ih (q + 1) mo 1 _ (by omega) (rdq.mv (q + 1)) (by omega) (nq.next (by rw [nx]; show ¬ (1 : Int) = 4; decide)) ?_ (Or.inl rfl) ?_
                 · rw [up2_c (by decide)]; exact nx
                 · omega)
        · refine AW.iconst dX9_isText_56 ?_
          refine AW.goto 61 dX9_isText_57 (by decide) ?_
          refine AW.top (fun mo emo => ?_)
          refine AW.istore_n [(1, vi mo), (0, rf Γ 94)] dX9_isText_61 rfl (by decide) rfl ?_
          refine AW.aload_n dX9_isText_62 1 rfl rfl ?_
          refine AW.dup dX9_isText_63 rfl ?_
          refine AW.getI dX9_isText_64 fl_X9_212 (show sh 94 = (0, 9, [some 95, some 96, some 97, none, none, none, some 98, some 99, some 100, none, none, none, none, some 101, none, none, none, some 102, none, some 103, some 104, none, some 105, some 106, some 107, some 108]) from rfl) rfl ?_
          rw [rdq.2.2.1]
          refine AW.iload_n dX9_isText_67 0 rfl rfl ?_
          refine AW.if_eq 75 dX9_isText_68 (by decide) (by omega) (fun c68 => ?_) (fun c68 => ?_)
          · refine AW.iconst dX9_isText_75 ?_
            refine AW.iadd dX9_isText_76 ?_
            refine AW.putI dX9_isText_77 fp_X9_212 (show sh 94 = (0, 9, [some 95, some 96, some 97, none, none, none, some 98, some 99, some 100, none, none, none, none, some 101, none, none, none, some 102, none, some 103, some 104, none, some 105, some 106, some 107, some 108]) from rfl) rfl ?_
            refine AW.goto 34 dX9_isText_80 (by decide) ?_
            refine AW.sub [0, 1] rfl ?_
            first
              | (exfalso; omega)
              | (rw [show (q : Int) + 0 = ((q : Nat) : Int) by omega, up2_id M39 94 15 q rdq.2.2.1]
                 exact text_tail Γ M tp r ho n ht q mo M39 (by omega) rdq y2 nq (by omega) 2 (Or.inr rfl) y3)
              | (have nx : aut tp r (q + 1) = (1, M39 96) := by
                   rw [aut_next tp r q _ _ y3]
                   unfold stpA
                   rw [if_neg (by omega), if_neg (by omega), if_pos (by omega), if_pos (by omega)]
                 refine ih (q + 1) mo 1 _ (by omega) (rdq.mv (q + 1)) (by omega) (nq.next (by rw [nx]; show ¬ (1 : Int) = 4; decide)) ?_ (Or.inl rfl) ?_
                 · rw [up2_c (by decide)]; exact nx
                 · omega)
          · refine AW.iconst dX9_isText_71 ?_
            refine AW.goto 76 dX9_isText_72 (by decide) ?_
            refine AW.iadd dX9_isText_76 ?_
            refine AW.putI dX9_isText_77 fp_X9_212 (show sh 94 = (0, 9, [some 95, some 96, some 97, none, none, none, some 98, some 99, some 100, none, none, none, none, some 101, none, none, none, some 102, none, some 103, some 104, none, some 105, some 106, some 107, some 108]) from rfl) rfl ?_
            refine AW.goto 34 dX9_isText_80 (by decide) ?_
            refine AW.sub [0, 1] rfl ?_
            first
              | (exfalso; omega)
              | (rw [show (q : Int) + 0 = ((q : Nat) : Int) by omega, up2_id M39 94 15 q rdq.2.2.1]
                 exact text_tail Γ M tp r ho n ht q mo M39 (by omega) rdq y2 nq (by omega) 2 (Or.inr rfl) y3)
              | (have nx : aut tp r (q + 1) = (1, M39 96) := by
                   rw [aut_next tp r q _ _ y3]
                   unfold stpA
                   rw [if_neg (by omega), if_neg (by omega), if_pos (by omega), if_pos (by omega)]
                 refine ih (q + 1) mo 1 _ (by omega) (rdq.mv (q + 1)) (by omega) (nq.next (by rw [nx]; show ¬ (1 : Int) = 4; decide)) ?_ (Or.inl rfl) ?_
                 · rw [up2_c (by decide)]; exact nx
                 · omega)
      · refine AW.iconst dX9_isText_45 ?_
        exact AW.zret rfl dX9_isText_46 (by decide) ⟨q, a2, rdq, nq, a6, Or.inl ⟨rfl, (h39.resolve_right (fun y => by omega)).2⟩⟩

set_option maxRecDepth 20000 in
theorem C9_isText (Γ : GC) (M : Mm) (tp : Nat → Int) (n : Nat) (ht : tpOk tp n) (ho : OkR (M 96)) (t1 : M 101 = tp) (t2 : M 94 14 = n) : Ct Γ uX9_isText [rf Γ 94] M (txP tp (M 96) n M) := by
  refine Ct.of (by decide) (Nat.le_of_ble_eq_true rfl) ?_
  show AW Γ uX9_isText 0 [(0, rf Γ 94)] [] M _
  have hn := ht.1
  refine AW.aload_n dX9_isText_0 0 rfl rfl ?_
  refine AW.iconst dX9_isText_1 ?_
  refine AW.putI dX9_isText_2 fp_X9_212 (show sh 94 = (0, 9, [some 95, some 96, some 97, none, none, none, some 98, some 99, some 100, none, none, none, none, some 101, none, none, none, some 102, none, some 103, some 104, none, some 105, some 106, some 107, some 108]) from rfl) rfl ?_
  refine AW.aload_n dX9_isText_5 0 rfl rfl ?_
  refine AW.getR dX9_isText_6 fl_X9_13 (show sh 94 = (0, 9, [some 95, some 96, some 97, none, none, none, some 98, some 99, some 100, none, none, none, none, some 101, none, none, none, some 102, none, some 103, some 104, none, some 105, some 106, some 107, some 108]) from rfl) rfl ?_
  refine AW.iconst dX9_isText_9 ?_
  refine AW.iconst dX9_isText_10 ?_
  refine AW.iastN 1 dX9_isText_11 (show sh 96 = (1, 59, []) from rfl) rfl (by decide) (by decide) ?_
  refine AW.aload_n dX9_isText_12 0 rfl rfl ?_
  refine AW.getR dX9_isText_13 fl_X9_13 (show sh 94 = (0, 9, [some 95, some 96, some 97, none, none, none, some 98, some 99, some 100, none, none, none, none, some 101, none, none, none, some 102, none, some 103, some 104, none, some 105, some 106, some 107, some 108]) from rfl) rfl ?_
  refine AW.iconst dX9_isText_16 ?_
  refine AW.iconst dX9_isText_17 ?_
  refine AW.iastN 0 dX9_isText_18 (show sh 96 = (1, 59, []) from rfl) rfl (by decide) (by decide) ?_
  obtain ⟨N, hN⟩ : ∃ z : Mm, z = up2 (up2 (up2 M 94 15 0) 96 1 0) 96 0 0 := ⟨_, rfl⟩
  rw [← hN]
  have g1 : RD tp n M N 0 := by
    have h0 : RD tp n M (up2 M 94 15 0) 0 := ⟨by rw [up2_c (by decide)]; exact t1, by rw [up2_i (by decide)]; exact t2, up2_s, fun j hj => up2_i hj, fun a q1 q2 => up2_c q1⟩
    rw [hN]
    exact (h0.row _ _).row _ _
  have g3 := nof_0 tp (M 96)
  have g4 : aut tp (M 96) 0 = (0, N 96) := by rw [hN]; rfl
  refine AW.aload_n dX9_isText_19 0 rfl rfl ?_
  refine AW.callV0i (C9_here Γ M N tp n 0 ht g1 (by omega)) dX9_isText_20 mc_X9_215 (show sh 94 = (0, 9, [some 95, some 96, some 97, none, none, none, some 98, some 99, some 100, none, none, none, none, some 101, none, none, none, some 102, none, some 103, some 104, none, some 105, some 106, some 107, some 108]) from rfl) (fun _ => rfl) ⟨Nat.le_of_ble_eq_true rfl, Nat.le_of_ble_eq_true rfl⟩ (Nat.le_of_ble_eq_true rfl) (fun z20 M20 h20 => ?_)
  obtain ⟨q, a1, a2, a3, a4, a5, a6⟩ := h20
  have rdq := g1.mv q
  have nq := (g3.blank a1 a3)
  have hvb := hv_b (q := q) ht
  have e96 : M20 96 = N 96 := by rw [a4, up2_c (by decide)]
  rw [← a4] at rdq
  refine AW.bipush (z := (58)) dX9_isText_23 (by decide) ?_
  refine AW.icmp_eq 32 dX9_isText_25 (by decide) (by omega) (by omega) (fun c25 => ?_) (fun c25 => ?_)
  · refine AW.iconst dX9_isText_32 ?_
    refine AW.top (fun mo emo => ?_)
    refine AW.istore_n [(1, vi mo), (0, rf Γ 94)] dX9_isText_33 rfl (by decide) rfl ?_
    refine AW.sub [0, 1] rfl ?_
    have hl := hv_lt (show hv tp n q ≠ 0 by omega)
    exact text_tail Γ M tp (M 96) ho n ht q mo M20 (by omega) rdq hl.1 nq.1 (by omega) 0 (Or.inl rfl) (by rw [nq.2, e96]; exact g4)
  · refine AW.iconst dX9_isText_28 ?_
    refine AW.goto 33 dX9_isText_29 (by decide) ?_
    refine AW.top (fun mo emo => ?_)
    refine AW.istore_n [(1, vi mo), (0, rf Γ 94)] dX9_isText_33 rfl (by decide) rfl ?_
    refine AW.sub [0, 1] rfl ?_
    exact text_loop1 Γ M tp (M 96) ho n ht 92 q mo 0 M20 (by omega) rdq a2 nq.1 (by rw [nq.2, e96]; exact g4) (Or.inr ⟨rfl, fun hq => ⟨a6 hq, fun h58 => c25 (by rw [a5]; unfold hv; rw [if_pos hq]; exact h58)⟩⟩) (by omega)

set_option maxRecDepth 20000 in
theorem read9_loop (Γ : GC) (M : Mm) (en we : Int) (Q : Int → Mm → Prop) (hx : ∀ x : Int, x = 0 + (59 : Nat) → AW Γ uX9_read 63 [(3, vi x), (2, vi en), (1, vi we), (0, rf Γ 94)] [] (upM M 96 (va_cpy (M 97) (M 96) 0 0 59)) Q) : ∀ (n i : Nat) (x : Int), x = 0 + i → i ≤ 59 → 59 - i < n → AW Γ uX9_read 39 [(3, vi x), (2, vi en), (1, vi we), (0, rf Γ 94)] [] (upM M 96 (va_cpy (M 97) (M 96) 0 0 i)) Q := by
  intro n
  induction n with
  | zero => intro i x g0 g1 gm; omega
  | succ n ih =>
    intro i x g0 g1 gm
    refine AW.iload_n dX9_read_39 0 rfl rfl ?_
    refine AW.bipush (z := (59)) dX9_read_40 (by decide) ?_
    refine AW.icmp_ge 63 dX9_read_42 (by decide) (by omega) (by omega) (fun c42 => ?_) (fun c42 => ?_)
    · refine AW.sub [0, 1, 2, 3] rfl ?_
      rw [show i = 59 by omega]
      exact hx x (by omega)
    · refine AW.aload_n dX9_read_45 3 rfl rfl ?_
      refine AW.getR dX9_read_46 fl_X9_13 (show sh 94 = (0, 9, [some 95, some 96, some 97, none, none, none, some 98, some 99, some 100, none, none, none, none, some 101, none, none, none, some 102, none, some 103, some 104, none, some 105, some 106, some 107, some 108]) from rfl) rfl ?_
      refine AW.iload_n dX9_read_49 0 rfl rfl ?_
      refine AW.aload_n dX9_read_50 3 rfl rfl ?_
      refine AW.getR dX9_read_51 fl_X9_16 (show sh 94 = (0, 9, [some 95, some 96, some 97, none, none, none, some 98, some 99, some 100, none, none, none, none, some 101, none, none, none, some 102, none, some 103, some 104, none, some 105, some 106, some 107, some 108]) from rfl) rfl ?_
      refine AW.iload_n dX9_read_54 0 rfl rfl ?_
      refine AW.ialdN i dX9_read_55 (show sh 97 = (1, 59, []) from rfl) (by omega) (by omega) (by decide) ?_
      rw [upM_n (by decide)]
      refine AW.iastN i dX9_read_56 (show sh 96 = (1, 59, []) from rfl) (by omega) (by omega) (by decide) ?_
      obtain ⟨x57, ex57⟩ : ∃ z : Int, x + 1 = z := ⟨_, rfl⟩
      refine AW.iinc [(3, vi x57), (2, vi en), (1, vi we), (0, rf Γ 94)] dX9_read_57 0 rfl (by decide) x57 ex57 rfl ?_
      refine AW.goto 39 dX9_read_60 (by decide) ?_
      refine AW.sub [0, 1, 2, 3] rfl ?_
      refine AW.toM (show _ = (upM M 96 (va_cpy (M 97) (M 96) 0 0 (i + 1))) from ?_) (ih (i + 1) x57 (by omega) (by omega) (by omega))
      rw [upM_up2, ← cpy_step]
      simp only [Nat.zero_add]

set_option maxRecDepth 20000 in
theorem C9_read (Γ : GC) (M : Mm) (ho : OkR (M 96)) (hu : 0 ≤ M 94 18 ∧ M 94 18 ≤ 6) (hn0 : 0 ≤ M 94 14 ∧ M 94 14 ≤ 90) (htp : ∀ j : Nat, (j : Int) < M 94 14 → 32 ≤ M 101 j ∧ M 101 j ≤ 126) : Ct Γ uX9_read [rf Γ 94] M (fun z M' => ∃ f : Int, flt (M 101) (M 96) (M 94 14).toNat f ∧ M' 94 14 = 0 ∧ ((0 ≤ f ∧ z = -20 - f ∧ eq59 (M' 96) (M 96) ∧ M' 102 = M 102 ∧ M' 94 18 = M 94 18) ∨ (f < 0 ∧ z = (aut (M 101) (M 96) (M 94 14).toNat).2 0 ∧ M' 96 = (aut (M 101) (M 96) (M 94 14).toNat).2 ∧ M' 102 = ntA (M 102) (va_cpy (M 96) (M 97) 0 0 59) (M 94 18) ∧ M' 94 18 = nxU (M 94 18))) ∧ (∀ j : Nat, j ≠ 14 → j ≠ 15 → j ≠ 18 → M' 94 j = M 94 j) ∧ ∀ a : Nat, a ≠ 94 → a ≠ 96 → a ≠ 97 → a ≠ 102 → M' a = M a) := by
  refine Ct.of (by decide) (Nat.le_of_ble_eq_true rfl) ?_
  show AW Γ uX9_read 0 [(0, rf Γ 94)] [] M _
  have ht : tpOk (M 101) (M 94 14).toNat := ⟨by omega, fun j hj => htp j (by omega)⟩
  refine AW.aload_n dX9_read_0 0 rfl rfl ?_
  refine AW.callV0v (C9_holds Γ M) dX9_read_1 mc_X9_111 (show sh 94 = (0, 9, [some 95, some 96, some 97, none, none, none, some 98, some 99, some 100, none, none, none, none, some 101, none, none, none, some 102, none, some 103, some 104, none, some 105, some 106, some 107, some 108]) from rfl) (fun _ => rfl) ⟨Nat.le_of_ble_eq_true rfl, Nat.le_of_ble_eq_true rfl⟩ (Nat.le_of_ble_eq_true rfl) (fun z1 M1 h1 => ?_)
  have n96 : M1 96 = M 96 := by rw [h1, upM_n (by decide)]
  have n97 : M1 97 = va_cpy (M 96) (M 97) 0 0 59 := by rw [h1, upM_s]
  have nE : ∀ a : Nat, a ≠ 97 → M1 a = M a := fun a ha => by rw [h1, upM_n ha]
  refine AW.aload_n dX9_read_4 0 rfl rfl ?_
  refine AW.callV0i (C9_isText Γ M1 (M 101) (M 94 14).toNat ht (by rw [n96]; exact ho) (nE 101 (by decide)) (by rw [nE 94 (by decide)]; omega)) dX9_read_5 mc_X9_226 (show sh 94 = (0, 9, [some 95, some 96, some 97, none, none, none, some 98, some 99, some 100, none, none, none, none, some 101, none, none, none, some 102, none, some 103, some 104, none, some 105, some 106, some 107, some 108]) from rfl) (fun _ => rfl) ⟨Nat.le_of_ble_eq_true rfl, Nat.le_of_ble_eq_true rfl⟩ (Nat.le_of_ble_eq_true rfl) (fun z5 M5 h5 => ?_)
  rw [n96] at h5
  obtain ⟨q, a2, rdq, nq, a6, h5⟩ := h5
  have hvb := hv_b (q := q) ht
  refine AW.top (fun we ewe => ?_)
  refine AW.istore_n [(1, vi we), (0, rf Γ 94)] dX9_read_8 rfl (by decide) rfl ?_
  refine AW.aload_n dX9_read_9 1 rfl rfl ?_
  refine AW.callV0ip (C9_hereS Γ M1 _ (M 101) (M 94 14).toNat q ht rdq a2 a6) dX9_read_10 mc_X9_215 (show sh 94 = (0, 9, [some 95, some 96, some 97, none, none, none, some 98, some 99, some 100, none, none, none, none, some 101, none, none, none, some 102, none, some 103, some 104, none, some 105, some 106, some 107, some 108]) from rfl) (fun _ => rfl) ⟨Nat.le_of_ble_eq_true rfl, Nat.le_of_ble_eq_true rfl⟩ (Nat.le_of_ble_eq_true rfl) ?_
  refine AW.if_ne 23 dX9_read_13 (by decide) (by omega) (fun c13 => ?_) (fun c13 => ?_)
  · refine AW.aload_n dX9_read_23 1 rfl rfl ?_
    refine AW.getI dX9_read_24 fl_X9_212 (show sh 94 = (0, 9, [some 95, some 96, some 97, none, none, none, some 98, some 99, some 100, none, none, none, none, some 101, none, none, none, some 102, none, some 103, some 104, none, some 105, some 106, some 107, some 108]) from rfl) rfl ?_
    refine AW.top (fun en een => ?_)
    refine AW.istore_n [(2, vi en), (1, vi we), (0, rf Γ 94)] dX9_read_27 rfl (by decide) rfl ?_
    have hen : en = q := by first | (rw [een, rdq.2.2.1]; done) | (rw [een, rdq.2.1]; omega)
    obtain ⟨N, hN⟩ : ∃ z : Mm, z = up2 M5 94 14 0 := ⟨_, rfl⟩
    refine AW.aload_n dX9_read_28 2 rfl rfl ?_
    refine AW.iconst dX9_read_29 ?_
    refine AW.putI dX9_read_30 fp_X9_209 (show sh 94 = (0, 9, [some 95, some 96, some 97, none, none, none, some 98, some 99, some 100, none, none, none, none, some 101, none, none, none, some 102, none, some 103, some 104, none, some 105, some 106, some 107, some 108]) from rfl) rfl ?_
    rw [← hN]
    have f94 : ∀ j : Nat, j ≠ 14 → j ≠ 15 → N 94 j = M 94 j := fun j j1 j2 => by rw [hN, up2_i j1, rdq.2.2.2.1 j j2, nE 94 (by decide)]
    have fO : ∀ a : Nat, a ≠ 94 → a ≠ 96 → a ≠ 97 → N a = M a := fun a b1 b2 b3 => by rw [hN, up2_c b1, rdq.2.2.2.2 a b1 b2, nE a b3]
    have f97 : N 97 = va_cpy (M 96) (M 97) 0 0 59 := by rw [hN, up2_c (by decide), rdq.2.2.2.2 97 (by decide) (by decide), n97]
    refine AW.iload_n dX9_read_33 1 rfl rfl ?_
    refine AW.if_ne 68 dX9_read_34 (by decide) (by omega) (fun c34 => ?_) (fun c34 => ?_)
    · refine AW.aload_n dX9_read_68 2 rfl rfl ?_
      refine AW.callV0v (C9_notes Γ N (by rw [f94 18 (by decide) (by decide)]; exact hu)) dX9_read_69 mc_X9_108 (show sh 94 = (0, 9, [some 95, some 96, some 97, none, none, none, some 98, some 99, some 100, none, none, none, none, some 101, none, none, none, some 102, none, some 103, some 104, none, some 105, some 106, some 107, some 108]) from rfl) (fun _ => rfl) ⟨Nat.le_of_ble_eq_true rfl, Nat.le_of_ble_eq_true rfl⟩ (Nat.le_of_ble_eq_true rfl) (fun z69 M69 h69 => ?_)
      obtain ⟨y1, y2, y3⟩ := h5.resolve_left (fun y => by omega)
      obtain ⟨k1, k2, k3, k4⟩ := h69
      have k96 : M69 96 = M5 96 := by rw [k4 96 (by decide) (by decide), hN, up2_c (by decide)]
      refine AW.aload_n dX9_read_72 2 rfl rfl ?_
      refine AW.getR dX9_read_73 fl_X9_13 (show sh 94 = (0, 9, [some 95, some 96, some 97, none, none, none, some 98, some 99, some 100, none, none, none, none, some 101, none, none, none, some 102, none, some 103, some 104, none, some 105, some 106, some 107, some 108]) from rfl) rfl ?_
      refine AW.iconst dX9_read_76 ?_
      refine AW.ialdN 0 dX9_read_77 (show sh 96 = (1, 59, []) from rfl) rfl (by decide) (by decide) ?_
      rw [k96]
      exact AW.iret rfl dX9_read_78 ⟨-1, Or.inr (Or.inr ⟨y2 ▸ nq, by rw [y3], rfl⟩), by rw [k3 14 (by decide), hN, up2_s], Or.inr ⟨by decide, by rw [y3], by rw [k96, y3], by rw [k1, f97, fO 102 (by decide) (by decide) (by decide), f94 18 (by decide) (by decide)], by rw [k2, f94 18 (by decide) (by decide)]⟩, fun j b1 b2 b3 => by rw [k3 j b3, f94 j b1 b2], fun a b1 b2 b3 b4 => by rw [k4 a b1 b4, fO a b1 b2 b3]⟩
    · refine AW.iconst dX9_read_37 ?_
      refine AW.top (fun x38 ex38 => ?_)
      refine AW.istore_n [(3, vi x38), (2, vi en), (1, vi we), (0, rf Γ 94)] dX9_read_38 rfl (by decide) rfl ?_
      refine AW.sub [0, 1, 2, 3] rfl ?_
      refine AW.toM (cpy_zero N 96 (N 97) 0 0).symm (read9_loop Γ N en we _ (fun x hx => ?_) 60 0 x38 (by omega) (by omega) (by omega))
      refine AW.bipush (z := (-20)) dX9_read_63 (by decide) ?_
      refine AW.iload_n dX9_read_65 1 rfl rfl ?_
      refine AW.isub dX9_read_66 ?_
      exact AW.iret rfl dX9_read_67 ⟨q, (by
              rcases h5 with ⟨y1, y2⟩ | ⟨y1, y2, y3⟩
              · rcases y2 with ⟨e1, e2⟩ | ⟨e1, e2⟩
                · exact Or.inr (Or.inl ⟨e1 ▸ nq, e2, by omega⟩)
                · exact Or.inl ⟨q, e1, rfl, nq, e2⟩
              · omega), by rw [upM_n (by decide), hN, up2_s], Or.inl ⟨by omega, by omega, by rw [upM_s, f97]; exact fun j hj => by rw [cpy0 hj, cpy0 hj], by rw [upM_n (by decide), fO 102 (by decide) (by decide) (by decide)], by rw [upM_n (by decide), f94 18 (by decide) (by decide)]⟩, fun j b1 b2 b3 => by rw [upM_n (by decide), f94 j b1 b2], fun a b1 b2 b3 b4 => by rw [upM_n b2, fO a b1 b2 b3]⟩
  · have hq0 := hv_0 ht (show hv (M 101) (M 94 14).toNat q = 0 by omega)
    refine AW.aload_n dX9_read_16 1 rfl rfl ?_
    refine AW.getI dX9_read_17 fl_X9_209 (show sh 94 = (0, 9, [some 95, some 96, some 97, none, none, none, some 98, some 99, some 100, none, none, none, none, some 101, none, none, none, some 102, none, some 103, some 104, none, some 105, some 106, some 107, some 108]) from rfl) rfl ?_
    refine AW.goto 27 dX9_read_20 (by decide) ?_
    refine AW.top (fun en een => ?_)
    refine AW.istore_n [(2, vi en), (1, vi we), (0, rf Γ 94)] dX9_read_27 rfl (by decide) rfl ?_
    have hen : en = q := by first | (rw [een, rdq.2.2.1]; done) | (rw [een, rdq.2.1]; omega)
    obtain ⟨N, hN⟩ : ∃ z : Mm, z = up2 M5 94 14 0 := ⟨_, rfl⟩
    refine AW.aload_n dX9_read_28 2 rfl rfl ?_
    refine AW.iconst dX9_read_29 ?_
    refine AW.putI dX9_read_30 fp_X9_209 (show sh 94 = (0, 9, [some 95, some 96, some 97, none, none, none, some 98, some 99, some 100, none, none, none, none, some 101, none, none, none, some 102, none, some 103, some 104, none, some 105, some 106, some 107, some 108]) from rfl) rfl ?_
    rw [← hN]
    have f94 : ∀ j : Nat, j ≠ 14 → j ≠ 15 → N 94 j = M 94 j := fun j j1 j2 => by rw [hN, up2_i j1, rdq.2.2.2.1 j j2, nE 94 (by decide)]
    have fO : ∀ a : Nat, a ≠ 94 → a ≠ 96 → a ≠ 97 → N a = M a := fun a b1 b2 b3 => by rw [hN, up2_c b1, rdq.2.2.2.2 a b1 b2, nE a b3]
    have f97 : N 97 = va_cpy (M 96) (M 97) 0 0 59 := by rw [hN, up2_c (by decide), rdq.2.2.2.2 97 (by decide) (by decide), n97]
    refine AW.iload_n dX9_read_33 1 rfl rfl ?_
    refine AW.if_ne 68 dX9_read_34 (by decide) (by omega) (fun c34 => ?_) (fun c34 => ?_)
    · refine AW.aload_n dX9_read_68 2 rfl rfl ?_
      refine AW.callV0v (C9_notes Γ N (by rw [f94 18 (by decide) (by decide)]; exact hu)) dX9_read_69 mc_X9_108 (show sh 94 = (0, 9, [some 95, some 96, some 97, none, none, none, some 98, some 99, some 100, none, none, none, none, some 101, none, none, none, some 102, none, some 103, some 104, none, some 105, some 106, some 107, some 108]) from rfl) (fun _ => rfl) ⟨Nat.le_of_ble_eq_true rfl, Nat.le_of_ble_eq_true rfl⟩ (Nat.le_of_ble_eq_true rfl) (fun z69 M69 h69 => ?_)
      obtain ⟨y1, y2, y3⟩ := h5.resolve_left (fun y => by omega)
      obtain ⟨k1, k2, k3, k4⟩ := h69
      have k96 : M69 96 = M5 96 := by rw [k4 96 (by decide) (by decide), hN, up2_c (by decide)]
      refine AW.aload_n dX9_read_72 2 rfl rfl ?_
      refine AW.getR dX9_read_73 fl_X9_13 (show sh 94 = (0, 9, [some 95, some 96, some 97, none, none, none, some 98, some 99, some 100, none, none, none, none, some 101, none, none, none, some 102, none, some 103, some 104, none, some 105, some 106, some 107, some 108]) from rfl) rfl ?_
      refine AW.iconst dX9_read_76 ?_
      refine AW.ialdN 0 dX9_read_77 (show sh 96 = (1, 59, []) from rfl) rfl (by decide) (by decide) ?_
      rw [k96]
      exact AW.iret rfl dX9_read_78 ⟨-1, Or.inr (Or.inr ⟨y2 ▸ nq, by rw [y3], rfl⟩), by rw [k3 14 (by decide), hN, up2_s], Or.inr ⟨by decide, by rw [y3], by rw [k96, y3], by rw [k1, f97, fO 102 (by decide) (by decide) (by decide), f94 18 (by decide) (by decide)], by rw [k2, f94 18 (by decide) (by decide)]⟩, fun j b1 b2 b3 => by rw [k3 j b3, f94 j b1 b2], fun a b1 b2 b3 b4 => by rw [k4 a b1 b4, fO a b1 b2 b3]⟩
    · refine AW.iconst dX9_read_37 ?_
      refine AW.top (fun x38 ex38 => ?_)
      refine AW.istore_n [(3, vi x38), (2, vi en), (1, vi we), (0, rf Γ 94)] dX9_read_38 rfl (by decide) rfl ?_
      refine AW.sub [0, 1, 2, 3] rfl ?_
      refine AW.toM (cpy_zero N 96 (N 97) 0 0).symm (read9_loop Γ N en we _ (fun x hx => ?_) 60 0 x38 (by omega) (by omega) (by omega))
      refine AW.bipush (z := (-20)) dX9_read_63 (by decide) ?_
      refine AW.iload_n dX9_read_65 1 rfl rfl ?_
      refine AW.isub dX9_read_66 ?_
      exact AW.iret rfl dX9_read_67 ⟨q, (by
              rcases h5 with ⟨y1, y2⟩ | ⟨y1, y2, y3⟩
              · rcases y2 with ⟨e1, e2⟩ | ⟨e1, e2⟩
                · exact Or.inr (Or.inl ⟨e1 ▸ nq, e2, by omega⟩)
                · exact Or.inl ⟨q, e1, rfl, nq, e2⟩
              · omega), by rw [upM_n (by decide), hN, up2_s], Or.inl ⟨by omega, by omega, by rw [upM_s, f97]; exact fun j hj => by rw [cpy0 hj, cpy0 hj], by rw [upM_n (by decide), fO 102 (by decide) (by decide) (by decide)], by rw [upM_n (by decide), f94 18 (by decide) (by decide)]⟩, fun j b1 b2 b3 => by rw [upM_n (by decide), f94 j b1 b2], fun a b1 b2 b3 b4 => by rw [upM_n b2, fO a b1 b2 b3]⟩
