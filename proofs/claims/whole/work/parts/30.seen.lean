/-! seen -/
/-- all items of the n signs from b on are directions -/
def dirs (T : Nat → Int) (b : Nat) (n : Nat) : Prop := ∀ j : Nat, j < 2 * n → D8 (T (b + j))
def seenS (L Z T r : Nat → Int) (s lane i n : Int) : Int → Prop := fun z => if 1 ≤ n ∧ n ≤ 6 then (if 0 ≤ refZ L Z s lane i (2 * n) then ((dirs T (24 * s.toNat + i.toNat) n.toNat ∧ z = (nearF (fun q => T (24 * s.toNat + i.toNat + 2 * q)) (fun q => T (24 * s.toNat + i.toNat + 2 * q + 1)) r n).1) ∨ (¬ dirs T (24 * s.toNat + i.toNat) n.toNat ∧ z = -2)) else z = refZ L Z s lane i (2 * n)) else z = -1
theorem seenS_fun {L Z T r : Nat → Int} {s lane i n z z' : Int} (h : seenS L Z T r s lane i n z) (h' : seenS L Z T r s lane i n z') : z = z' := by
  unfold seenS at h h'
  by_cases h1 : 1 ≤ n ∧ n ≤ 6
  · rw [if_pos h1] at h h'
    by_cases h2 : 0 ≤ refZ L Z s lane i (2 * n)
    · rw [if_pos h2] at h h'
      rcases h with ⟨a1, a2⟩ | ⟨a1, a2⟩ <;> rcases h' with ⟨b1, b2⟩ | ⟨b1, b2⟩
      · rw [a2, b2]
      · exact absurd a1 b1
      · exact absurd b1 a1
      · rw [a2, b2]
    · rw [if_neg h2] at h h'; rw [h, h']
  · rw [if_neg h1] at h h'; rw [h, h']

set_option maxRecDepth 20000 in
theorem seeP_loop (Γ : GC) (M : Mm) (k : Nat) (hk : Pp k) (hkd : 78 < k) (b : Nat) (bx nn : Int) (hb : bx = b) (hn : 1 ≤ nn ∧ nn ≤ 6) (hbn : b + 2 * nn.toNat ≤ 24) (hr : ∀ j : Nat, j < b + 2 * nn.toNat → R64 (M (k + 1) j)) : ∀ (n i : Nat) (x : Int) (N : Mm), x = i → (i : Int) ≤ nn → N 76 2 = nn → (∀ j : Nat, j < i → (N 77 j = M (k + 1) (b + 2 * j) ∧ N 78 j = M (k + 1) (b + 2 * j + 1)) ∧ D8 (M (k + 1) (b + 2 * j)) ∧ D8 (M (k + 1) (b + 2 * j + 1))) → (∀ a : Nat, a ≠ 76 → a ≠ 77 → a ≠ 78 → N a = M a) → 6 - i < n → AW Γ uX4_seePaper 8 [(4, vi x), (0, rf Γ 76), (1, rf Γ k), (2, vi bx), (3, vi nn)] [] N (fun z M' => (∀ a : Nat, a ≠ 76 → a ≠ 77 → a ≠ 78 → M' a = M a) ∧ ((z = 1 ∧ dirs (M (k + 1)) b nn.toNat ∧ M' 76 2 = nn ∧ (∀ q : Nat, (q : Int) < nn → M' 77 q = M (k + 1) (b + 2 * q) ∧ M' 78 q = M (k + 1) (b + 2 * q + 1))) ∨ (z = 0 ∧ ¬ dirs (M (k + 1)) b nn.toNat))) := by
  intro n
  induction n with
  | zero => intro i x N g0 g1 g2 g3 g5 gm; omega
  | succ n ih =>
    intro i x N g0 g1 g2 g3 g5 gm
    refine AW.iload dX4_seePaper_8 0 rfl ?_
    refine AW.iload_n dX4_seePaper_10 4 rfl rfl ?_
    refine AW.icmp_ge 78 dX4_seePaper_11 (by decide) (by omega) (by omega) (fun c11 => ?_) (fun c11 => ?_)
    · refine AW.iconst dX4_seePaper_78 ?_
      exact AW.zret rfl dX4_seePaper_79 (Or.inr rfl) ⟨g5, Or.inl ⟨rfl, fun j hj => by
  have h := g3 (j / 2) (by omega)
  rcases Nat.mod_two_eq_zero_or_one j with q | q
  · rw [show b + j = b + 2 * (j / 2) by omega]; exact h.2.1
  · rw [show b + j = b + 2 * (j / 2) + 1 by omega]; exact h.2.2, g2, fun q hq => (g3 q (by omega)).1⟩⟩
    · refine AW.aload_n dX4_seePaper_14 2 rfl rfl ?_
      refine AW.getR dX4_seePaper_15 fl_X4_50 hk.1 rfl ?_
      refine AW.iload_n dX4_seePaper_18 3 rfl rfl ?_
      refine AW.iconst dX4_seePaper_19 ?_
      refine AW.iload dX4_seePaper_20 0 rfl ?_
      refine AW.imul dX4_seePaper_22 ?_
      refine AW.iadd dX4_seePaper_23 ?_
      refine AW.laldN (b + 2 * i) dX4_seePaper_24 hk.2 (by omega) (by omega) (by decide) ?_
      rw [g5 (k + 1) (by omega) (by omega) (by omega)]
      refine AW.topl (fun p ep => ?_)
      refine AW.lstore [(5, vl p), (4, vi x), (0, rf Γ 76), (1, rf Γ k), (2, vi bx), (3, vi nn)] dX4_seePaper_25 (by decide) rfl ?_
      refine AW.aload_n dX4_seePaper_27 3 rfl rfl ?_
      refine AW.getR dX4_seePaper_28 fl_X4_50 hk.1 rfl ?_
      refine AW.iload_n dX4_seePaper_31 4 rfl rfl ?_
      refine AW.iconst dX4_seePaper_32 ?_
      refine AW.iload dX4_seePaper_33 1 rfl ?_
      refine AW.imul dX4_seePaper_35 ?_
      refine AW.iadd dX4_seePaper_36 ?_
      refine AW.iconst dX4_seePaper_37 ?_
      refine AW.iadd dX4_seePaper_38 ?_
      refine AW.laldN (b + 2 * i + 1) dX4_seePaper_39 hk.2 (by omega) (by omega) (by decide) ?_
      rw [g5 (k + 1) (by omega) (by omega) (by omega)]
      refine AW.topl (fun q eq => ?_)
      refine AW.lstore [(7, vl q), (5, vl p), (4, vi x), (0, rf Γ 76), (1, rf Γ k), (2, vi bx), (3, vi nn)] dX4_seePaper_40 (by decide) rfl ?_
      have rp : R64 p := by rw [ep]; exact hr _ (by omega)
      have rq : R64 q := by rw [eq]; exact hr _ (by omega)
      refine AW.lload dX4_seePaper_42 1 rfl ?_
      refine AW.callN1ip (C_isDirection Γ N _ (by assumption)) dX4_seePaper_44 mc_X4_56 (fun _ => rfl) ⟨Nat.le_of_ble_eq_true rfl, Nat.le_of_ble_eq_true rfl⟩ (Nat.le_of_ble_eq_true rfl) ?_
      refine AW.if_eq 58 dX4_seePaper_47 (by decide) (bI_r _) (fun c47 => ?_) (fun c47 => ?_)
      · have d47 := bI0.mp c47
        refine AW.iconst dX4_seePaper_58 ?_
        exact AW.zret rfl dX4_seePaper_59 (Or.inl rfl) ⟨g5, Or.inr ⟨rfl, fun h => by
  have a1 := h (2 * i) (by omega)
  have a2 := h (2 * i + 1) (by omega)
  rw [← ep] at a1
  rw [show b + (2 * i + 1) = b + 2 * i + 1 by omega, ← eq] at a2
  omega⟩⟩
      · have d47 := bI1.mp c47
        refine AW.lload dX4_seePaper_50 0 rfl ?_
        refine AW.callN1ip (C_isDirection Γ N _ (by assumption)) dX4_seePaper_52 mc_X4_56 (fun _ => rfl) ⟨Nat.le_of_ble_eq_true rfl, Nat.le_of_ble_eq_true rfl⟩ (Nat.le_of_ble_eq_true rfl) ?_
        refine AW.if_ne 60 dX4_seePaper_55 (by decide) (bI_r _) (fun c55 => ?_) (fun c55 => ?_)
        · have d55 := bI1.mp c55
          refine AW.aload_n dX4_seePaper_60 3 rfl rfl ?_
          refine AW.iload dX4_seePaper_61 2 rfl ?_
          refine AW.lload dX4_seePaper_63 1 rfl ?_
          refine AW.l2i dX4_seePaper_65 ?_
          refine AW.lload dX4_seePaper_66 0 rfl ?_
          refine AW.l2i dX4_seePaper_68 ?_
          refine AW.callV3v (C_put Γ N x i (by omega) (by omega) _ _) dX4_seePaper_69 mc_X4_46 (show sh 76 = (0, 4, [some 77, some 78, none, none, none, none]) from rfl) (fun _ => rfl) ⟨Nat.le_of_ble_eq_true rfl, Nat.le_of_ble_eq_true rfl⟩ (Nat.le_of_ble_eq_true rfl) (fun z69 M69 h69 => ?_)
          subst h69
          obtain ⟨x72, ex72⟩ : ∃ z : Int, x + 1 = z := ⟨_, rfl⟩
          refine AW.iinc [(4, vi x72), (7, vl q), (5, vl p), (0, rf Γ 76), (1, rf Γ k), (2, vi bx), (3, vi nn)] dX4_seePaper_72 2 rfl (by decide) x72 ex72 rfl ?_
          refine AW.goto 8 dX4_seePaper_75 (by decide) ?_
          refine AW.sub [0, 3, 4, 5, 6] rfl ?_
          exact ih (i + 1) x72 _ (by omega) (by omega) (by rw [up2_c (by decide), up2_c (by decide)]; exact g2) (fun j hj => by
            rcases Nat.lt_or_ge j i with h | h
            · rw [up2_c (by decide), up2_i (by omega), up2_i (by omega), up2_c (by decide)]; exact g3 j h
            · have hji : j = i := by omega
              subst hji
              rw [up2_c (by decide), up2_s, up2_s, ← ep, ← eq]; exact ⟨⟨rfl, rfl⟩, d47, d55⟩) (fun a q1 q2 q3 => by rw [up2_c q3, up2_c q2]; exact g5 a q1 q2 q3) (by omega)
        · have d55 := bI0.mp c55
          refine AW.iconst dX4_seePaper_58 ?_
          exact AW.zret rfl dX4_seePaper_59 (Or.inl rfl) ⟨g5, Or.inr ⟨rfl, fun h => by
  have a1 := h (2 * i) (by omega)
  have a2 := h (2 * i + 1) (by omega)
  rw [← ep] at a1
  rw [show b + (2 * i + 1) = b + 2 * i + 1 by omega, ← eq] at a2
  omega⟩⟩

set_option maxRecDepth 20000 in
theorem C_seePaper (Γ : GC) (M : Mm) (k : Nat) (hk : Pp k) (hkd : 78 < k) (b : Nat) (bx nn : Int) (hb : bx = b) (hn : 1 ≤ nn ∧ nn ≤ 6) (hbn : b + 2 * nn.toNat ≤ 24) (hr : ∀ j : Nat, j < b + 2 * nn.toNat → R64 (M (k + 1) j)) : Ct Γ uX4_seePaper [rf Γ 76, rf Γ k, vi bx, vi nn] M (fun z M' => (∀ a : Nat, a ≠ 76 → a ≠ 77 → a ≠ 78 → M' a = M a) ∧ ((z = 1 ∧ dirs (M (k + 1)) b nn.toNat ∧ M' 76 2 = nn ∧ (∀ q : Nat, (q : Int) < nn → M' 77 q = M (k + 1) (b + 2 * q) ∧ M' 78 q = M (k + 1) (b + 2 * q + 1))) ∨ (z = 0 ∧ ¬ dirs (M (k + 1)) b nn.toNat))) := by
  refine Ct.of (by decide) (Nat.le_of_ble_eq_true rfl) ?_
  show AW Γ uX4_seePaper 0 [(0, rf Γ 76), (1, rf Γ k), (2, vi bx), (3, vi nn)] [] M _
  refine AW.aload_n dX4_seePaper_0 0 rfl rfl ?_
  refine AW.iload_n dX4_seePaper_1 3 rfl rfl ?_
  refine AW.putI dX4_seePaper_2 fp_X4_18 (show sh 76 = (0, 4, [some 77, some 78, none, none, none, none]) from rfl) rfl ?_
  refine AW.iconst dX4_seePaper_5 ?_
  refine AW.top (fun x6 ex6 => ?_)
  refine AW.istore [(4, vi x6), (0, rf Γ 76), (1, rf Γ k), (2, vi bx), (3, vi nn)] dX4_seePaper_6 (by decide) rfl ?_
  refine AW.sub [0, 1, 2, 3, 4] rfl ?_
  exact seeP_loop Γ M k hk hkd b bx nn hb hn hbn hr 8 0 x6 _ (by omega) (by omega) up2_s (fun j hj => by omega) (fun a q1 q2 q3 => up2_c q1) (by omega)

set_option maxRecDepth 20000 in
theorem C_seen (Γ : GC) (M : Mm) (L Z T r : Nat → Int) (hS : OkS M L Z T) (ho : OkR r) (hr : stRel M 1 r) (s lane i n : Int) (hs : R32 s) (hl : R32 lane) (hi : R32 i) (hn : R32 n) : Ct Γ uX8_seen [rf Γ 0, vi s, vi lane, vi i, vi n] M (fun z M' => seenS L Z T r s lane i n z ∧ ∀ a : Nat, a ≠ 76 → a ≠ 77 → a ≠ 78 → M' a = M a) := by
  refine Ct.of (by decide) (Nat.le_of_ble_eq_true rfl) ?_
  show AW Γ uX8_seen 0 [(0, rf Γ 0), (1, vi s), (2, vi lane), (3, vi i), (4, vi n)] [] M _
  refine AW.iload dX8_seen_0 4 rfl ?_
  refine AW.iconst dX8_seen_2 ?_
  refine AW.icmp_lt 13 dX8_seen_3 (by decide) (by omega) (by omega) (fun c3 => ?_) (fun c3 => ?_)
  · refine AW.iconst dX8_seen_13 ?_
    exact AW.iret rfl dX8_seen_14 ⟨by unfold seenS; rw [if_neg (by omega)], fun _ _ _ _ => rfl⟩
  · refine AW.iload dX8_seen_6 4 rfl ?_
    refine AW.bipush (z := (6)) dX8_seen_8 (by decide) ?_
    refine AW.icmp_le 15 dX8_seen_10 (by decide) (by omega) (by omega) (fun c10 => ?_) (fun c10 => ?_)
    · refine AW.aload_n dX8_seen_15 0 rfl rfl ?_
      refine AW.iload_n dX8_seen_16 1 rfl rfl ?_
      refine AW.iload_n dX8_seen_17 2 rfl rfl ?_
      refine AW.iload_n dX8_seen_18 3 rfl rfl ?_
      refine AW.iconst dX8_seen_19 ?_
      refine AW.iload dX8_seen_20 4 rfl ?_
      refine AW.imul dX8_seen_22 ?_
      refine AW.callV4ip (C_refusal Γ M L Z T hS s lane i (2 * n) hs hl hi (by omega)) dX8_seen_23 mc_X8_251 (show sh 0 = (0, 8, [some 1, some 5, some 31, some 35, none, some 61, some 65, some 71, some 76, some 79, some 83, some 85]) from rfl) (fun _ => rfl) ⟨Nat.le_of_ble_eq_true rfl, Nat.le_of_ble_eq_true rfl⟩ (Nat.le_of_ble_eq_true rfl) ?_
      refine AW.top (fun rf0 erf0 => ?_)
      refine AW.istore [(5, vi rf0), (0, rf Γ 0), (1, vi s), (2, vi lane), (3, vi i), (4, vi n)] dX8_seen_26 (by decide) rfl ?_
      refine AW.iload dX8_seen_28 0 rfl ?_
      refine AW.if_ge 36 dX8_seen_30 (by decide) (by rw [erf0]; exact refZ_r) (fun c30 => ?_) (fun c30 => ?_)
      · have hz := refZ_0 (show 0 ≤ refZ L Z s lane i (2 * n) by omega)
        have hz2 := hS s.toNat (by omega)
        unfold paRel at hz2
        have hz3 : ∀ j : Nat, (j : Int) < Z s.toNat → M (86 + 2 * s.toNat + 1) j = T (24 * s.toNat + j) ∧ R64 (T (24 * s.toNat + j)) := hz2.elim (fun h => h.2.2.2.2.2) (fun h => absurd h.2 (by omega))
        have hz4 : 0 ≤ Z s.toNat ∧ Z s.toNat ≤ 24 := by omega
        have hz5 : dirs (M (86 + 2 * s.toNat + 1)) i.toNat n.toNat ↔ dirs T (24 * s.toNat + i.toNat) n.toNat := by
          constructor
          · intro h j hj
            have := h j hj
            rw [(hz3 (i.toNat + j) (by omega)).1] at this
            rw [show 24 * s.toNat + i.toNat + j = 24 * s.toNat + (i.toNat + j) by omega]; exact this
          · intro h j hj
            have := h j hj
            rw [(hz3 (i.toNat + j) (by omega)).1]
            rw [show 24 * s.toNat + i.toNat + j = 24 * s.toNat + (i.toNat + j) by omega] at this; exact this
        refine AW.aload_n dX8_seen_36 1 rfl rfl ?_
        refine AW.getR dX8_seen_37 fl_X8_53 (show sh 0 = (0, 8, [some 1, some 5, some 31, some 35, none, some 61, some 65, some 71, some 76, some 79, some 83, some 85]) from rfl) rfl ?_
        refine AW.aload_n dX8_seen_40 1 rfl rfl ?_
        refine AW.getR dX8_seen_41 fl_X8_73 (show sh 0 = (0, 8, [some 1, some 5, some 31, some 35, none, some 61, some 65, some 71, some 76, some 79, some 83, some 85]) from rfl) rfl ?_
        refine AW.iload_n dX8_seen_44 2 rfl rfl ?_
        refine AW.aald3 (r := 86 + 2 * s.toNat) dX8_seen_45 (show sh 85 = (3, 3, [some 86, some 88, some 90, some 92]) from rfl) (by omega) (by simp; omega) (Nat.le_of_ble_eq_true rfl) (pp_at s.toNat (by omega)) ?_
        refine AW.iload_n dX8_seen_46 4 rfl rfl ?_
        refine AW.iload dX8_seen_47 5 rfl ?_
        refine AW.callV3i (C_seePaper Γ M _ (pp s.toNat (by omega)) (by omega) i.toNat i n (by omega) (by omega) (by omega) (fun j hj => by rw [(hz3 j (by omega)).1]; exact (hz3 j (by omega)).2)) dX8_seen_49 mc_X8_254 (show sh 76 = (0, 4, [some 77, some 78, none, none, none, none]) from rfl) (fun _ => rfl) ⟨Nat.le_of_ble_eq_true rfl, Nat.le_of_ble_eq_true rfl⟩ (Nat.le_of_ble_eq_true rfl) (fun z49 M49 h49 => ?_)
        obtain ⟨f49, h49⟩ := h49
        have z01 : z49 = 0 ∨ z49 = 1 := by rcases h49 with h | h <;> omega
        refine AW.if_ne 58 dX8_seen_52 (by decide) (by omega) (fun c52 => ?_) (fun c52 => ?_)
        · have h9 := h49.resolve_right (fun h => c52 h.1)
          obtain ⟨y1, y2, y3, y4⟩ := h9
          have s1 : stRel M49 1 r := hr.frame (f49 _ (by decide) (by decide) (by decide)) (f49 _ (by decide) (by decide) (by decide)) (f49 _ (by decide) (by decide) (by decide)) (f49 _ (by decide) (by decide) (by decide))
          have y5 : ∀ q : Nat, (q : Int) < n → M49 77 q = T (24 * s.toNat + i.toNat + 2 * q) ∧ M49 78 q = T (24 * s.toNat + i.toNat + 2 * q + 1) := fun q hq => by
            rw [(y4 q hq).1, (y4 q hq).2, (hz3 (i.toNat + 2 * q) (by omega)).1, (hz3 (i.toNat + 2 * q + 1) (by omega)).1]
            exact ⟨congrArg T (by omega), congrArg T (by omega)⟩
          have y6 := hz5.mp y2
          have b1 : D8s (M49 77) (M49 76 2) := fun q hq => by rw [(y5 q (by omega)).1]; exact y6 (2 * q) (by omega)
          have b2 : D8s (M49 78) (M49 76 2) := fun q hq => by rw [(y5 q (by omega)).2, Nat.add_assoc]; exact y6 (2 * q + 1) (by omega)
          refine AW.aload_n dX8_seen_58 1 rfl rfl ?_
          refine AW.getR dX8_seen_59 fl_X8_53 (show sh 0 = (0, 8, [some 1, some 5, some 31, some 35, none, some 61, some 65, some 71, some 76, some 79, some 83, some 85]) from rfl) rfl ?_
          refine AW.aload_n dX8_seen_62 1 rfl rfl ?_
          refine AW.getR dX8_seen_63 fl_X8_10 (show sh 0 = (0, 8, [some 1, some 5, some 31, some 35, none, some 61, some 65, some 71, some 76, some 79, some 83, some 85]) from rfl) rfl ?_
          refine AW.callV1v (C_compare Γ M49 1 st1 (by decide) r ho s1 (by omega) b1 b2) dX8_seen_66 mc_X8_196 (show sh 76 = (0, 4, [some 77, some 78, none, none, none, none]) from rfl) (fun _ => rfl) ⟨Nat.le_of_ble_eq_true rfl, Nat.le_of_ble_eq_true rfl⟩ (Nat.le_of_ble_eq_true rfl) (fun z66 M66 h66 => ?_)
          rw [y3, nearF_congr y5] at h66
          obtain ⟨⟨e1, e2, e3⟩, e4, e5⟩ := h66
          refine AW.aload_n dX8_seen_69 1 rfl rfl ?_
          refine AW.getR dX8_seen_70 fl_X8_53 (show sh 0 = (0, 8, [some 1, some 5, some 31, some 35, none, some 61, some 65, some 71, some 76, some 79, some 83, some 85]) from rfl) rfl ?_
          refine AW.getI dX8_seen_73 fl_X8_199 (show sh 76 = (0, 4, [some 77, some 78, none, none, none, none]) from rfl) rfl ?_
          rw [e1]
          exact AW.iret rfl dX8_seen_76 ⟨by unfold seenS; rw [if_pos (by omega), if_pos (by omega)]; exact Or.inl ⟨y6, rfl⟩, fun a q1 q2 q3 => by rw [e5 a q1, f49 a q1 q2 q3]⟩
        · have h9 := h49.resolve_left (fun h => by omega)
          refine AW.bipush (z := (-2)) dX8_seen_55 (by decide) ?_
          exact AW.iret rfl dX8_seen_57 ⟨by unfold seenS; rw [if_pos (by omega), if_pos (by omega)]; exact Or.inr ⟨fun h => h9.2 (hz5.mpr h), rfl⟩, f49⟩
      · refine AW.iload dX8_seen_33 0 rfl ?_
        exact AW.iret rfl dX8_seen_35 ⟨by unfold seenS; rw [if_pos (by omega), if_neg (by omega)]; exact erf0, fun _ _ _ _ => rfl⟩
    · refine AW.iconst dX8_seen_13 ?_
      exact AW.iret rfl dX8_seen_14 ⟨by unfold seenS; rw [if_neg (by omega)], fun _ _ _ _ => rfl⟩

set_option maxRecDepth 20000 in
theorem seen9_loop1 (Γ : GC) (M : Mm) (s lane i n rf0 fr : Int) (b : Nat) (hfr : fr = b) (hn : 1 ≤ n ∧ n ≤ 6) (hb : b + 2 * n.toNat ≤ 96) (hr64 : ∀ j : Nat, b ≤ j → j < b + 2 * n.toNat → R64 (M 107 j)) (Q : Int → Mm → Prop) (hN : ¬ dirs (M 107) b n.toNat → Q (-2) M) (hx : ∀ x : Int, dirs (M 107) b n.toNat → AW Γ uX9_seen 104 [(7, vi x), (6, vi fr), (5, vi rf0), (0, rf Γ 94), (1, vi s), (2, vi lane), (3, vi i), (4, vi n)] [] M Q) : ∀ (fu j : Nat) (x : Int), x = j → (j : Int) ≤ 2 * n → (∀ q : Nat, q < j → D8 (M 107 (b + q))) → 12 - j < fu → AW Γ uX9_seen 66 [(7, vi x), (6, vi fr), (5, vi rf0), (0, rf Γ 94), (1, vi s), (2, vi lane), (3, vi i), (4, vi n)] [] M Q := by
  intro fu
  induction fu with
  | zero => intro j x g0 g1 g2 gm; omega
  | succ fu ih =>
    intro j x g0 g1 g2 gm
    refine AW.iload dX9_seen_66 0 rfl ?_
    refine AW.iconst dX9_seen_68 ?_
    refine AW.iload dX9_seen_69 7 rfl ?_
    refine AW.imul dX9_seen_71 ?_
    refine AW.icmp_ge 104 dX9_seen_72 (by decide) (by omega) (by omega) (fun c72 => ?_) (fun c72 => ?_)
    · refine AW.sub [0, 1, 2, 3, 4, 5, 6, 7] rfl ?_
      exact hx x (fun q hq => g2 q (by omega))
    · refine AW.aload_n dX9_seen_75 3 rfl rfl ?_
      refine AW.getR dX9_seen_76 fl_X9_50 (show sh 94 = (0, 9, [some 95, some 96, some 97, none, none, none, some 98, some 99, some 100, none, none, none, none, some 101, none, none, none, some 102, none, some 103, some 104, none, some 105, some 106, some 107, some 108]) from rfl) rfl ?_
      refine AW.iload dX9_seen_79 1 rfl ?_
      refine AW.iload dX9_seen_81 0 rfl ?_
      refine AW.iadd dX9_seen_83 ?_
      refine AW.laldN (b + j) dX9_seen_84 (show sh 107 = (2, 96, []) from rfl) (by omega) (by omega) (by decide) ?_
      refine AW.lconst (z := (0)) dX9_seen_85 rfl ?_
      refine AW.ldc2 (z := 7) dX9_seen_86 kl_X9_83 (by decide +kernel) ?_
      refine AW.callS3ip (C9_in Γ M _ _ _ (hr64 (b + j) (by omega) (by omega)) (by decide) (by decide)) dX9_seen_89 mc_X9_76 (fun _ => rfl) ⟨Nat.le_of_ble_eq_true rfl, Nat.le_of_ble_eq_true rfl⟩ (Nat.le_of_ble_eq_true rfl) ?_
      refine AW.if_ne 98 dX9_seen_92 (by decide) (bI_r _) (fun c92 => ?_) (fun c92 => ?_)
      · have d92 := bI1.mp c92
        obtain ⟨x98, ex98⟩ : ∃ z : Int, x + 1 = z := ⟨_, rfl⟩
        refine AW.iinc [(7, vi x98), (6, vi fr), (5, vi rf0), (0, rf Γ 94), (1, vi s), (2, vi lane), (3, vi i), (4, vi n)] dX9_seen_98 0 rfl (by decide) x98 ex98 rfl ?_
        refine AW.goto 66 dX9_seen_101 (by decide) ?_
        refine AW.sub [0, 1, 2, 3, 4, 5, 6, 7] rfl ?_
        exact ih (j + 1) x98 (by omega) (by omega) (fun q hq => by
          rcases Nat.lt_or_ge q j with h | h
          · exact g2 q h
          · have hqj : q = j := by omega
            subst hqj; exact ⟨by omega, by omega⟩) (by omega)
      · have d92 := bI0.mp c92
        refine AW.bipush (z := (-2)) dX9_seen_95 (by decide) ?_
        exact AW.iret rfl dX9_seen_97 (hN (fun h => by have := h j (by omega); omega))

set_option maxRecDepth 20000 in
theorem seen9_loop2 (Γ : GC) (M : Mm) (s lane i n rf0 fr : Int) (b : Nat) (hfr : fr = b) (hn : 1 ≤ n ∧ n ≤ 6) (hb : b + 2 * n.toNat ≤ 96) (Q : Int → Mm → Prop) (hx : ∀ (x : Int) (N : Mm), N 94 9 = n → (∀ q : Nat, q ≠ 9 → N 94 q = M 94 q) → (∀ q : Nat, (q : Int) < n → N 99 q = M 107 (b + 2 * q) ∧ N 100 q = M 107 (b + 2 * q + 1)) → (∀ a : Nat, a ≠ 94 → a ≠ 99 → a ≠ 100 → N a = M a) → AW Γ uX9_seen 168 [(7, vi x), (6, vi fr), (5, vi rf0), (0, rf Γ 94), (1, vi s), (2, vi lane), (3, vi i), (4, vi n)] [] N Q) : ∀ (fu j : Nat) (x : Int) (N : Mm), x = j → (j : Int) ≤ n → N 94 9 = n → (∀ q : Nat, q ≠ 9 → N 94 q = M 94 q) → (∀ q : Nat, q < j → N 99 q = M 107 (b + 2 * q) ∧ N 100 q = M 107 (b + 2 * q + 1)) → (∀ a : Nat, a ≠ 94 → a ≠ 99 → a ≠ 100 → N a = M a) → 12 - j < fu → AW Γ uX9_seen 113 [(7, vi x), (6, vi fr), (5, vi rf0), (0, rf Γ 94), (1, vi s), (2, vi lane), (3, vi i), (4, vi n)] [] N Q := by
  intro fu
  induction fu with
  | zero => intro j x N g0 g1 g2 g5 g3 g4 gm; omega
  | succ fu ih =>
    intro j x N g0 g1 g2 g5 g3 g4 gm
    refine AW.iload dX9_seen_113 0 rfl ?_
    refine AW.iload dX9_seen_115 7 rfl ?_
    refine AW.icmp_ge 168 dX9_seen_117 (by decide) (by omega) (by omega) (fun c117 => ?_) (fun c117 => ?_)
    · refine AW.sub [0, 1, 2, 3, 4, 5, 6, 7] rfl ?_
      exact hx x N g2 g5 (fun q hq => g3 q (by omega)) g4
    · refine AW.aload_n dX9_seen_120 3 rfl rfl ?_
      refine AW.getR dX9_seen_121 fl_X9_22 (show sh 94 = (0, 9, [some 95, some 96, some 97, none, none, none, some 98, some 99, some 100, none, none, none, none, some 101, none, none, none, some 102, none, some 103, some 104, none, some 105, some 106, some 107, some 108]) from rfl) rfl ?_
      refine AW.iload dX9_seen_124 0 rfl ?_
      refine AW.aload_n dX9_seen_126 3 rfl rfl ?_
      refine AW.getR dX9_seen_127 fl_X9_50 (show sh 94 = (0, 9, [some 95, some 96, some 97, none, none, none, some 98, some 99, some 100, none, none, none, none, some 101, none, none, none, some 102, none, some 103, some 104, none, some 105, some 106, some 107, some 108]) from rfl) rfl ?_
      refine AW.iload dX9_seen_130 1 rfl ?_
      refine AW.iconst dX9_seen_132 ?_
      refine AW.iload dX9_seen_133 0 rfl ?_
      refine AW.imul dX9_seen_135 ?_
      refine AW.iadd dX9_seen_136 ?_
      refine AW.laldN (b + 2 * j) dX9_seen_137 (show sh 107 = (2, 96, []) from rfl) (by omega) (by omega) (by decide) ?_
      rw [g4 107 (by decide) (by decide) (by decide)]
      refine AW.l2i dX9_seen_138 ?_
      refine AW.iastN j dX9_seen_139 (show sh 99 = (1, 12, []) from rfl) (by omega) (by omega) (by decide) ?_
      refine AW.aload_n dX9_seen_140 3 rfl rfl ?_
      refine AW.getR dX9_seen_141 fl_X9_25 (show sh 94 = (0, 9, [some 95, some 96, some 97, none, none, none, some 98, some 99, some 100, none, none, none, none, some 101, none, none, none, some 102, none, some 103, some 104, none, some 105, some 106, some 107, some 108]) from rfl) rfl ?_
      refine AW.iload dX9_seen_144 0 rfl ?_
      refine AW.aload_n dX9_seen_146 3 rfl rfl ?_
      refine AW.getR dX9_seen_147 fl_X9_50 (show sh 94 = (0, 9, [some 95, some 96, some 97, none, none, none, some 98, some 99, some 100, none, none, none, none, some 101, none, none, none, some 102, none, some 103, some 104, none, some 105, some 106, some 107, some 108]) from rfl) rfl ?_
      refine AW.iload dX9_seen_150 1 rfl ?_
      refine AW.iconst dX9_seen_152 ?_
      refine AW.iload dX9_seen_153 0 rfl ?_
      refine AW.imul dX9_seen_155 ?_
      refine AW.iadd dX9_seen_156 ?_
      refine AW.iconst dX9_seen_157 ?_
      refine AW.iadd dX9_seen_158 ?_
      refine AW.laldN (b + 2 * j + 1) dX9_seen_159 (show sh 107 = (2, 96, []) from rfl) (by omega) (by omega) (by decide) ?_
      rw [up2_c (by decide), g4 107 (by decide) (by decide) (by decide)]
      refine AW.l2i dX9_seen_160 ?_
      refine AW.iastN j dX9_seen_161 (show sh 100 = (1, 12, []) from rfl) (by omega) (by omega) (by decide) ?_
      obtain ⟨x162, ex162⟩ : ∃ z : Int, x + 1 = z := ⟨_, rfl⟩
      refine AW.iinc [(7, vi x162), (6, vi fr), (5, vi rf0), (0, rf Γ 94), (1, vi s), (2, vi lane), (3, vi i), (4, vi n)] dX9_seen_162 0 rfl (by decide) x162 ex162 rfl ?_
      refine AW.goto 113 dX9_seen_165 (by decide) ?_
      refine AW.sub [0, 1, 2, 3, 4, 5, 6, 7] rfl ?_
      exact ih (j + 1) x162 _ (by omega) (by omega) (by rw [up2_c (by decide), up2_c (by decide)]; exact g2) (fun q hq => by rw [up2_c (by decide), up2_c (by decide)]; exact g5 q hq) (fun q hq => by
        rcases Nat.lt_or_ge q j with h | h
        · rw [up2_c (by decide), up2_i (by omega), up2_i (by omega), up2_c (by decide)]; exact g3 q h
        · have hqj : q = j := by omega
          subst hqj
          rw [up2_c (by decide), up2_s, up2_s]; exact ⟨rfl, rfl⟩) (fun a q1 q2 q3 => by rw [up2_c q3, up2_c q2]; exact g4 a q1 q2 q3) (by omega)

set_option maxRecDepth 20000 in
theorem C9_seen (Γ : GC) (M : Mm) (hsg : SG M) (ho : OkR (M 96)) (hg : OkG (M 105) (M 106)) (hT : ∀ s : Nat, s < 4 → 0 ≤ M 105 s → ∀ j : Nat, (24 * s ≤ j ∧ (j : Int) < 24 * s + M 106 s) → R64 (M 107 j)) (s lane i n : Int) (hs : R32 s) (hl : R32 lane) (hi : R32 i) (hn : R32 n) : Ct Γ uX9_seen [rf Γ 94, vi s, vi lane, vi i, vi n] M (fun z M' => seenS (M 105) (M 106) (M 107) (M 96) s lane i n z ∧ off9 M M') := by
  refine Ct.of (by decide) (Nat.le_of_ble_eq_true rfl) ?_
  show AW Γ uX9_seen 0 [(0, rf Γ 94), (1, vi s), (2, vi lane), (3, vi i), (4, vi n)] [] M _
  refine AW.iload_n dX9_seen_0 1 rfl rfl ?_
  refine AW.callS1ip (C9_isSheet Γ M _ hs) dX9_seen_1 mc_X9_242 (fun _ => rfl) ⟨Nat.le_of_ble_eq_true rfl, Nat.le_of_ble_eq_true rfl⟩ (Nat.le_of_ble_eq_true rfl) ?_
  refine AW.if_eq 32 dX9_seen_4 (by decide) (bI_r _) (fun c4 => ?_) (fun c4 => ?_)
  · have d4 := bI0.mp c4
    have hb1 : seenS (M 105) (M 106) (M 107) (M 96) s lane i n (-1) := by
      unfold seenS
      by_cases h1 : 1 ≤ n ∧ n ≤ 6
      · rw [if_pos h1]
        have hb : ¬ 0 ≤ refZ (M 105) (M 106) s lane i (2 * n) := fun q => by have := refZ_0 q; omega
        rw [if_neg hb]; unfold refZ; rw [if_neg (by omega)]
      · rw [if_neg h1]
    refine AW.iconst dX9_seen_32 ?_
    exact AW.iret rfl dX9_seen_33 ⟨hb1, ⟨fun _ _ _ _ _ => rfl, fun _ _ _ _ => rfl⟩⟩
  · have d4 := bI1.mp c4
    refine AW.iload_n dX9_seen_7 2 rfl rfl ?_
    refine AW.i2l dX9_seen_8 (by omega) ?_
    refine AW.lconst (z := (0)) dX9_seen_9 rfl ?_
    refine AW.ldc2 (z := 3) dX9_seen_10 kl_X9_158 (by decide +kernel) ?_
    refine AW.callS3ip (C9_in Γ M _ _ _ (by omega) (by decide) (by decide)) dX9_seen_13 mc_X9_76 (fun _ => rfl) ⟨Nat.le_of_ble_eq_true rfl, Nat.le_of_ble_eq_true rfl⟩ (Nat.le_of_ble_eq_true rfl) ?_
    refine AW.if_eq 32 dX9_seen_16 (by decide) (bI_r _) (fun c16 => ?_) (fun c16 => ?_)
    · have d16 := bI0.mp c16
      have hb1 : seenS (M 105) (M 106) (M 107) (M 96) s lane i n (-1) := by
        unfold seenS
        by_cases h1 : 1 ≤ n ∧ n ≤ 6
        · rw [if_pos h1]
          have hb : ¬ 0 ≤ refZ (M 105) (M 106) s lane i (2 * n) := fun q => by have := refZ_0 q; omega
          rw [if_neg hb]; unfold refZ; rw [if_neg (by omega)]
        · rw [if_neg h1]
      refine AW.iconst dX9_seen_32 ?_
      exact AW.iret rfl dX9_seen_33 ⟨hb1, ⟨fun _ _ _ _ _ => rfl, fun _ _ _ _ => rfl⟩⟩
    · have d16 := bI1.mp c16
      refine AW.iload dX9_seen_19 4 rfl ?_
      refine AW.i2l dX9_seen_21 (by omega) ?_
      refine AW.lconst (z := (1)) dX9_seen_22 rfl ?_
      refine AW.ldc2 (z := 6) dX9_seen_23 kl_X9_94 (by decide +kernel) ?_
      refine AW.callS3ip (C9_in Γ M _ _ _ (by omega) (by decide) (by decide)) dX9_seen_26 mc_X9_76 (fun _ => rfl) ⟨Nat.le_of_ble_eq_true rfl, Nat.le_of_ble_eq_true rfl⟩ (Nat.le_of_ble_eq_true rfl) ?_
      refine AW.if_ne 34 dX9_seen_29 (by decide) (bI_r _) (fun c29 => ?_) (fun c29 => ?_)
      · have d29 := bI1.mp c29
        refine AW.aload_n dX9_seen_34 0 rfl rfl ?_
        refine AW.iload_n dX9_seen_35 1 rfl rfl ?_
        refine AW.iload_n dX9_seen_36 2 rfl rfl ?_
        refine AW.iload_n dX9_seen_37 3 rfl rfl ?_
        refine AW.iconst dX9_seen_38 ?_
        refine AW.iload dX9_seen_39 4 rfl ?_
        refine AW.imul dX9_seen_41 ?_
        refine AW.callV4ip (C9_why Γ M hg s lane i (2 * n) (by omega) (by omega) hi (by omega)) dX9_seen_42 mc_X9_245 (show sh 94 = (0, 9, [some 95, some 96, some 97, none, none, none, some 98, some 99, some 100, none, none, none, none, some 101, none, none, none, some 102, none, some 103, some 104, none, some 105, some 106, some 107, some 108]) from rfl) (fun _ => rfl) ⟨Nat.le_of_ble_eq_true rfl, Nat.le_of_ble_eq_true rfl⟩ (Nat.le_of_ble_eq_true rfl) ?_
        refine AW.top (fun rf0 erf0 => ?_)
        refine AW.istore [(5, vi rf0), (0, rf Γ 94), (1, vi s), (2, vi lane), (3, vi i), (4, vi n)] dX9_seen_45 (by decide) rfl ?_
        refine AW.iload dX9_seen_47 0 rfl ?_
        refine AW.if_ge 55 dX9_seen_49 (by decide) (by rw [erf0]; exact refZ_r) (fun c49 => ?_) (fun c49 => ?_)
        · have hz := refZ_0 (show 0 ≤ refZ (M 105) (M 106) s lane i (2 * n) by omega)
          have hz2 := hg s.toNat (by omega)
          refine AW.bipush (z := (24)) dX9_seen_55 (by decide) ?_
          refine AW.iload_n dX9_seen_57 2 rfl rfl ?_
          refine AW.imul dX9_seen_58 ?_
          refine AW.iload_n dX9_seen_59 4 rfl rfl ?_
          refine AW.iadd dX9_seen_60 ?_
          refine AW.top (fun fr efr => ?_)
          refine AW.istore [(6, vi fr), (5, vi rf0), (0, rf Γ 94), (1, vi s), (2, vi lane), (3, vi i), (4, vi n)] dX9_seen_61 (by decide) rfl ?_
          refine AW.iconst dX9_seen_63 ?_
          refine AW.top (fun x64 ex64 => ?_)
          refine AW.istore [(7, vi x64), (6, vi fr), (5, vi rf0), (0, rf Γ 94), (1, vi s), (2, vi lane), (3, vi i), (4, vi n)] dX9_seen_64 (by decide) rfl ?_
          refine AW.sub [0, 1, 2, 3, 4, 5, 6, 7] rfl ?_
          refine seen9_loop1 Γ M s lane i n rf0 fr (24 * s.toNat + i.toNat) (by omega) (by omega) (by omega) (fun j hj1 hj => hT s.toNat (by omega) (by omega) j (by omega)) _ (fun h => ⟨by unfold seenS; rw [if_pos (by omega), if_pos (by omega)]; exact Or.inr ⟨h, rfl⟩, ⟨fun _ _ _ _ _ => rfl, fun _ _ _ _ => rfl⟩⟩) (fun x hdir => ?_) 13 0 x64 (by omega) (by omega) (fun q hq => by omega) (by omega)
          refine AW.aload_n dX9_seen_104 3 rfl rfl ?_
          refine AW.iload dX9_seen_105 7 rfl ?_
          refine AW.putI dX9_seen_107 fp_X9_182 (show sh 94 = (0, 9, [some 95, some 96, some 97, none, none, none, some 98, some 99, some 100, none, none, none, none, some 101, none, none, none, some 102, none, some 103, some 104, none, some 105, some 106, some 107, some 108]) from rfl) rfl ?_
          refine AW.iconst dX9_seen_110 ?_
          refine AW.top (fun x111 ex111 => ?_)
          refine AW.istore [(7, vi x111), (6, vi fr), (5, vi rf0), (0, rf Γ 94), (1, vi s), (2, vi lane), (3, vi i), (4, vi n)] dX9_seen_111 (by decide) rfl ?_
          refine AW.sub [0, 1, 2, 3, 4, 5, 6, 7] rfl ?_
          refine seen9_loop2 Γ M s lane i n rf0 fr (24 * s.toNat + i.toNat) (by omega) (by omega) (by omega) _ (fun x2 N y3 y4 y5 y6 => ?_) 13 0 x111 _ (by omega) (by omega) up2_s (fun q hq => up2_i hq) (fun q hq => by omega) (fun a q1 q2 q3 => up2_c q1) (by omega)
          refine AW.aload_n dX9_seen_168 3 rfl rfl ?_
          refine AW.callV0v (C9_nears Γ N (fun j hj => by rw [y6 95 (by decide) (by decide) (by decide)]; exact hsg j hj) (by rw [y6 96 (by decide) (by decide) (by decide)]; exact ho) (by omega) (fun q hq => by rw [(y5 q (by omega)).1]; exact hdir (2 * q) (by omega)) (fun q hq => by rw [(y5 q (by omega)).2, Nat.add_assoc]; exact hdir (2 * q + 1) (by omega))) dX9_seen_169 mc_X9_200 (show sh 94 = (0, 9, [some 95, some 96, some 97, none, none, none, some 98, some 99, some 100, none, none, none, none, some 101, none, none, none, some 102, none, some 103, some 104, none, some 105, some 106, some 107, some 108]) from rfl) (fun _ => rfl) ⟨Nat.le_of_ble_eq_true rfl, Nat.le_of_ble_eq_true rfl⟩ (Nat.le_of_ble_eq_true rfl) (fun z169 M169 h169 => ?_)
          rw [y3, y6 96 (by decide) (by decide) (by decide), nearF_congr y5] at h169
          obtain ⟨⟨e1, e2, e3⟩, e4, e5⟩ := h169
          refine AW.aload_n dX9_seen_172 3 rfl rfl ?_
          refine AW.getI dX9_seen_173 fl_X9_185 (show sh 94 = (0, 9, [some 95, some 96, some 97, none, none, none, some 98, some 99, some 100, none, none, none, none, some 101, none, none, none, some 102, none, some 103, some 104, none, some 105, some 106, some 107, some 108]) from rfl) rfl ?_
          rw [e1]
          exact AW.iret rfl dX9_seen_176 ⟨by unfold seenS; rw [if_pos (by omega), if_pos (by omega)]; exact Or.inl ⟨hdir, rfl⟩, ⟨fun j q1 q2 q3 q4 => by rw [e4 j q2 q3 q4, y4 j q1], fun a q1 q2 q3 => by rw [e5 a q1, y6 a q1 q2 q3]⟩⟩
        · refine AW.iload dX9_seen_52 0 rfl ?_
          exact AW.iret rfl dX9_seen_54 ⟨by unfold seenS; rw [if_pos (by omega), if_neg (by omega)]; exact erf0, ⟨fun _ _ _ _ _ => rfl, fun _ _ _ _ => rfl⟩⟩
      · have d29 := bI0.mp c29
        have hb1 : seenS (M 105) (M 106) (M 107) (M 96) s lane i n (-1) := by
          unfold seenS
          by_cases h1 : 1 ≤ n ∧ n ≤ 6
          · rw [if_pos h1]
            have hb : ¬ 0 ≤ refZ (M 105) (M 106) s lane i (2 * n) := fun q => by have := refZ_0 q; omega
            rw [if_neg hb]; unfold refZ; rw [if_neg (by omega)]
          · rw [if_neg h1]
        refine AW.iconst dX9_seen_32 ?_
        exact AW.iret rfl dX9_seen_33 ⟨hb1, ⟨fun _ _ _ _ _ => rfl, fun _ _ _ _ => rfl⟩⟩
