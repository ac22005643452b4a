/-! a drift -/
def dr (r : Nat → Int) : Int := (r 4 * 1103515245 + 12345) % 2147483648
def turnR (r : Nat → Int) : Nat → Int := if (dr r / 65536) % 8 < 4 then sayR (up1 r 4 (dr r)) (dr r / 65536 / 8 % 26) else if (dr r / 65536) % 8 = 4 then backR (up1 r 4 (dr r)) else if (dr r / 65536) % 8 = 5 then callR (up1 r 4 (dr r)) (dr r / 65536 / 8 % 6) else tellR (up1 r 4 (dr r)) ((dr r / 65536) % 8 - 6) (dr r / 65536 / 8 % 4 + 1)
theorem dr_b (r : Nat → Int) : 0 ≤ dr r ∧ dr r < 2147483648 := by unfold dr; omega
theorem OkR.draw {r : Nat → Int} (h : OkR r) {d : Int} (hd : 0 ≤ d ∧ d < 2147483648) : OkR (up1 r 4 d) := by
  obtain ⟨h0, h1, h2, h3, h4, h5, h6⟩ := h
  have hx : ∀ j : Nat, ¬ j = 4 → up1 r 4 d j = r j := fun j hj => if_neg hj
  refine ⟨by rw [hx _ (by omega)]; exact h0, by rw [hx _ (by omega)]; exact h1, by rw [hx _ (by omega)]; exact h2, by rw [hx _ (by omega)]; exact h3, by simp only [up1]; exact hd, fun i hi => ?_, fun w hw => ?_⟩
  · rw [hx _ (by omega)] at *; exact h5 i hi
  · rw [hx _ (by omega)] at *
    refine ⟨(h6 w hw).1, fun i hi => ?_⟩
    rw [hx _ (by omega)]; exact (h6 w hw).2 i hi
theorem OkR.turn {r : Nat → Int} (h : OkR r) : OkR (turnR r) := by
  have := h.draw (dr_b r)
  unfold turnR; split
  · exact this.say _
  · split
    · exact this.back
    · split
      · exact this.call _
      · exact this.tell _ _
theorem stRel.draw {M : Mm} {k : Nat} {r : Nat → Int} (h : stRel M k r) (d : Int) : stRel (up2 M k 7 d) k (up1 r 4 d) := by
  obtain ⟨h1, h2, h3, h4, h5, h6, h7⟩ := h
  have hx : ∀ j : Nat, ¬ j = 4 → up1 r 4 d j = r j := fun j hj => if_neg hj
  refine ⟨by rw [hx _ (by omega), up2_i (by decide)]; exact h1, by rw [hx _ (by omega), up2_i (by decide)]; exact h2, by rw [hx _ (by omega), up2_i (by decide)]; exact h3, by rw [hx _ (by omega), up2_i (by decide)]; exact h4, by rw [up2_s]; simp [up1], fun i hi => ?_, fun w hw => ?_⟩
  · rw [hx _ (by omega)] at *; rw [up2_n (by omega)]; exact h6 i hi
  · rw [hx _ (by omega)] at *
    rw [up2_n (by omega)]
    refine ⟨(h7 w hw).1, fun i hi => ?_⟩
    rw [hx _ (by omega), up2_n (by omega)]; exact (h7 w hw).2 i hi

set_option maxRecDepth 20000 in
theorem C_turn (Γ : GC) (M : Mm) (k : Nat) (hk : St k) (r : Nat → Int) (ho : OkR r) (hr : stRel M k r) : Ct Γ uX5_turn [rf Γ k] M (fun _ M' => off4 k M M' ∧ stRel M' k (turnR r)) := by
  refine Ct.of (by decide) (Nat.le_of_ble_eq_true rfl) ?_
  show AW Γ uX5_turn 0 [(0, rf Γ k)] [] M _
  have hd : (M k 7 * 1103515245 + 12345) % 2147483648 = dr r := by unfold dr; rw [hr.2.2.2.2.1]
  have hb := dr_b r
  have ho1 := ho.draw hb
  have hr1 := hr.draw (dr r)
  refine AW.aload_n dX5_turn_0 0 rfl rfl ?_
  refine AW.aload_n dX5_turn_1 0 rfl rfl ?_
  refine AW.getI dX5_turn_2 fl_X5_34 hk.1 rfl ?_
  refine AW.ldc (z := 1103515245) dX5_turn_5 kc_X5_53 (by decide +kernel) ?_
  refine AW.imul dX5_turn_7 ?_
  refine AW.sipush (z := (12345)) dX5_turn_8 (by decide) ?_
  refine AW.iadd dX5_turn_11 ?_
  refine AW.ldc (z := 2147483647) dX5_turn_12 kc_X5_54 (by decide +kernel) ?_
  refine AW.iandk 31 (by decide) (by decide) dX5_turn_14 ?_
  rw [show (2 : Int) ^ 31 = 2147483648 from rfl, hd]
  refine AW.putI dX5_turn_15 fp_X5_34 hk.1 rfl ?_
  refine AW.aload_n dX5_turn_18 0 rfl rfl ?_
  refine AW.getI dX5_turn_19 fl_X5_34 hk.1 rfl ?_
  rw [up2_s]
  refine AW.ldc (z := 65536) dX5_turn_22 kc_X5_55 (by decide +kernel) ?_
  refine AW.idiv dX5_turn_24 (by omega) (by omega) ?_
  refine AW.top (fun x ex => ?_)
  refine AW.istore_n [(1, vi x), (0, rf Γ k)] dX5_turn_25 rfl (by decide) rfl ?_
  refine AW.iload_n dX5_turn_26 0 rfl rfl ?_
  refine AW.bipush (z := (8)) dX5_turn_27 (by decide) ?_
  refine AW.idiv dX5_turn_29 (by omega) (by omega) ?_
  refine AW.top (fun y ey => ?_)
  refine AW.istore_n [(2, vi y), (1, vi x), (0, rf Γ k)] dX5_turn_30 rfl (by decide) rfl ?_
  refine AW.iload_n dX5_turn_31 1 rfl rfl ?_
  refine AW.bipush (z := (8)) dX5_turn_32 (by decide) ?_
  refine AW.irem dX5_turn_34 (by omega) (by omega) ?_
  rcases (show x % 8 = 4 ∨ x % 8 = 5 ∨ x % 8 = 6 ∨ x % 8 = 7 ∨ (x % 8 < 4 ∨ 7 < x % 8) by omega) with hc | hc | hc | hc | hc
  · refine AW.tabIn 64 dX5_turn_35 (by omega) (by omega) (by omega) (by rw [hc]; rfl) (by decide) ?_
    refine AW.aload_n dX5_turn_64 2 rfl rfl ?_
    refine AW.callV0i (C_takeLetter Γ _ k hk (up1 r 4 (dr r)) ho1 hr1 ) dX5_turn_65 mc_X5_56 hk.1 (fun _ => rfl) ⟨Nat.le_of_ble_eq_true rfl, Nat.le_of_ble_eq_true rfl⟩ (Nat.le_of_ble_eq_true rfl) (fun z65 M65 h65 => ?_)
    obtain ⟨e65, f65, s65⟩ := h65
    refine AW.pop dX5_turn_68 rfl ?_
    refine AW.goto 121 dX5_turn_69 (by decide) ?_
    exact AW.vret rfl dX5_turn_121 ⟨(off4.up off4.rfl' (by omega)).trans f65, by subst ey; subst ex; unfold turnR; rw [if_neg (by omega), if_pos (by omega)]; exact s65⟩
  · refine AW.tabIn 72 dX5_turn_35 (by omega) (by omega) (by omega) (by rw [hc]; rfl) (by decide) ?_
    refine AW.aload_n dX5_turn_72 2 rfl rfl ?_
    refine AW.iload_n dX5_turn_73 0 rfl rfl ?_
    refine AW.bipush (z := (6)) dX5_turn_74 (by decide) ?_
    refine AW.irem dX5_turn_76 (by omega) (by omega) ?_
    refine AW.callV1i (C_addLettersOf Γ _ k hk (up1 r 4 (dr r)) ho1 hr1 _ (by omega)) dX5_turn_77 mc_X5_60 hk.1 (fun _ => rfl) ⟨Nat.le_of_ble_eq_true rfl, Nat.le_of_ble_eq_true rfl⟩ (Nat.le_of_ble_eq_true rfl) (fun z77 M77 h77 => ?_)
    obtain ⟨e77, f77, s77⟩ := h77
    refine AW.pop dX5_turn_80 rfl ?_
    refine AW.goto 121 dX5_turn_81 (by decide) ?_
    exact AW.vret rfl dX5_turn_121 ⟨(off4.up off4.rfl' (by omega)).trans f77, by subst ey; subst ex; unfold turnR; rw [if_neg (by omega), if_neg (by omega), if_pos (by omega)]; exact s77⟩
  · refine AW.tabIn 84 dX5_turn_35 (by omega) (by omega) (by omega) (by rw [hc]; rfl) (by decide) ?_
    refine AW.aload_n dX5_turn_84 2 rfl rfl ?_
    refine AW.iconst dX5_turn_85 ?_
    refine AW.iload_n dX5_turn_86 0 rfl rfl ?_
    refine AW.iconst dX5_turn_87 ?_
    refine AW.irem dX5_turn_88 (by omega) (by omega) ?_
    refine AW.iconst dX5_turn_89 ?_
    refine AW.iadd dX5_turn_90 ?_
    refine AW.callV2i (C_setCost Γ _ k hk (up1 r 4 (dr r)) ho1 hr1 _ _ (by omega) (by omega)) dX5_turn_91 mc_X5_64 hk.1 (fun _ => rfl) ⟨Nat.le_of_ble_eq_true rfl, Nat.le_of_ble_eq_true rfl⟩ (Nat.le_of_ble_eq_true rfl) (fun z91 M91 h91 => ?_)
    obtain ⟨e91, f91, s91⟩ := h91
    refine AW.pop dX5_turn_94 rfl ?_
    refine AW.goto 121 dX5_turn_95 (by decide) ?_
    exact AW.vret rfl dX5_turn_121 ⟨(off4.up off4.rfl' (by omega)).trans f91, by subst ey; subst ex; unfold turnR; rw [if_neg (by omega), if_neg (by omega), if_neg (by omega), show (dr r / 65536) % 8 - 6 = 0 by omega]; exact s91⟩
  · refine AW.tabIn 98 dX5_turn_35 (by omega) (by omega) (by omega) (by rw [hc]; rfl) (by decide) ?_
    refine AW.aload_n dX5_turn_98 2 rfl rfl ?_
    refine AW.iconst dX5_turn_99 ?_
    refine AW.iload_n dX5_turn_100 0 rfl rfl ?_
    refine AW.iconst dX5_turn_101 ?_
    refine AW.irem dX5_turn_102 (by omega) (by omega) ?_
    refine AW.iconst dX5_turn_103 ?_
    refine AW.iadd dX5_turn_104 ?_
    refine AW.callV2i (C_setCost Γ _ k hk (up1 r 4 (dr r)) ho1 hr1 _ _ (by omega) (by omega)) dX5_turn_105 mc_X5_64 hk.1 (fun _ => rfl) ⟨Nat.le_of_ble_eq_true rfl, Nat.le_of_ble_eq_true rfl⟩ (Nat.le_of_ble_eq_true rfl) (fun z105 M105 h105 => ?_)
    obtain ⟨e105, f105, s105⟩ := h105
    refine AW.pop dX5_turn_108 rfl ?_
    refine AW.goto 121 dX5_turn_109 (by decide) ?_
    exact AW.vret rfl dX5_turn_121 ⟨(off4.up off4.rfl' (by omega)).trans f105, by subst ey; subst ex; unfold turnR; rw [if_neg (by omega), if_neg (by omega), if_neg (by omega), show (dr r / 65536) % 8 - 6 = 1 by omega]; exact s105⟩
  · refine AW.tabOut 112 dX5_turn_35 (by omega) hc (by decide) ?_
    refine AW.aload_n dX5_turn_112 2 rfl rfl ?_
    refine AW.iload_n dX5_turn_113 0 rfl rfl ?_
    refine AW.bipush (z := (26)) dX5_turn_114 (by decide) ?_
    refine AW.irem dX5_turn_116 (by omega) (by omega) ?_
    refine AW.callV1i (C_addLetter Γ _ k hk (up1 r 4 (dr r)) ho1 hr1 _ (by omega)) dX5_turn_117 mc_X5_68 hk.1 (fun _ => rfl) ⟨Nat.le_of_ble_eq_true rfl, Nat.le_of_ble_eq_true rfl⟩ (Nat.le_of_ble_eq_true rfl) (fun z117 M117 h117 => ?_)
    obtain ⟨e117, f117, s117⟩ := h117
    refine AW.pop dX5_turn_120 rfl ?_
    exact AW.vret rfl dX5_turn_121 ⟨(off4.up off4.rfl' (by omega)).trans f117, by subst ey; subst ex; unfold turnR; rw [if_pos (by omega)]; exact s117⟩

def drG : Nat → (Nat → Int) → Int → (Nat → Int) → (Nat → Int) × Int × (Nat → Int)
  | 0, r, u, A => (r, u, A)
  | n + 1, r, u, A => drG n (turnR r) (nxU u) (ntA A r u)
theorem nxU_b {u : Int} (h : 0 ≤ u ∧ u ≤ 6) : 0 ≤ nxU u ∧ nxU u ≤ 6 := by unfold nxU; split <;> omega
theorem drG_congr : ∀ (n : Nat) (r : Nat → Int) (u : Int) (A A' : Nat → Int), (0 ≤ u ∧ u ≤ 6) → (∀ j : Nat, j < 354 → A j = A' j) → (drG n r u A).1 = (drG n r u A').1 ∧ (drG n r u A).2.1 = (drG n r u A').2.1 ∧ ∀ j : Nat, j < 354 → (drG n r u A).2.2 j = (drG n r u A').2.2 j
  | 0, r, u, A, A', hu, h => ⟨rfl, rfl, h⟩
  | n + 1, r, u, A, A', hu, h => drG_congr n (turnR r) (nxU u) _ _ (nxU_b hu) (ntA_congr hu h (fun _ _ => rfl))
theorem drG_ok : ∀ (n : Nat) (r : Nat → Int) (u : Int) (A : Nat → Int), OkR r → OkR (drG n r u A).1
  | 0, _, _, _, h => h
  | n + 1, r, u, A, h => drG_ok n _ _ _ h.turn
def xdP (M M' : Mm) (z : Int) (n : Nat) (r : Nat → Int) (u : Int) (A : Nat → Int) : Prop := z = (drG n r u A).1 0 ∧ stRel M' 1 (drG n r u A).1 ∧ pastRel M' 5 (drG n r u A).2.1 (drG n r u A).2.2 ∧ ∀ a : Nat, (a < 1 ∨ 30 < a) → M' a = M a

set_option maxRecDepth 20000 in
theorem drift_loop (Γ : GC) (nn : Int) (hn : 1 ≤ nn ∧ nn ≤ 40) : ∀ (n cnt : Nat) (x : Int) (N : Mm) (r : Nat → Int) (u : Int) (A : Nat → Int), OkR r → stRel N 1 r → pastRel N 5 u A → x + cnt = nn → 0 ≤ x → cnt < n → AW Γ uX8_drift 15 [(2, vi x), (0, rf Γ 0), (1, vi nn)] [] N (fun z M' => xdP N M' z cnt r u A) := by
  intro n
  induction n with
  | zero => intro cnt x N r u A ho hr hp hx hx0 hc; omega
  | succ n ih =>
    intro cnt x N r u A ho hr hp hx hx0 hc
    have hxb : x ≤ 40 := by omega
    refine AW.iload_n dX8_drift_15 0 rfl rfl ?_
    refine AW.iload_n dX8_drift_16 2 rfl rfl ?_
    refine AW.icmp_ge 44 dX8_drift_17 (by decide) (by omega) (by omega) (fun c17 => ?_) (fun c17 => ?_)
    · refine AW.aload_n dX8_drift_44 1 rfl rfl ?_
      refine AW.getR dX8_drift_45 fl_X8_10 (show sh 0 = (0, 8, [some 1, some 5, some 31, some 35, none, some 61, some 65, some 71, some 76, some 79, some 83, some 85]) from rfl) rfl ?_
      refine AW.getI dX8_drift_48 fl_X8_137 (show sh 1 = (0, 5, [some 2, none, some 3, some 4, none, none, none, none]) from rfl) rfl ?_
      rw [show cnt = 0 by omega]
      exact AW.iret rfl dX8_drift_51 ⟨hr.1, hr, hp, fun a _ => rfl⟩
    · refine AW.aload_n dX8_drift_20 1 rfl rfl ?_
      refine AW.getR dX8_drift_21 fl_X8_19 (show sh 0 = (0, 8, [some 1, some 5, some 31, some 35, none, some 61, some 65, some 71, some 76, some 79, some 83, some 85]) from rfl) rfl ?_
      refine AW.aload_n dX8_drift_24 1 rfl rfl ?_
      refine AW.getR dX8_drift_25 fl_X8_10 (show sh 0 = (0, 8, [some 1, some 5, some 31, some 35, none, some 61, some 65, some 71, some 76, some 79, some 83, some 85]) from rfl) rfl ?_
      refine AW.callV1v (C_padd Γ N 5 1 pa5 st1 (by decide) hp.2.2.1 (by rw [hp.1]; exact hp.2.1)) dX8_drift_28 mc_X8_236 (show sh 5 = (0, 2, [some 6, none, none]) from rfl) (fun _ => rfl) ⟨Nat.le_of_ble_eq_true rfl, Nat.le_of_ble_eq_true rfl⟩ (Nat.le_of_ble_eq_true rfl) (fun z28 M28 h28 => ?_)
      obtain ⟨f28, r28⟩ := h28
      have s28 : stRel M28 1 r := hr.frame (f28 _ (by omega)) (f28 _ (by omega)) (f28 _ (by omega)) (f28 _ (by omega))
      refine AW.aload_n dX8_drift_31 1 rfl rfl ?_
      refine AW.getR dX8_drift_32 fl_X8_10 (show sh 0 = (0, 8, [some 1, some 5, some 31, some 35, none, some 61, some 65, some 71, some 76, some 79, some 83, some 85]) from rfl) rfl ?_
      refine AW.callV0v (C_turn Γ _ 1 st1 r ho s28) dX8_drift_35 mc_X8_238 (show sh 1 = (0, 5, [some 2, none, some 3, some 4, none, none, none, none]) from rfl) (fun _ => rfl) ⟨Nat.le_of_ble_eq_true rfl, Nat.le_of_ble_eq_true rfl⟩ (Nat.le_of_ble_eq_true rfl) (fun z35 M35 h35 => ?_)
      obtain ⟨f35, s35⟩ := h35
      obtain ⟨x38, ex38⟩ : ∃ z : Int, x + 1 = z := ⟨_, rfl⟩
      refine AW.iinc [(2, vi x38), (0, rf Γ 0), (1, vi nn)] dX8_drift_38 0 rfl (by decide) x38 ex38 rfl ?_
      refine AW.goto 15 dX8_drift_41 (by decide) ?_
      refine AW.sub [0, 1, 2] rfl ?_
      obtain ⟨cnt, rfl⟩ : ∃ q : Nat, cnt = q + 1 := ⟨cnt - 1, by omega⟩
      exact AW.mono (fun z M' h => ⟨h.1, h.2.1, h.2.2.1, fun a ha => by rw [h.2.2.2 a ha, f35 a (by omega), f28 a (by omega)]⟩) (ih cnt x38 M35 (turnR r) (nxU u) (ntA A r u) ho.turn s35 ((r28 u A r hp ho hr).frame (fun a h1 h2 => f35 a (by omega))) (by omega) (by omega) (by omega))

set_option maxRecDepth 20000 in
theorem C_drift (Γ : GC) (M : Mm) (nn : Int) (hn : R32 nn) (r : Nat → Int) (u : Int) (A : Nat → Int) (ho : OkR r) (hr : stRel M 1 r) (hp : pastRel M 5 u A) : Ct Γ uX8_drift [rf Γ 0, vi nn] M (fun z M' => (¬ (1 ≤ nn ∧ nn ≤ 40) ∧ z = -1 ∧ M' = M) ∨ ((1 ≤ nn ∧ nn ≤ 40) ∧ xdP M M' z nn.toNat r u A)) := by
  refine Ct.of (by decide) (Nat.le_of_ble_eq_true rfl) ?_
  show AW Γ uX8_drift 0 [(0, rf Γ 0), (1, vi nn)] [] M _
  refine AW.iload_n dX8_drift_0 1 rfl rfl ?_
  refine AW.iconst dX8_drift_1 ?_
  refine AW.icmp_lt 11 dX8_drift_2 (by decide) (by omega) (by omega) (fun c2 => ?_) (fun c2 => ?_)
  · refine AW.iconst dX8_drift_11 ?_
    exact AW.iret rfl dX8_drift_12 (Or.inl ⟨by omega, rfl, rfl⟩)
  · refine AW.iload_n dX8_drift_5 1 rfl rfl ?_
    refine AW.bipush (z := (40)) dX8_drift_6 (by decide) ?_
    refine AW.icmp_le 13 dX8_drift_8 (by decide) (by omega) (by omega) (fun c8 => ?_) (fun c8 => ?_)
    · refine AW.iconst dX8_drift_13 ?_
      refine AW.top (fun x14 ex14 => ?_)
      refine AW.istore_n [(2, vi x14), (0, rf Γ 0), (1, vi nn)] dX8_drift_14 rfl (by decide) rfl ?_
      refine AW.sub [0, 1, 2] rfl ?_
      exact AW.mono (fun z M' h => Or.inr ⟨by omega, h⟩) (drift_loop Γ nn (by omega) (nn.toNat + 1) nn.toNat x14 M r u A ho hr hp (by omega) (by omega) (by omega))
    · refine AW.iconst dX8_drift_11 ?_
      exact AW.iret rfl dX8_drift_12 (Or.inl ⟨by omega, rfl, rfl⟩)

def mdP (M M' : Mm) (z : Int) (n : Nat) : Prop := z = (drG n (M 96) (M 94 18) (M 102)).1 0 ∧ M' 96 = (drG n (M 96) (M 94 18) (M 102)).1 ∧ M' 94 18 = (drG n (M 96) (M 94 18) (M 102)).2.1 ∧ (∀ j : Nat, j < 354 → M' 102 j = (drG n (M 96) (M 94 18) (M 102)).2.2 j) ∧ (∀ j : Nat, j ≠ 16 → j ≠ 18 → M' 94 j = M 94 j) ∧ ∀ a : Nat, a ≠ 94 → a ≠ 96 → a ≠ 97 → a ≠ 102 → M' a = M a
theorem mdP.step {N M1 M' : Mm} {z : Int} {n : Nat} (hu : 0 ≤ N 94 18 ∧ N 94 18 ≤ 6) (h : mdP M1 M' z n) (e96 : M1 96 = turnR (N 96)) (eu : M1 94 18 = nxU (N 94 18)) (eA : M1 102 = ntA (N 102) (va_cpy (N 96) (N 97) 0 0 59) (N 94 18)) (e94 : ∀ j : Nat, j ≠ 16 → j ≠ 18 → M1 94 j = N 94 j) (ef : ∀ a : Nat, a ≠ 94 → a ≠ 96 → a ≠ 97 → a ≠ 102 → M1 a = N a) : mdP N M' z (n + 1) := by
  obtain ⟨h1, h2, h3, h4, h5, h6⟩ := h
  have hc := drG_congr n (turnR (N 96)) (nxU (N 94 18)) (ntA (N 102) (va_cpy (N 96) (N 97) 0 0 59) (N 94 18)) (ntA (N 102) (N 96) (N 94 18)) (nxU_b hu) (ntA_congr hu (fun _ _ => rfl) (fun j hj => (cpy59 (N 96) (N 97) j hj).symm))
  rw [e96, eu, eA] at h1 h2 h3 h4
  refine ⟨?_, ?_, ?_, fun j hj => ?_, fun j a1 a2 => by rw [h5 j a1 a2, e94 j a1 a2], fun a a1 a2 a3 a4 => by rw [h6 a a1 a2 a3 a4, ef a a1 a2 a3 a4]⟩
  · rw [h1, hc.1]; rfl
  · rw [h2, hc.1]; rfl
  · rw [h3, hc.2.1]; rfl
  · rw [h4 j hj, hc.2.2 j hj]; rfl

set_option maxRecDepth 20000 in
theorem drift9_loop (Γ : GC) (nn : Int) (hn : 1 ≤ nn ∧ nn ≤ 40) : ∀ (n cnt : Nat) (x : Int) (N : Mm), OkR (N 96) → (0 ≤ N 94 18 ∧ N 94 18 ≤ 6) → x + cnt = nn → 0 ≤ x → cnt < n → AW Γ uX9_drift 16 [(2, vi x), (0, rf Γ 94), (1, vi nn)] [] N (fun z M' => mdP N M' z cnt) := by
  intro n
  induction n with
  | zero => intro cnt x N ho hu hx hx0 hc; omega
  | succ n ih =>
    intro cnt x N ho hu hx hx0 hc
    have h4 := ho.2.2.2.2.1
    have hb := dr_b (N 96)
    have ho1 := ho.draw hb
    refine AW.iload_n dX9_drift_16 0 rfl rfl ?_
    refine AW.iload_n dX9_drift_17 2 rfl rfl ?_
    refine AW.icmp_ge 153 dX9_drift_18 (by decide) (by omega) (by omega) (fun c18 => ?_) (fun c18 => ?_)
    · refine AW.aload_n dX9_drift_153 1 rfl rfl ?_
      refine AW.getR dX9_drift_154 fl_X9_13 (show sh 94 = (0, 9, [some 95, some 96, some 97, none, none, none, some 98, some 99, some 100, none, none, none, none, some 101, none, none, none, some 102, none, some 103, some 104, none, some 105, some 106, some 107, some 108]) from rfl) rfl ?_
      refine AW.iconst dX9_drift_157 ?_
      refine AW.ialdN 0 dX9_drift_158 (show sh 96 = (1, 59, []) from rfl) rfl (by decide) (by decide) ?_
      rw [show cnt = 0 by omega]
      exact AW.iret rfl dX9_drift_159 ⟨rfl, rfl, rfl, fun _ _ => rfl, fun _ _ _ => rfl, fun _ _ _ _ _ => rfl⟩
    · refine AW.aload_n dX9_drift_21 1 rfl rfl ?_
      refine AW.callV0v (C9_holds Γ N) dX9_drift_22 mc_X9_111 (show sh 94 = (0, 9, [some 95, some 96, some 97, none, none, none, some 98, some 99, some 100, none, none, none, none, some 101, none, none, none, some 102, none, some 103, some 104, none, some 105, some 106, some 107, some 108]) from rfl) (fun _ => rfl) ⟨Nat.le_of_ble_eq_true rfl, Nat.le_of_ble_eq_true rfl⟩ (Nat.le_of_ble_eq_true rfl) (fun z22 M22 h22 => ?_)
      obtain ⟨N1, hN1⟩ : ∃ q : Mm, q = M22 := ⟨_, rfl⟩
      rw [← hN1] at h22 ⊢
      clear hN1
      have a1 : N1 96 = N 96 := by rw [h22, upM_n (by decide)]
      have a2 : N1 94 = N 94 := by rw [h22, upM_n (by decide)]
      have a3 : N1 102 = N 102 := by rw [h22, upM_n (by decide)]
      have a4 : N1 97 = va_cpy (N 96) (N 97) 0 0 59 := by rw [h22, upM_s]
      have a5 : ∀ a : Nat, a ≠ 97 → N1 a = N a := fun a ha => by rw [h22, upM_n ha]
      refine AW.aload_n dX9_drift_25 1 rfl rfl ?_
      refine AW.callV0v (C9_notes Γ N1 (by rw [a2]; exact hu)) dX9_drift_26 mc_X9_108 (show sh 94 = (0, 9, [some 95, some 96, some 97, none, none, none, some 98, some 99, some 100, none, none, none, none, some 101, none, none, none, some 102, none, some 103, some 104, none, some 105, some 106, some 107, some 108]) from rfl) (fun _ => rfl) ⟨Nat.le_of_ble_eq_true rfl, Nat.le_of_ble_eq_true rfl⟩ (Nat.le_of_ble_eq_true rfl) (fun z26 M26 h26 => ?_)
      obtain ⟨b1, b2, b3, b4⟩ := h26
      have b5 : M26 96 = N 96 := by rw [b4 96 (by decide) (by decide), a1]
      refine AW.aload_n dX9_drift_29 1 rfl rfl ?_
      refine AW.getR dX9_drift_30 fl_X9_13 (show sh 94 = (0, 9, [some 95, some 96, some 97, none, none, none, some 98, some 99, some 100, none, none, none, none, some 101, none, none, none, some 102, none, some 103, some 104, none, some 105, some 106, some 107, some 108]) from rfl) rfl ?_
      refine AW.iconst dX9_drift_33 ?_
      refine AW.ialdN 4 dX9_drift_34 (show sh 96 = (1, 59, []) from rfl) rfl (by decide) (by decide) ?_
      rw [b5]
      refine AW.i2l dX9_drift_35 (by omega) ?_
      refine AW.ldc2 (z := 1103515245) dX9_drift_36 kl_X9_231 (by decide +kernel) ?_
      refine AW.lmul dX9_drift_39 ?_
      refine AW.ldc2 (z := 12345) dX9_drift_40 kl_X9_233 (by decide +kernel) ?_
      refine AW.ladd dX9_drift_43 ?_
      refine AW.ldc2 (z := 2147483648) dX9_drift_44 kl_X9_235 (by decide +kernel) ?_
      refine AW.lrem dX9_drift_47 (by omega) (by omega) ?_
      rw [show (N 96 4 * 1103515245 + 12345) % 2147483648 = dr (N 96) from rfl]
      refine AW.topl (fun nx enx => ?_)
      refine AW.lstore_n [(3, vl nx), (2, vi x), (0, rf Γ 94), (1, vi nn)] dX9_drift_48 rfl (by decide) rfl ?_
      refine AW.aload_n dX9_drift_49 2 rfl rfl ?_
      refine AW.getR dX9_drift_50 fl_X9_13 (show sh 94 = (0, 9, [some 95, some 96, some 97, none, none, none, some 98, some 99, some 100, none, none, none, none, some 101, none, none, none, some 102, none, some 103, some 104, none, some 105, some 106, some 107, some 108]) from rfl) rfl ?_
      refine AW.iconst dX9_drift_53 ?_
      refine AW.lload_n dX9_drift_54 0 rfl rfl ?_
      refine AW.l2i dX9_drift_55 ?_
      refine AW.iastN 4 dX9_drift_56 (show sh 96 = (1, 59, []) from rfl) rfl (by decide) (by decide) ?_
      refine AW.lload_n dX9_drift_57 0 rfl rfl ?_
      refine AW.ldc2 (z := 65536) dX9_drift_58 kl_X9_237 (by decide +kernel) ?_
      refine AW.ldiv dX9_drift_61 (by omega) (by omega) ?_
      refine AW.l2i dX9_drift_62 ?_
      refine AW.top (fun x2 ex2 => ?_)
      refine AW.istore [(5, vi x2), (3, vl nx), (2, vi x), (0, rf Γ 94), (1, vi nn)] dX9_drift_63 (by decide) rfl ?_
      refine AW.iload dX9_drift_65 0 rfl ?_
      refine AW.bipush (z := (8)) dX9_drift_67 (by decide) ?_
      refine AW.idiv dX9_drift_69 (by omega) (by omega) ?_
      refine AW.top (fun y2 ey2 => ?_)
      refine AW.istore [(6, vi y2), (5, vi x2), (3, vl nx), (2, vi x), (0, rf Γ 94), (1, vi nn)] dX9_drift_70 (by decide) rfl ?_
      refine AW.iload dX9_drift_72 1 rfl ?_
      refine AW.bipush (z := (8)) dX9_drift_74 (by decide) ?_
      refine AW.irem dX9_drift_76 (by omega) (by omega) ?_
      refine AW.top (fun hw ehw => ?_)
      refine AW.istore [(7, vi hw), (6, vi y2), (5, vi x2), (3, vl nx), (2, vi x), (0, rf Γ 94), (1, vi nn)] dX9_drift_77 (by decide) rfl ?_
      obtain ⟨N3, hN3⟩ : ∃ q : Mm, q = up2 M26 96 4 nx := ⟨_, rfl⟩
      rw [← hN3]
      have c1 : N3 96 = up1 (N 96) 4 (dr (N 96)) := by rw [hN3, up2_up, upM_s, b5, enx]
      have c2 : ∀ a : Nat, a ≠ 96 → N3 a = M26 a := fun a ha => by rw [hN3, up2_c ha]
      refine AW.aload_n dX9_drift_79 5 rfl rfl ?_
      refine AW.iload dX9_drift_80 0 rfl ?_
      refine AW.iconst dX9_drift_82 ?_
      refine AW.icmp_ge 98 dX9_drift_83 (by decide) (by omega) (by omega) (fun c83 => ?_) (fun c83 => ?_)
      · refine AW.iload dX9_drift_98 0 rfl ?_
        refine AW.iconst dX9_drift_100 ?_
        refine AW.icmp_ne 111 dX9_drift_101 (by decide) (by omega) (by omega) (fun c101 => ?_) (fun c101 => ?_)
        · refine AW.iload dX9_drift_111 0 rfl ?_
          refine AW.iconst dX9_drift_113 ?_
          refine AW.icmp_ne 129 dX9_drift_114 (by decide) (by omega) (by omega) (fun c114 => ?_) (fun c114 => ?_)
          · refine AW.aload_n dX9_drift_129 5 rfl rfl ?_
            refine AW.iload dX9_drift_130 0 rfl ?_
            refine AW.bipush (z := (6)) dX9_drift_132 (by decide) ?_
            refine AW.isub dX9_drift_134 ?_
            refine AW.iload dX9_drift_135 1 rfl ?_
            refine AW.iconst dX9_drift_137 ?_
            refine AW.irem dX9_drift_138 (by omega) (by omega) ?_
            refine AW.iconst dX9_drift_139 ?_
            refine AW.iadd dX9_drift_140 ?_
            refine AW.callV2i (C9_tells Γ N3 (by rw [c1]; exact ho1) _ _ (by omega) (by omega)) dX9_drift_141 mc_X9_133 (show sh 94 = (0, 9, [some 95, some 96, some 97, none, none, none, some 98, some 99, some 100, none, none, none, none, some 101, none, none, none, some 102, none, some 103, some 104, none, some 105, some 106, some 107, some 108]) from rfl) (fun _ => rfl) ⟨Nat.le_of_ble_eq_true rfl, Nat.le_of_ble_eq_true rfl⟩ (Nat.le_of_ble_eq_true rfl) (fun z141 M141 h141 => ?_)
            obtain ⟨e141, m141⟩ := h141
            rw [c1] at m141
            refine AW.putI dX9_drift_144 fp_X9_239 (show sh 94 = (0, 9, [some 95, some 96, some 97, none, none, none, some 98, some 99, some 100, none, none, none, none, some 101, none, none, none, some 102, none, some 103, some 104, none, some 105, some 106, some 107, some 108]) from rfl) rfl ?_
            obtain ⟨x147, ex147⟩ : ∃ z : Int, x + 1 = z := ⟨_, rfl⟩
            refine AW.iinc [(2, vi x147), (7, vi hw), (6, vi y2), (5, vi x2), (3, vl nx), (0, rf Γ 94), (1, vi nn)] dX9_drift_147 4 rfl (by decide) x147 ex147 rfl ?_
            refine AW.goto 16 dX9_drift_150 (by decide) ?_
            refine AW.sub [0, 5, 6] rfl ?_
            obtain ⟨cnt, rfl⟩ : ∃ q : Nat, cnt = q + 1 := ⟨cnt - 1, by omega⟩
            refine AW.mono (fun z M' h => mdP.step hu h ?_ ?_ ?_ ?_ ?_) (ih cnt x147 _ ?_ ?_ (by omega) (by omega) (by omega))
            all_goals subst m141
            · rw [up2_c (by decide), upM_s]; subst ehw; subst ey2; subst ex2; subst enx; unfold turnR; rw [if_neg (by omega), if_neg (by omega), if_neg (by omega)]
            · rw [up2_i (by decide), upM_n (by decide), c2 94 (by decide), b2, a2]
            · rw [up2_c (by decide), upM_n (by decide), c2 102 (by decide), b1, a3, a4, a2]
            · intro j q1 q2; rw [up2_i q1, upM_n (by decide), c2 94 (by decide), b3 j q2, a2]
            · intro a q1 q2 q3 q4; rw [up2_c q1, upM_n q2, c2 a q2, b4 a q1 q4, a5 a q3]
            · rw [up2_c (by decide), upM_s]; first | exact ho1.say _ | exact ho1.back | exact ho1.call _ | exact ho1.tell _ _
            · rw [up2_i (by decide), upM_n (by decide), c2 94 (by decide), b2, a2]; exact nxU_b hu
          · refine AW.aload_n dX9_drift_117 5 rfl rfl ?_
            refine AW.iload dX9_drift_118 1 rfl ?_
            refine AW.bipush (z := (6)) dX9_drift_120 (by decide) ?_
            refine AW.irem dX9_drift_122 (by omega) (by omega) ?_
            refine AW.callV1i (C9_calls Γ N3 (by rw [c1]; exact ho1) _ (by omega)) dX9_drift_123 mc_X9_130 (show sh 94 = (0, 9, [some 95, some 96, some 97, none, none, none, some 98, some 99, some 100, none, none, none, none, some 101, none, none, none, some 102, none, some 103, some 104, none, some 105, some 106, some 107, some 108]) from rfl) (fun _ => rfl) ⟨Nat.le_of_ble_eq_true rfl, Nat.le_of_ble_eq_true rfl⟩ (Nat.le_of_ble_eq_true rfl) (fun z123 M123 h123 => ?_)
            obtain ⟨e123, m123⟩ := h123
            rw [c1] at m123
            refine AW.goto 144 dX9_drift_126 (by decide) ?_
            refine AW.putI dX9_drift_144 fp_X9_239 (show sh 94 = (0, 9, [some 95, some 96, some 97, none, none, none, some 98, some 99, some 100, none, none, none, none, some 101, none, none, none, some 102, none, some 103, some 104, none, some 105, some 106, some 107, some 108]) from rfl) rfl ?_
            obtain ⟨x147, ex147⟩ : ∃ z : Int, x + 1 = z := ⟨_, rfl⟩
            refine AW.iinc [(2, vi x147), (7, vi hw), (6, vi y2), (5, vi x2), (3, vl nx), (0, rf Γ 94), (1, vi nn)] dX9_drift_147 4 rfl (by decide) x147 ex147 rfl ?_
            refine AW.goto 16 dX9_drift_150 (by decide) ?_
            refine AW.sub [0, 5, 6] rfl ?_
            obtain ⟨cnt, rfl⟩ : ∃ q : Nat, cnt = q + 1 := ⟨cnt - 1, by omega⟩
            refine AW.mono (fun z M' h => mdP.step hu h ?_ ?_ ?_ ?_ ?_) (ih cnt x147 _ ?_ ?_ (by omega) (by omega) (by omega))
            all_goals subst m123
            · rw [up2_c (by decide), upM_s]; subst ehw; subst ey2; subst ex2; subst enx; unfold turnR; rw [if_neg (by omega), if_neg (by omega), if_pos (by omega)]
            · rw [up2_i (by decide), upM_n (by decide), c2 94 (by decide), b2, a2]
            · rw [up2_c (by decide), upM_n (by decide), c2 102 (by decide), b1, a3, a4, a2]
            · intro j q1 q2; rw [up2_i q1, upM_n (by decide), c2 94 (by decide), b3 j q2, a2]
            · intro a q1 q2 q3 q4; rw [up2_c q1, upM_n q2, c2 a q2, b4 a q1 q4, a5 a q3]
            · rw [up2_c (by decide), upM_s]; first | exact ho1.say _ | exact ho1.back | exact ho1.call _ | exact ho1.tell _ _
            · rw [up2_i (by decide), upM_n (by decide), c2 94 (by decide), b2, a2]; exact nxU_b hu
        · refine AW.aload_n dX9_drift_104 5 rfl rfl ?_
          refine AW.callV0i (C9_takesBack Γ N3 (by rw [c1]; exact ho1) ) dX9_drift_105 mc_X9_120 (show sh 94 = (0, 9, [some 95, some 96, some 97, none, none, none, some 98, some 99, some 100, none, none, none, none, some 101, none, none, none, some 102, none, some 103, some 104, none, some 105, some 106, some 107, some 108]) from rfl) (fun _ => rfl) ⟨Nat.le_of_ble_eq_true rfl, Nat.le_of_ble_eq_true rfl⟩ (Nat.le_of_ble_eq_true rfl) (fun z105 M105 h105 => ?_)
          obtain ⟨e105, m105⟩ := h105
          rw [c1] at m105
          refine AW.goto 144 dX9_drift_108 (by decide) ?_
          refine AW.putI dX9_drift_144 fp_X9_239 (show sh 94 = (0, 9, [some 95, some 96, some 97, none, none, none, some 98, some 99, some 100, none, none, none, none, some 101, none, none, none, some 102, none, some 103, some 104, none, some 105, some 106, some 107, some 108]) from rfl) rfl ?_
          obtain ⟨x147, ex147⟩ : ∃ z : Int, x + 1 = z := ⟨_, rfl⟩
          refine AW.iinc [(2, vi x147), (7, vi hw), (6, vi y2), (5, vi x2), (3, vl nx), (0, rf Γ 94), (1, vi nn)] dX9_drift_147 4 rfl (by decide) x147 ex147 rfl ?_
          refine AW.goto 16 dX9_drift_150 (by decide) ?_
          refine AW.sub [0, 5, 6] rfl ?_
          obtain ⟨cnt, rfl⟩ : ∃ q : Nat, cnt = q + 1 := ⟨cnt - 1, by omega⟩
          refine AW.mono (fun z M' h => mdP.step hu h ?_ ?_ ?_ ?_ ?_) (ih cnt x147 _ ?_ ?_ (by omega) (by omega) (by omega))
          all_goals subst m105
          · rw [up2_c (by decide), upM_s]; subst ehw; subst ey2; subst ex2; subst enx; unfold turnR; rw [if_neg (by omega), if_pos (by omega)]
          · rw [up2_i (by decide), upM_n (by decide), c2 94 (by decide), b2, a2]
          · rw [up2_c (by decide), upM_n (by decide), c2 102 (by decide), b1, a3, a4, a2]
          · intro j q1 q2; rw [up2_i q1, upM_n (by decide), c2 94 (by decide), b3 j q2, a2]
          · intro a q1 q2 q3 q4; rw [up2_c q1, upM_n q2, c2 a q2, b4 a q1 q4, a5 a q3]
          · rw [up2_c (by decide), upM_s]; first | exact ho1.say _ | exact ho1.back | exact ho1.call _ | exact ho1.tell _ _
          · rw [up2_i (by decide), upM_n (by decide), c2 94 (by decide), b2, a2]; exact nxU_b hu
      · refine AW.aload_n dX9_drift_86 5 rfl rfl ?_
        refine AW.iload dX9_drift_87 1 rfl ?_
        refine AW.bipush (z := (26)) dX9_drift_89 (by decide) ?_
        refine AW.irem dX9_drift_91 (by omega) (by omega) ?_
        refine AW.callV1i (C9_says Γ N3 (by rw [c1]; exact ho1) _ (by omega)) dX9_drift_92 mc_X9_114 (show sh 94 = (0, 9, [some 95, some 96, some 97, none, none, none, some 98, some 99, some 100, none, none, none, none, some 101, none, none, none, some 102, none, some 103, some 104, none, some 105, some 106, some 107, some 108]) from rfl) (fun _ => rfl) ⟨Nat.le_of_ble_eq_true rfl, Nat.le_of_ble_eq_true rfl⟩ (Nat.le_of_ble_eq_true rfl) (fun z92 M92 h92 => ?_)
        obtain ⟨e92, m92⟩ := h92
        rw [c1] at m92
        refine AW.goto 144 dX9_drift_95 (by decide) ?_
        refine AW.putI dX9_drift_144 fp_X9_239 (show sh 94 = (0, 9, [some 95, some 96, some 97, none, none, none, some 98, some 99, some 100, none, none, none, none, some 101, none, none, none, some 102, none, some 103, some 104, none, some 105, some 106, some 107, some 108]) from rfl) rfl ?_
        obtain ⟨x147, ex147⟩ : ∃ z : Int, x + 1 = z := ⟨_, rfl⟩
        refine AW.iinc [(2, vi x147), (7, vi hw), (6, vi y2), (5, vi x2), (3, vl nx), (0, rf Γ 94), (1, vi nn)] dX9_drift_147 4 rfl (by decide) x147 ex147 rfl ?_
        refine AW.goto 16 dX9_drift_150 (by decide) ?_
        refine AW.sub [0, 5, 6] rfl ?_
        obtain ⟨cnt, rfl⟩ : ∃ q : Nat, cnt = q + 1 := ⟨cnt - 1, by omega⟩
        refine AW.mono (fun z M' h => mdP.step hu h ?_ ?_ ?_ ?_ ?_) (ih cnt x147 _ ?_ ?_ (by omega) (by omega) (by omega))
        all_goals subst m92
        · rw [up2_c (by decide), upM_s]; subst ehw; subst ey2; subst ex2; subst enx; unfold turnR; rw [if_pos (by omega)]
        · rw [up2_i (by decide), upM_n (by decide), c2 94 (by decide), b2, a2]
        · rw [up2_c (by decide), upM_n (by decide), c2 102 (by decide), b1, a3, a4, a2]
        · intro j q1 q2; rw [up2_i q1, upM_n (by decide), c2 94 (by decide), b3 j q2, a2]
        · intro a q1 q2 q3 q4; rw [up2_c q1, upM_n q2, c2 a q2, b4 a q1 q4, a5 a q3]
        · rw [up2_c (by decide), upM_s]; first | exact ho1.say _ | exact ho1.back | exact ho1.call _ | exact ho1.tell _ _
        · rw [up2_i (by decide), upM_n (by decide), c2 94 (by decide), b2, a2]; exact nxU_b hu

set_option maxRecDepth 20000 in
theorem C9_drift (Γ : GC) (M : Mm) (nn : Int) (hn : R32 nn) (ho : OkR (M 96)) (hu : 0 ≤ M 94 18 ∧ M 94 18 ≤ 6) : Ct Γ uX9_drift [rf Γ 94, vi nn] M (fun z M' => (¬ (1 ≤ nn ∧ nn ≤ 40) ∧ z = -1 ∧ M' = M) ∨ ((1 ≤ nn ∧ nn ≤ 40) ∧ mdP M M' z nn.toNat)) := by
  refine Ct.of (by decide) (Nat.le_of_ble_eq_true rfl) ?_
  show AW Γ uX9_drift 0 [(0, rf Γ 94), (1, vi nn)] [] M _
  refine AW.iload_n dX9_drift_0 1 rfl rfl ?_
  refine AW.i2l dX9_drift_1 (by omega) ?_
  refine AW.lconst (z := (1)) dX9_drift_2 rfl ?_
  refine AW.ldc2 (z := 40) dX9_drift_3 kl_X9_229 (by decide +kernel) ?_
  refine AW.callS3ip (C9_in Γ M _ _ _ (by omega) (by decide) (by decide)) dX9_drift_6 mc_X9_76 (fun _ => rfl) ⟨Nat.le_of_ble_eq_true rfl, Nat.le_of_ble_eq_true rfl⟩ (Nat.le_of_ble_eq_true rfl) ?_
  refine AW.if_ne 14 dX9_drift_9 (by decide) (bI_r _) (fun c9 => ?_) (fun c9 => ?_)
  · have d9 := bI1.mp c9
    refine AW.iconst dX9_drift_14 ?_
    refine AW.top (fun x15 ex15 => ?_)
    refine AW.istore_n [(2, vi x15), (0, rf Γ 94), (1, vi nn)] dX9_drift_15 rfl (by decide) rfl ?_
    refine AW.sub [0, 1, 2] rfl ?_
    exact AW.mono (fun z M' h => Or.inr ⟨by omega, h⟩) (drift9_loop Γ nn (by omega) (nn.toNat + 1) nn.toNat x15 M ho hu (by omega) (by omega) (by omega))
  · have d9 := bI0.mp c9
    refine AW.iconst dX9_drift_12 ?_
    exact AW.iret rfl dX9_drift_13 (Or.inl ⟨by omega, rfl, rfl⟩)
