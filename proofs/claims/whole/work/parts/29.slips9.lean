/-! slips of the reference -/
def slV (r : Nat → Int) (c wd : Int) (i v : Nat) : Int := if c = 0 then 1 - slL r i v else if c = 1 then slL r i v else if wd = -4 then 0 else slN r wd i v
theorem slV_01 (r : Nat → Int) (c wd : Int) (i v : Nat) : slV r c wd i v = 0 ∨ slV r c wd i v = 1 := by
  have h1 : slL r i v = 0 ∨ slL r i v = 1 := bI_01 _
  have h2 : slN r wd i v = 0 ∨ slN r wd i v = 1 := bI_01 _
  unfold slV; (repeat' split) <;> omega
theorem sum1_zero : ∀ n : Nat, sum1 (fun _ _ => 0) n = 0
  | 0 => rfl
  | n + 1 => by simp only [sum1]; rw [sum1_zero n]; rfl
theorem slipS_V (r : Nat → Int) (ho : OkR r) (c : Int) (hc : 0 ≤ c ∧ c ≤ 2) : sum1 (slV r c (nearF (mLo r) (mHi r) r (r 0)).1) (4 * (r 0).toNat) = slipS r c := by
  have hb := ho.1
  unfold slipS
  rcases (show c = 0 ∨ c = 1 ∨ c = 2 by omega) with rfl | rfl | rfl
  · rw [if_pos rfl, show slV r 0 (nearF (mLo r) (mHi r) r (r 0)).1 = fun i v => 1 - slL r i v from by funext i v; simp [slV], sum1_neg, sum1_4]
    omega
  · rw [if_neg (by omega), if_pos rfl, show slV r 1 (nearF (mLo r) (mHi r) r (r 0)).1 = slL r from by funext i v; simp [slV], sum1_4]
  · rw [if_neg (by omega), if_neg (by omega), if_pos rfl]
    by_cases hw : (nearF (mLo r) (mHi r) r (r 0)).1 = -4
    · rw [if_pos hw, show slV r 2 (nearF (mLo r) (mHi r) r (r 0)).1 = fun _ _ => 0 from by funext i v; simp [slV, hw], sum1_zero]
    · rw [if_neg hw, show slV r 2 (nearF (mLo r) (mHi r) r (r 0)).1 = slN r (nearF (mLo r) (mHi r) r (r 0)).1 from by funext i v; simp [slV, hw], sum1_4]
theorem noneL {p q : Int} (hp : D8 p) (hq : D8 q) : R32 (if sgn p q = 26 then -4 else sgn p q) ∧ ((if sgn p q = 26 then -4 else sgn p q) < 0 → isL p q = 0) ∧ (0 ≤ (if sgn p q = 26 then -4 else sgn p q) → isL p q = 1) := by
  have h1 := sgn_b hp hq; have h2 := sgn_c hp hq
  unfold isL
  generalize sgn p q = z at *
  by_cases h : z = 26
  · rw [if_pos h]; exact ⟨⟨by omega, by omega⟩, fun _ => bI_f (by omega), fun q => absurd q (by omega)⟩
  · rw [if_neg h]; exact ⟨⟨by omega, by omega⟩, fun q => bI_f (by omega), fun q => bI_t (by omega)⟩
/-- what the reference leaves as it was -/
def off9 (M N : Mm) : Prop := (∀ j : Nat, j ≠ 9 → j ≠ 10 → j ≠ 11 → j ≠ 12 → N 94 j = M 94 j) ∧ ∀ a : Nat, a ≠ 94 → a ≠ 99 → a ≠ 100 → N a = M a

theorem up1_s {f : Nat → Int} {i : Nat} {z : Int} : up1 f i z i = z := if_pos rfl
theorem up1_n {f : Nat → Int} {i j : Nat} {z : Int} (h : j ≠ i) : up1 f i z j = f j := if_neg h
set_option maxRecDepth 20000 in
theorem slips9_loop (Γ : GC) (M : Mm) (hsg : SG M) (ho : OkR (M 96)) (c wd : Int) (hc : 0 ≤ c ∧ c ≤ 2) (hwd : wd = -4 ∨ (0 ≤ wd ∧ wd < 6)) : ∀ (n s : Nat) (x f : Int) (N : Mm), x = s → (s : Int) ≤ 4 * M 96 0 → f = sum1 (slV (M 96) c wd) s → off9 M N → 48 - s < n → AW Γ uX9_slips 32 [(4, vi x), (3, vi f), (2, vi wd), (1, vi c), (0, rf Γ 94)] [] N (fun z M' => z = sum1 (slV (M 96) c wd) (4 * (M 96 0).toNat) ∧ off9 M M') := by
  obtain ⟨o0, o1, o2, o3, o4, o5, o6⟩ := id ho
  intro n
  induction n with
  | zero => intro s x f N g0 g1 g2 g3 gm; omega
  | succ n ih =>
    intro s x f N g0 g1 g2 g3 gm
    have h96 : N 96 = M 96 := g3.2 96 (by decide) (by decide) (by decide)
    have sgN : SG N := fun j hj => by rw [g3.2 95 (by decide) (by decide) (by decide)]; exact hsg j hj
    have hfb := sum1_b (slV (M 96) c wd) (slV_01 (M 96) c wd) s
    have hv01 := slV_01 (M 96) c wd (s / 4) (s % 4)
    have J3 : ∀ (N3 : Mm) (z8 : Int), off9 M N3 → z8 = slV (M 96) c wd (s / 4) (s % 4) → (s : Int) < 4 * M 96 0 → AW Γ uX9_slips 207 [(8, vi z8), (4, vi x), (3, vi f), (2, vi wd), (1, vi c), (0, rf Γ 94)] [] N3 (fun z M' => z = sum1 (slV (M 96) c wd) (4 * (M 96 0).toNat) ∧ off9 M M') := by
      intro N3 z8 hN3 hz8 hlt
      refine AW.iload_n dX9_slips_207 2 rfl rfl ?_
      refine AW.iload dX9_slips_208 0 rfl ?_
      refine AW.if_eq 217 dX9_slips_210 (by decide) (by omega) (fun c210 => ?_) (fun c210 => ?_)
      · refine AW.iconst dX9_slips_217 ?_
        refine AW.iadd dX9_slips_218 ?_
        refine AW.top (fun x219 ex219 => ?_)
        refine AW.istore_n [(3, vi x219), (8, vi z8), (4, vi x), (2, vi wd), (1, vi c), (0, rf Γ 94)] dX9_slips_219 rfl (by decide) rfl ?_
        obtain ⟨x220, ex220⟩ : ∃ z : Int, x + 1 = z := ⟨_, rfl⟩
        refine AW.iinc [(4, vi x220), (3, vi x219), (8, vi z8), (2, vi wd), (1, vi c), (0, rf Γ 94)] dX9_slips_220 2 rfl (by decide) x220 ex220 rfl ?_
        refine AW.goto 32 dX9_slips_223 (by decide) ?_
        refine AW.sub [0, 1, 3, 4, 5] rfl ?_
        exact ih (s + 1) x220 x219 N3 (by omega) (by omega) (by rw [ex219, g2]; simp only [sum1]; omega) hN3 (by omega)
      · refine AW.iconst dX9_slips_213 ?_
        refine AW.goto 218 dX9_slips_214 (by decide) ?_
        refine AW.iadd dX9_slips_218 ?_
        refine AW.top (fun x219 ex219 => ?_)
        refine AW.istore_n [(3, vi x219), (8, vi z8), (4, vi x), (2, vi wd), (1, vi c), (0, rf Γ 94)] dX9_slips_219 rfl (by decide) rfl ?_
        obtain ⟨x220, ex220⟩ : ∃ z : Int, x + 1 = z := ⟨_, rfl⟩
        refine AW.iinc [(4, vi x220), (3, vi x219), (8, vi z8), (2, vi wd), (1, vi c), (0, rf Γ 94)] dX9_slips_220 2 rfl (by decide) x220 ex220 rfl ?_
        refine AW.goto 32 dX9_slips_223 (by decide) ?_
        refine AW.sub [0, 1, 3, 4, 5] rfl ?_
        exact ih (s + 1) x220 x219 N3 (by omega) (by omega) (by rw [ex219, g2]; simp only [sum1]; omega) hN3 (by omega)
    have J2 : ∀ (N2 : Mm) (z7 y : Int), SG N2 → N2 96 = M 96 → N2 94 9 = M 96 0 → D8s (N2 99) (M 96 0) → D8s (N2 100) (M 96 0) → (∀ j : Nat, (j : Int) < M 96 0 → N2 99 j = up1 (mLo (M 96)) (s / 4) (svP (mLo (M 96) (s / 4)) (s % 4)) j ∧ N2 100 j = up1 (mHi (M 96)) (s / 4) (svQ (mHi (M 96) (s / 4)) (s % 4)) j) → off9 M N2 → z7 = 1 - slL (M 96) (s / 4) (s % 4) → (s : Int) < 4 * M 96 0 → AW Γ uX9_slips 150 [(7, vi z7), (5, vi y), (4, vi x), (3, vi f), (2, vi wd), (1, vi c), (0, rf Γ 94)] [] N2 (fun z M' => z = sum1 (slV (M 96) c wd) (4 * (M 96 0).toNat) ∧ off9 M M') := by
      intro N2 z7 y sg2 t96 q9 d1 d2 q99 hN2 hz7 hlt
      have hL01 : slL (M 96) (s / 4) (s % 4) = 0 ∨ slL (M 96) (s / 4) (s % 4) = 1 := bI_01 _
      have nb := nearF_b (lo := up1 (mLo (M 96)) (s / 4) (svP (mLo (M 96) (s / 4)) (s % 4))) (hi := up1 (mHi (M 96)) (s / 4) (svQ (mHi (M 96) (s / 4)) (s % 4))) (r := M 96) (m := M 96 0) (fun j hj => by rw [← (q99 j hj).1]; exact d1 j hj) (fun j hj => by rw [← (q99 j hj).2]; exact d2 j hj) o0
      refine AW.aload_n dX9_slips_150 6 rfl rfl ?_
      refine AW.callV0v (C9_nears Γ N2 sg2 (by rw [t96]; exact ho) (by rw [q9]; exact ho.1) (by rw [q9]; exact d1) (by rw [q9]; exact d2)) dX9_slips_151 mc_X9_200 (show sh 94 = (0, 9, [some 95, some 96, some 97, none, none, none, some 98, some 99, some 100, none, none, none, none, some 101, none, none, none, some 102, none, some 103, some 104, none, some 105, some 106, some 107, some 108]) from rfl) (fun _ => rfl) ⟨Nat.le_of_ble_eq_true rfl, Nat.le_of_ble_eq_true rfl⟩ (Nat.le_of_ble_eq_true rfl) (fun z151 M151 h151 => ?_)
      rw [q9, t96, nearF_congr (lo' := up1 (mLo (M 96)) (s / 4) (svP (mLo (M 96) (s / 4)) (s % 4))) (hi' := up1 (mHi (M 96)) (s / 4) (svQ (mHi (M 96) (s / 4)) (s % 4))) q99] at h151
      obtain ⟨⟨e1, e2, e3⟩, e4, e5⟩ := h151
      have off3 : off9 M M151 := ⟨fun j b1 b2 b3 b4 => by rw [e4 j b2 b3 b4]; exact hN2.1 j b1 b2 b3 b4, fun a b1 b2 b3 => by rw [e5 a b1]; exact hN2.2 a b1 b2 b3⟩
      refine AW.iload_n dX9_slips_154 5 rfl rfl ?_
      refine AW.if_ne 163 dX9_slips_155 (by decide) (by omega) (fun c155 => ?_) (fun c155 => ?_)
      · refine AW.iload_n dX9_slips_163 5 rfl rfl ?_
        refine AW.iconst dX9_slips_164 ?_
        refine AW.icmp_ne 181 dX9_slips_165 (by decide) (by omega) (by omega) (fun c165 => ?_) (fun c165 => ?_)
        · refine AW.iload_n dX9_slips_181 4 rfl rfl ?_
          refine AW.if_lt 204 dX9_slips_182 (by decide) (by omega) (fun c182 => ?_) (fun c182 => ?_)
          · refine AW.iconst dX9_slips_204 ?_
            refine AW.top (fun z8 ez8 => ?_)
            refine AW.istore [(8, vi z8), (7, vi z7), (5, vi y), (4, vi x), (3, vi f), (2, vi wd), (1, vi c), (0, rf Γ 94)] dX9_slips_205 (by decide) rfl ?_
            refine AW.sub [0, 3, 4, 5, 6, 7] rfl ?_
            exact J3 M151 z8 off3 (by rw [ez8]; unfold slV; first | (rw [if_pos (by omega)]; omega) | (rw [if_neg (by omega), if_pos (by omega)]; omega) | (rw [if_neg (by omega), if_neg (by omega), if_pos (by omega)]; done) | (rw [if_neg (by omega), if_neg (by omega), if_neg (by omega)]; unfold slN; first | rw [bI_t (by omega)] | rw [bI_f (by omega)])) hlt
          · refine AW.aload_n dX9_slips_185 6 rfl rfl ?_
            refine AW.getI dX9_slips_186 fl_X9_185 (show sh 94 = (0, 9, [some 95, some 96, some 97, none, none, none, some 98, some 99, some 100, none, none, none, none, some 101, none, none, none, some 102, none, some 103, some 104, none, some 105, some 106, some 107, some 108]) from rfl) rfl ?_
            refine AW.iload_n dX9_slips_189 4 rfl rfl ?_
            rw [e1]
            refine AW.icmp_ne 204 dX9_slips_190 (by decide) (by omega) (by omega) (fun c190 => ?_) (fun c190 => ?_)
            · refine AW.iconst dX9_slips_204 ?_
              refine AW.top (fun z8 ez8 => ?_)
              refine AW.istore [(8, vi z8), (7, vi z7), (5, vi y), (4, vi x), (3, vi f), (2, vi wd), (1, vi c), (0, rf Γ 94)] dX9_slips_205 (by decide) rfl ?_
              refine AW.sub [0, 3, 4, 5, 6, 7] rfl ?_
              exact J3 M151 z8 off3 (by rw [ez8]; unfold slV; first | (rw [if_pos (by omega)]; omega) | (rw [if_neg (by omega), if_pos (by omega)]; omega) | (rw [if_neg (by omega), if_neg (by omega), if_pos (by omega)]; done) | (rw [if_neg (by omega), if_neg (by omega), if_neg (by omega)]; unfold slN; first | rw [bI_t (by omega)] | rw [bI_f (by omega)])) hlt
            · refine AW.aload_n dX9_slips_193 6 rfl rfl ?_
              refine AW.getI dX9_slips_194 fl_X9_191 (show sh 94 = (0, 9, [some 95, some 96, some 97, none, none, none, some 98, some 99, some 100, none, none, none, none, some 101, none, none, none, some 102, none, some 103, some 104, none, some 105, some 106, some 107, some 108]) from rfl) rfl ?_
              rw [e3]
              refine AW.if_eq 204 dX9_slips_197 (by decide) (by omega) (fun c197 => ?_) (fun c197 => ?_)
              · refine AW.iconst dX9_slips_204 ?_
                refine AW.top (fun z8 ez8 => ?_)
                refine AW.istore [(8, vi z8), (7, vi z7), (5, vi y), (4, vi x), (3, vi f), (2, vi wd), (1, vi c), (0, rf Γ 94)] dX9_slips_205 (by decide) rfl ?_
                refine AW.sub [0, 3, 4, 5, 6, 7] rfl ?_
                exact J3 M151 z8 off3 (by rw [ez8]; unfold slV; first | (rw [if_pos (by omega)]; omega) | (rw [if_neg (by omega), if_pos (by omega)]; omega) | (rw [if_neg (by omega), if_neg (by omega), if_pos (by omega)]; done) | (rw [if_neg (by omega), if_neg (by omega), if_neg (by omega)]; unfold slN; first | rw [bI_t (by omega)] | rw [bI_f (by omega)])) hlt
              · refine AW.iconst dX9_slips_200 ?_
                refine AW.goto 205 dX9_slips_201 (by decide) ?_
                refine AW.top (fun z8 ez8 => ?_)
                refine AW.istore [(8, vi z8), (7, vi z7), (5, vi y), (4, vi x), (3, vi f), (2, vi wd), (1, vi c), (0, rf Γ 94)] dX9_slips_205 (by decide) rfl ?_
                refine AW.sub [0, 3, 4, 5, 6, 7] rfl ?_
                exact J3 M151 z8 off3 (by rw [ez8]; unfold slV; first | (rw [if_pos (by omega)]; omega) | (rw [if_neg (by omega), if_pos (by omega)]; omega) | (rw [if_neg (by omega), if_neg (by omega), if_pos (by omega)]; done) | (rw [if_neg (by omega), if_neg (by omega), if_neg (by omega)]; unfold slN; first | rw [bI_t (by omega)] | rw [bI_f (by omega)])) hlt
        · refine AW.iload dX9_slips_168 0 rfl ?_
          refine AW.if_ne 177 dX9_slips_170 (by decide) (by omega) (fun c170 => ?_) (fun c170 => ?_)
          · refine AW.iconst dX9_slips_177 ?_
            refine AW.goto 205 dX9_slips_178 (by decide) ?_
            refine AW.top (fun z8 ez8 => ?_)
            refine AW.istore [(8, vi z8), (7, vi z7), (5, vi y), (4, vi x), (3, vi f), (2, vi wd), (1, vi c), (0, rf Γ 94)] dX9_slips_205 (by decide) rfl ?_
            refine AW.sub [0, 3, 4, 5, 6, 7] rfl ?_
            exact J3 M151 z8 off3 (by rw [ez8]; unfold slV; first | (rw [if_pos (by omega)]; omega) | (rw [if_neg (by omega), if_pos (by omega)]; omega) | (rw [if_neg (by omega), if_neg (by omega), if_pos (by omega)]; done) | (rw [if_neg (by omega), if_neg (by omega), if_neg (by omega)]; unfold slN; first | rw [bI_t (by omega)] | rw [bI_f (by omega)])) hlt
          · refine AW.iconst dX9_slips_173 ?_
            refine AW.goto 205 dX9_slips_174 (by decide) ?_
            refine AW.top (fun z8 ez8 => ?_)
            refine AW.istore [(8, vi z8), (7, vi z7), (5, vi y), (4, vi x), (3, vi f), (2, vi wd), (1, vi c), (0, rf Γ 94)] dX9_slips_205 (by decide) rfl ?_
            refine AW.sub [0, 3, 4, 5, 6, 7] rfl ?_
            exact J3 M151 z8 off3 (by rw [ez8]; unfold slV; first | (rw [if_pos (by omega)]; omega) | (rw [if_neg (by omega), if_pos (by omega)]; omega) | (rw [if_neg (by omega), if_neg (by omega), if_pos (by omega)]; done) | (rw [if_neg (by omega), if_neg (by omega), if_neg (by omega)]; unfold slN; first | rw [bI_t (by omega)] | rw [bI_f (by omega)])) hlt
      · refine AW.iload dX9_slips_158 0 rfl ?_
        refine AW.goto 205 dX9_slips_160 (by decide) ?_
        refine AW.top (fun z8 ez8 => ?_)
        refine AW.istore [(8, vi z8), (7, vi z7), (5, vi y), (4, vi x), (3, vi f), (2, vi wd), (1, vi c), (0, rf Γ 94)] dX9_slips_205 (by decide) rfl ?_
        refine AW.sub [0, 3, 4, 5, 6, 7] rfl ?_
        exact J3 M151 z8 off3 (by rw [ez8]; unfold slV; first | (rw [if_pos (by omega)]; omega) | (rw [if_neg (by omega), if_pos (by omega)]; omega) | (rw [if_neg (by omega), if_neg (by omega), if_pos (by omega)]; done) | (rw [if_neg (by omega), if_neg (by omega), if_neg (by omega)]; unfold slN; first | rw [bI_t (by omega)] | rw [bI_f (by omega)])) hlt
    have J1 : ∀ (N2 : Mm) (y by7 : Int), SG N2 → N2 96 = M 96 → N2 94 9 = M 96 0 → (∀ j : Nat, (j : Int) < M 96 0 → N2 99 j = up1 (mLo (M 96)) (s / 4) (svP (mLo (M 96) (s / 4)) (s % 4)) j ∧ N2 100 j = up1 (mHi (M 96)) (s / 4) (svQ (mHi (M 96) (s / 4)) (s % 4)) j) → off9 M N2 → y = (s / 4 : Nat) → (s : Int) < 4 * M 96 0 → AW Γ uX9_slips 122 [(6, vi by7), (5, vi y), (4, vi x), (3, vi f), (2, vi wd), (1, vi c), (0, rf Γ 94)] [] N2 (fun z M' => z = sum1 (slV (M 96) c wd) (4 * (M 96 0).toNat) ∧ off9 M M') := by
      intro N2 y by7 sg2 t96 q9 q99 hN2 hy hlt
      have hno := noneL (svP_d (p := mLo (M 96) (s / 4)) (tl_b _) (s % 4)) (svQ_d (p := mHi (M 96) (s / 4)) (tg_b _) (s % 4))
      have d1 : D8s (N2 99) (M 96 0) := fun j hj => by rw [(q99 j hj).1]; unfold up1; split; exact svP_d (tl_b _) _; exact tl_b _
      have d2 : D8s (N2 100) (M 96 0) := fun j hj => by rw [(q99 j hj).2]; unfold up1; split; exact svQ_d (tg_b _) _; exact tg_b _
      refine AW.aload_n dX9_slips_122 6 rfl rfl ?_
      refine AW.aload_n dX9_slips_123 6 rfl rfl ?_
      refine AW.getR dX9_slips_124 fl_X9_22 (show sh 94 = (0, 9, [some 95, some 96, some 97, none, none, none, some 98, some 99, some 100, none, none, none, none, some 101, none, none, none, some 102, none, some 103, some 104, none, some 105, some 106, some 107, some 108]) from rfl) rfl ?_
      refine AW.iload dX9_slips_127 1 rfl ?_
      refine AW.ialdN (s / 4) dX9_slips_129 (show sh 99 = (1, 12, []) from rfl) (by omega) (by omega) (by decide) ?_
      rw [(q99 (s / 4) (by omega)).1, up1_s]
      refine AW.aload_n dX9_slips_130 6 rfl rfl ?_
      refine AW.getR dX9_slips_131 fl_X9_25 (show sh 94 = (0, 9, [some 95, some 96, some 97, none, none, none, some 98, some 99, some 100, none, none, none, none, some 101, none, none, none, some 102, none, some 103, some 104, none, some 105, some 106, some 107, some 108]) from rfl) rfl ?_
      refine AW.iload dX9_slips_134 1 rfl ?_
      refine AW.ialdN (s / 4) dX9_slips_136 (show sh 100 = (1, 12, []) from rfl) (by omega) (by omega) (by decide) ?_
      rw [(q99 (s / 4) (by omega)).2, up1_s]
      refine AW.callV2ip (C9_letterOf Γ N2 sg2 _ _ (svP_d (tl_b _) _) (svQ_d (tg_b _) _)) dX9_slips_137 mc_X9_68 (show sh 94 = (0, 9, [some 95, some 96, some 97, none, none, none, some 98, some 99, some 100, none, none, none, none, some 101, none, none, none, some 102, none, some 103, some 104, none, some 105, some 106, some 107, some 108]) from rfl) (fun _ => rfl) ⟨Nat.le_of_ble_eq_true rfl, Nat.le_of_ble_eq_true rfl⟩ (Nat.le_of_ble_eq_true rfl) ?_
      refine AW.if_ge 147 dX9_slips_140 (by decide) hno.1 (fun c140 => ?_) (fun c140 => ?_)
      · refine AW.iconst dX9_slips_147 ?_
        refine AW.top (fun z7 ez7 => ?_)
        refine AW.istore [(7, vi z7), (6, vi by7), (5, vi y), (4, vi x), (3, vi f), (2, vi wd), (1, vi c), (0, rf Γ 94)] dX9_slips_148 (by decide) rfl ?_
        refine AW.sub [0, 2, 3, 4, 5, 6, 7] rfl ?_
        exact J2 N2 z7 y sg2 t96 q9 d1 d2 q99 hN2 (by rw [ez7]; unfold slL; first | (rw [hno.2.2 c140]; rfl) | (rw [hno.2.1 c140]; rfl)) hlt
      · refine AW.iconst dX9_slips_143 ?_
        refine AW.goto 148 dX9_slips_144 (by decide) ?_
        refine AW.top (fun z7 ez7 => ?_)
        refine AW.istore [(7, vi z7), (6, vi by7), (5, vi y), (4, vi x), (3, vi f), (2, vi wd), (1, vi c), (0, rf Γ 94)] dX9_slips_148 (by decide) rfl ?_
        refine AW.sub [0, 2, 3, 4, 5, 6, 7] rfl ?_
        exact J2 N2 z7 y sg2 t96 q9 d1 d2 q99 hN2 (by rw [ez7]; unfold slL; first | (rw [hno.2.2 c140]; rfl) | (rw [hno.2.1 c140]; rfl)) hlt
    refine AW.iload dX9_slips_32 0 rfl ?_
    refine AW.iconst dX9_slips_34 ?_
    refine AW.aload_n dX9_slips_35 4 rfl rfl ?_
    refine AW.getR dX9_slips_36 fl_X9_13 (show sh 94 = (0, 9, [some 95, some 96, some 97, none, none, none, some 98, some 99, some 100, none, none, none, none, some 101, none, none, none, some 102, none, some 103, some 104, none, some 105, some 106, some 107, some 108]) from rfl) rfl ?_
    refine AW.iconst dX9_slips_39 ?_
    refine AW.ialdN 0 dX9_slips_40 (show sh 96 = (1, 59, []) from rfl) rfl (by decide) (by decide) ?_
    refine AW.imul dX9_slips_41 ?_
    rw [h96]
    refine AW.icmp_ge 226 dX9_slips_42 (by decide) (by omega) (by omega) (fun c42 => ?_) (fun c42 => ?_)
    · refine AW.iload_n dX9_slips_226 1 rfl rfl ?_
      exact AW.iret rfl dX9_slips_227 ⟨by rw [g2, show s = 4 * (M 96 0).toNat by omega], g3⟩
    · refine AW.aload_n dX9_slips_45 4 rfl rfl ?_
      refine AW.callV0v (C9_sees Γ N sgN (by rw [h96]; exact ho)) dX9_slips_46 mc_X9_197 (show sh 94 = (0, 9, [some 95, some 96, some 97, none, none, none, some 98, some 99, some 100, none, none, none, none, some 101, none, none, none, some 102, none, some 103, some 104, none, some 105, some 106, some 107, some 108]) from rfl) (fun _ => rfl) ⟨Nat.le_of_ble_eq_true rfl, Nat.le_of_ble_eq_true rfl⟩ (Nat.le_of_ble_eq_true rfl) (fun z46 M46 h46 => ?_)
      obtain ⟨a1, a2, a3, a4⟩ := h46
      rw [h96] at a1 a3
      refine AW.iload dX9_slips_49 0 rfl ?_
      refine AW.iconst dX9_slips_51 ?_
      refine AW.idiv dX9_slips_52 (by omega) (by omega) ?_
      refine AW.top (fun y ey => ?_)
      refine AW.istore [(5, vi y), (4, vi x), (3, vi f), (2, vi wd), (1, vi c), (0, rf Γ 94)] dX9_slips_53 (by decide) rfl ?_
      refine AW.iload dX9_slips_55 1 rfl ?_
      refine AW.iconst dX9_slips_57 ?_
      refine AW.irem dX9_slips_58 (by omega) (by omega) ?_
      refine AW.if_ne 66 dX9_slips_59 (by decide) (by omega) (fun c59 => ?_) (fun c59 => ?_)
      · refine AW.bipush (z := (7)) dX9_slips_66 (by decide) ?_
        refine AW.top (fun by7 eby7 => ?_)
        refine AW.istore [(6, vi by7), (5, vi y), (4, vi x), (3, vi f), (2, vi wd), (1, vi c), (0, rf Γ 94)] dX9_slips_68 (by decide) rfl ?_
        refine AW.iload dX9_slips_70 2 rfl ?_
        refine AW.iconst dX9_slips_72 ?_
        refine AW.idiv dX9_slips_73 (by omega) (by omega) ?_
        refine AW.iconst dX9_slips_74 ?_
        refine AW.irem dX9_slips_75 (by omega) (by omega) ?_
        refine AW.if_ne 102 dX9_slips_76 (by decide) (by omega) (fun c76 => ?_) (fun c76 => ?_)
        · refine AW.aload_n dX9_slips_102 6 rfl rfl ?_
          refine AW.getR dX9_slips_103 fl_X9_25 (show sh 94 = (0, 9, [some 95, some 96, some 97, none, none, none, some 98, some 99, some 100, none, none, none, none, some 101, none, none, none, some 102, none, some 103, some 104, none, some 105, some 106, some 107, some 108]) from rfl) rfl ?_
          refine AW.iload dX9_slips_106 1 rfl ?_
          refine AW.aload_n dX9_slips_108 6 rfl rfl ?_
          refine AW.getR dX9_slips_109 fl_X9_25 (show sh 94 = (0, 9, [some 95, some 96, some 97, none, none, none, some 98, some 99, some 100, none, none, none, none, some 101, none, none, none, some 102, none, some 103, some 104, none, some 105, some 106, some 107, some 108]) from rfl) rfl ?_
          refine AW.iload dX9_slips_112 1 rfl ?_
          refine AW.ialdN (s / 4) dX9_slips_114 (show sh 100 = (1, 12, []) from rfl) (by omega) (by omega) (by decide) ?_
          rw [(a3 (s / 4) (by omega)).2]
          refine AW.iload dX9_slips_115 0 rfl ?_
          refine AW.iadd dX9_slips_117 ?_
          refine AW.bipush (z := (8)) dX9_slips_118 (by decide) ?_
          refine AW.irem dX9_slips_120 (by have := tg_b (M 96 (5 + s / 4)).toNat; simp only [mHi]; omega) (by omega) ?_
          refine AW.iastN (s / 4) dX9_slips_121 (show sh 100 = (1, 12, []) from rfl) (by omega) (by omega) (by decide) ?_
          refine AW.sub [0, 1, 2, 3, 4, 5, 6] rfl ?_
          refine J1 _ y by7 (fun j hj => ?_) ?_ ?_ (fun j hj => ?_) ⟨fun j b1 b2 b3 b4 => ?_, fun a b1 b2 b3 => ?_⟩ (by omega) (by omega)
          · rw [up2_c (by decide), a4 95 (by decide) (by decide) (by decide)]; exact sgN j hj
          · rw [up2_c (by decide), a4 96 (by decide) (by decide) (by decide)]; exact h96
          · rw [up2_c (by decide)]; exact a1
          · by_cases hji : j = s / 4
            · subst hji
              first
                | (rw [up2_s, up2_c (by decide), up1_s, up1_s, (a3 _ hj).2]; unfold svP svQ; exact ⟨by rw [eby7]; first | (rw [if_pos (by omega)]; done) | (rw [if_neg (by omega), if_pos (by omega)]; done), by rw [if_neg (by omega), if_neg (by omega)]⟩)
                | (rw [up2_s, up2_c (by decide), up1_s, up1_s, (a3 _ hj).1]; unfold svP svQ; exact ⟨by rw [if_neg (by omega), if_neg (by omega)], by rw [eby7]; first | (rw [if_pos (by omega)]; done) | (rw [if_neg (by omega), if_pos (by omega)]; done)⟩)
            · first
                | (rw [up2_i hji, up2_c (by decide), up1_n hji, up1_n hji]; exact a3 j hj)
                | (rw [up2_c (by decide), up2_i hji, up1_n hji, up1_n hji]; exact a3 j hj)
          · rw [up2_c (by decide), a2 j b1]; exact g3.1 j b1 b2 b3 b4
          · first | (rw [up2_c b2, a4 a b1 b2 b3]; exact g3.2 a b1 b2 b3) | (rw [up2_c b3, a4 a b1 b2 b3]; exact g3.2 a b1 b2 b3)
        · refine AW.aload_n dX9_slips_79 6 rfl rfl ?_
          refine AW.getR dX9_slips_80 fl_X9_22 (show sh 94 = (0, 9, [some 95, some 96, some 97, none, none, none, some 98, some 99, some 100, none, none, none, none, some 101, none, none, none, some 102, none, some 103, some 104, none, some 105, some 106, some 107, some 108]) from rfl) rfl ?_
          refine AW.iload dX9_slips_83 1 rfl ?_
          refine AW.aload_n dX9_slips_85 6 rfl rfl ?_
          refine AW.getR dX9_slips_86 fl_X9_22 (show sh 94 = (0, 9, [some 95, some 96, some 97, none, none, none, some 98, some 99, some 100, none, none, none, none, some 101, none, none, none, some 102, none, some 103, some 104, none, some 105, some 106, some 107, some 108]) from rfl) rfl ?_
          refine AW.iload dX9_slips_89 1 rfl ?_
          refine AW.ialdN (s / 4) dX9_slips_91 (show sh 99 = (1, 12, []) from rfl) (by omega) (by omega) (by decide) ?_
          rw [(a3 (s / 4) (by omega)).1]
          refine AW.iload dX9_slips_92 0 rfl ?_
          refine AW.iadd dX9_slips_94 ?_
          refine AW.bipush (z := (8)) dX9_slips_95 (by decide) ?_
          refine AW.irem dX9_slips_97 (by have := tl_b (M 96 (5 + s / 4)).toNat; simp only [mLo]; omega) (by omega) ?_
          refine AW.iastN (s / 4) dX9_slips_98 (show sh 99 = (1, 12, []) from rfl) (by omega) (by omega) (by decide) ?_
          refine AW.goto 122 dX9_slips_99 (by decide) ?_
          refine AW.sub [0, 1, 2, 3, 4, 5, 6] rfl ?_
          refine J1 _ y by7 (fun j hj => ?_) ?_ ?_ (fun j hj => ?_) ⟨fun j b1 b2 b3 b4 => ?_, fun a b1 b2 b3 => ?_⟩ (by omega) (by omega)
          · rw [up2_c (by decide), a4 95 (by decide) (by decide) (by decide)]; exact sgN j hj
          · rw [up2_c (by decide), a4 96 (by decide) (by decide) (by decide)]; exact h96
          · rw [up2_c (by decide)]; exact a1
          · by_cases hji : j = s / 4
            · subst hji
              first
                | (rw [up2_s, up2_c (by decide), up1_s, up1_s, (a3 _ hj).2]; unfold svP svQ; exact ⟨by rw [eby7]; first | (rw [if_pos (by omega)]; done) | (rw [if_neg (by omega), if_pos (by omega)]; done), by rw [if_neg (by omega), if_neg (by omega)]⟩)
                | (rw [up2_s, up2_c (by decide), up1_s, up1_s, (a3 _ hj).1]; unfold svP svQ; exact ⟨by rw [if_neg (by omega), if_neg (by omega)], by rw [eby7]; first | (rw [if_pos (by omega)]; done) | (rw [if_neg (by omega), if_pos (by omega)]; done)⟩)
            · first
                | (rw [up2_i hji, up2_c (by decide), up1_n hji, up1_n hji]; exact a3 j hj)
                | (rw [up2_c (by decide), up2_i hji, up1_n hji, up1_n hji]; exact a3 j hj)
          · rw [up2_c (by decide), a2 j b1]; exact g3.1 j b1 b2 b3 b4
          · first | (rw [up2_c b2, a4 a b1 b2 b3]; exact g3.2 a b1 b2 b3) | (rw [up2_c b3, a4 a b1 b2 b3]; exact g3.2 a b1 b2 b3)
      · refine AW.iconst dX9_slips_62 ?_
        refine AW.goto 68 dX9_slips_63 (by decide) ?_
        refine AW.top (fun by7 eby7 => ?_)
        refine AW.istore [(6, vi by7), (5, vi y), (4, vi x), (3, vi f), (2, vi wd), (1, vi c), (0, rf Γ 94)] dX9_slips_68 (by decide) rfl ?_
        refine AW.iload dX9_slips_70 2 rfl ?_
        refine AW.iconst dX9_slips_72 ?_
        refine AW.idiv dX9_slips_73 (by omega) (by omega) ?_
        refine AW.iconst dX9_slips_74 ?_
        refine AW.irem dX9_slips_75 (by omega) (by omega) ?_
        refine AW.if_ne 102 dX9_slips_76 (by decide) (by omega) (fun c76 => ?_) (fun c76 => ?_)
        · refine AW.aload_n dX9_slips_102 6 rfl rfl ?_
          refine AW.getR dX9_slips_103 fl_X9_25 (show sh 94 = (0, 9, [some 95, some 96, some 97, none, none, none, some 98, some 99, some 100, none, none, none, none, some 101, none, none, none, some 102, none, some 103, some 104, none, some 105, some 106, some 107, some 108]) from rfl) rfl ?_
          refine AW.iload dX9_slips_106 1 rfl ?_
          refine AW.aload_n dX9_slips_108 6 rfl rfl ?_
          refine AW.getR dX9_slips_109 fl_X9_25 (show sh 94 = (0, 9, [some 95, some 96, some 97, none, none, none, some 98, some 99, some 100, none, none, none, none, some 101, none, none, none, some 102, none, some 103, some 104, none, some 105, some 106, some 107, some 108]) from rfl) rfl ?_
          refine AW.iload dX9_slips_112 1 rfl ?_
          refine AW.ialdN (s / 4) dX9_slips_114 (show sh 100 = (1, 12, []) from rfl) (by omega) (by omega) (by decide) ?_
          rw [(a3 (s / 4) (by omega)).2]
          refine AW.iload dX9_slips_115 0 rfl ?_
          refine AW.iadd dX9_slips_117 ?_
          refine AW.bipush (z := (8)) dX9_slips_118 (by decide) ?_
          refine AW.irem dX9_slips_120 (by have := tg_b (M 96 (5 + s / 4)).toNat; simp only [mHi]; omega) (by omega) ?_
          refine AW.iastN (s / 4) dX9_slips_121 (show sh 100 = (1, 12, []) from rfl) (by omega) (by omega) (by decide) ?_
          refine AW.sub [0, 1, 2, 3, 4, 5, 6] rfl ?_
          refine J1 _ y by7 (fun j hj => ?_) ?_ ?_ (fun j hj => ?_) ⟨fun j b1 b2 b3 b4 => ?_, fun a b1 b2 b3 => ?_⟩ (by omega) (by omega)
          · rw [up2_c (by decide), a4 95 (by decide) (by decide) (by decide)]; exact sgN j hj
          · rw [up2_c (by decide), a4 96 (by decide) (by decide) (by decide)]; exact h96
          · rw [up2_c (by decide)]; exact a1
          · by_cases hji : j = s / 4
            · subst hji
              first
                | (rw [up2_s, up2_c (by decide), up1_s, up1_s, (a3 _ hj).2]; unfold svP svQ; exact ⟨by rw [eby7]; first | (rw [if_pos (by omega)]; done) | (rw [if_neg (by omega), if_pos (by omega)]; done), by rw [if_neg (by omega), if_neg (by omega)]⟩)
                | (rw [up2_s, up2_c (by decide), up1_s, up1_s, (a3 _ hj).1]; unfold svP svQ; exact ⟨by rw [if_neg (by omega), if_neg (by omega)], by rw [eby7]; first | (rw [if_pos (by omega)]; done) | (rw [if_neg (by omega), if_pos (by omega)]; done)⟩)
            · first
                | (rw [up2_i hji, up2_c (by decide), up1_n hji, up1_n hji]; exact a3 j hj)
                | (rw [up2_c (by decide), up2_i hji, up1_n hji, up1_n hji]; exact a3 j hj)
          · rw [up2_c (by decide), a2 j b1]; exact g3.1 j b1 b2 b3 b4
          · first | (rw [up2_c b2, a4 a b1 b2 b3]; exact g3.2 a b1 b2 b3) | (rw [up2_c b3, a4 a b1 b2 b3]; exact g3.2 a b1 b2 b3)
        · refine AW.aload_n dX9_slips_79 6 rfl rfl ?_
          refine AW.getR dX9_slips_80 fl_X9_22 (show sh 94 = (0, 9, [some 95, some 96, some 97, none, none, none, some 98, some 99, some 100, none, none, none, none, some 101, none, none, none, some 102, none, some 103, some 104, none, some 105, some 106, some 107, some 108]) from rfl) rfl ?_
          refine AW.iload dX9_slips_83 1 rfl ?_
          refine AW.aload_n dX9_slips_85 6 rfl rfl ?_
          refine AW.getR dX9_slips_86 fl_X9_22 (show sh 94 = (0, 9, [some 95, some 96, some 97, none, none, none, some 98, some 99, some 100, none, none, none, none, some 101, none, none, none, some 102, none, some 103, some 104, none, some 105, some 106, some 107, some 108]) from rfl) rfl ?_
          refine AW.iload dX9_slips_89 1 rfl ?_
          refine AW.ialdN (s / 4) dX9_slips_91 (show sh 99 = (1, 12, []) from rfl) (by omega) (by omega) (by decide) ?_
          rw [(a3 (s / 4) (by omega)).1]
          refine AW.iload dX9_slips_92 0 rfl ?_
          refine AW.iadd dX9_slips_94 ?_
          refine AW.bipush (z := (8)) dX9_slips_95 (by decide) ?_
          refine AW.irem dX9_slips_97 (by have := tl_b (M 96 (5 + s / 4)).toNat; simp only [mLo]; omega) (by omega) ?_
          refine AW.iastN (s / 4) dX9_slips_98 (show sh 99 = (1, 12, []) from rfl) (by omega) (by omega) (by decide) ?_
          refine AW.goto 122 dX9_slips_99 (by decide) ?_
          refine AW.sub [0, 1, 2, 3, 4, 5, 6] rfl ?_
          refine J1 _ y by7 (fun j hj => ?_) ?_ ?_ (fun j hj => ?_) ⟨fun j b1 b2 b3 b4 => ?_, fun a b1 b2 b3 => ?_⟩ (by omega) (by omega)
          · rw [up2_c (by decide), a4 95 (by decide) (by decide) (by decide)]; exact sgN j hj
          · rw [up2_c (by decide), a4 96 (by decide) (by decide) (by decide)]; exact h96
          · rw [up2_c (by decide)]; exact a1
          · by_cases hji : j = s / 4
            · subst hji
              first
                | (rw [up2_s, up2_c (by decide), up1_s, up1_s, (a3 _ hj).2]; unfold svP svQ; exact ⟨by rw [eby7]; first | (rw [if_pos (by omega)]; done) | (rw [if_neg (by omega), if_pos (by omega)]; done), by rw [if_neg (by omega), if_neg (by omega)]⟩)
                | (rw [up2_s, up2_c (by decide), up1_s, up1_s, (a3 _ hj).1]; unfold svP svQ; exact ⟨by rw [if_neg (by omega), if_neg (by omega)], by rw [eby7]; first | (rw [if_pos (by omega)]; done) | (rw [if_neg (by omega), if_pos (by omega)]; done)⟩)
            · first
                | (rw [up2_i hji, up2_c (by decide), up1_n hji, up1_n hji]; exact a3 j hj)
                | (rw [up2_c (by decide), up2_i hji, up1_n hji, up1_n hji]; exact a3 j hj)
          · rw [up2_c (by decide), a2 j b1]; exact g3.1 j b1 b2 b3 b4
          · first | (rw [up2_c b2, a4 a b1 b2 b3]; exact g3.2 a b1 b2 b3) | (rw [up2_c b3, a4 a b1 b2 b3]; exact g3.2 a b1 b2 b3)

set_option maxRecDepth 20000 in
theorem C9_slips (Γ : GC) (M : Mm) (hsg : SG M) (ho : OkR (M 96)) (c : Int) (hc : R32 c) : Ct Γ uX9_slips [rf Γ 94, vi c] M (fun z M' => z = slipS (M 96) c ∧ off9 M M') := by
  refine Ct.of (by decide) (Nat.le_of_ble_eq_true rfl) ?_
  show AW Γ uX9_slips 0 [(0, rf Γ 94), (1, vi c)] [] M _
  refine AW.iload_n dX9_slips_0 1 rfl rfl ?_
  refine AW.i2l dX9_slips_1 (by omega) ?_
  refine AW.lconst (z := (0)) dX9_slips_2 rfl ?_
  refine AW.ldc2 (z := 2) dX9_slips_3 kl_X9_195 (by decide +kernel) ?_
  refine AW.callS3ip (C9_in Γ M _ _ _ (by omega) (by decide) (by decide)) dX9_slips_6 mc_X9_76 (fun _ => rfl) ⟨Nat.le_of_ble_eq_true rfl, Nat.le_of_ble_eq_true rfl⟩ (Nat.le_of_ble_eq_true rfl) ?_
  refine AW.if_ne 14 dX9_slips_9 (by decide) (bI_r _) (fun c9 => ?_) (fun c9 => ?_)
  · have d9 := bI1.mp c9
    refine AW.aload_n dX9_slips_14 0 rfl rfl ?_
    refine AW.callV0v (C9_sees Γ M hsg ho) dX9_slips_15 mc_X9_197 (show sh 94 = (0, 9, [some 95, some 96, some 97, none, none, none, some 98, some 99, some 100, none, none, none, none, some 101, none, none, none, some 102, none, some 103, some 104, none, some 105, some 106, some 107, some 108]) from rfl) (fun _ => rfl) ⟨Nat.le_of_ble_eq_true rfl, Nat.le_of_ble_eq_true rfl⟩ (Nat.le_of_ble_eq_true rfl) (fun z15 M15 h15 => ?_)
    obtain ⟨a1, a2, a3, a4⟩ := h15
    have t96 : M15 96 = M 96 := a4 96 (by decide) (by decide) (by decide)
    have t95 : SG M15 := fun j hj => by rw [a4 95 (by decide) (by decide) (by decide)]; exact hsg j hj
    have b1 : D8s (M15 99) (M15 94 9) := fun i hi => by rw [(a3 i (by omega)).1]; exact tl_b _
    have b2 : D8s (M15 100) (M15 94 9) := fun i hi => by rw [(a3 i (by omega)).2]; exact tg_b _
    have b3 : nearF (M15 99) (M15 100) (M15 96) (M15 94 9) = nearF (mLo (M 96)) (mHi (M 96)) (M 96) (M 96 0) := by rw [a1, t96]; exact nearF_congr (fun i hi => a3 i hi)
    refine AW.aload_n dX9_slips_18 0 rfl rfl ?_
    refine AW.callV0v (C9_nears Γ M15 t95 (by rw [t96]; exact ho) (by rw [a1]; exact ho.1) b1 b2) dX9_slips_19 mc_X9_200 (show sh 94 = (0, 9, [some 95, some 96, some 97, none, none, none, some 98, some 99, some 100, none, none, none, none, some 101, none, none, none, some 102, none, some 103, some 104, none, some 105, some 106, some 107, some 108]) from rfl) (fun _ => rfl) ⟨Nat.le_of_ble_eq_true rfl, Nat.le_of_ble_eq_true rfl⟩ (Nat.le_of_ble_eq_true rfl) (fun z19 M19 h19 => ?_)
    rw [b3] at h19
    obtain ⟨⟨e1, e2, e3⟩, e4, e5⟩ := h19
    have nb := nearF_b (r := M 96) (mLo_d (M 96) (M 96 0)) (mHi_d (M 96) (M 96 0)) ho.1
    have o1 := ho.2.1
    refine AW.aload_n dX9_slips_22 0 rfl rfl ?_
    refine AW.getI dX9_slips_23 fl_X9_185 (show sh 94 = (0, 9, [some 95, some 96, some 97, none, none, none, some 98, some 99, some 100, none, none, none, none, some 101, none, none, none, some 102, none, some 103, some 104, none, some 105, some 106, some 107, some 108]) from rfl) rfl ?_
    rw [e1]
    refine AW.top (fun wd ewd => ?_)
    refine AW.istore_n [(2, vi wd), (0, rf Γ 94), (1, vi c)] dX9_slips_26 rfl (by decide) rfl ?_
    refine AW.iconst dX9_slips_27 ?_
    refine AW.top (fun x28 ex28 => ?_)
    refine AW.istore_n [(3, vi x28), (2, vi wd), (0, rf Γ 94), (1, vi c)] dX9_slips_28 rfl (by decide) rfl ?_
    refine AW.iconst dX9_slips_29 ?_
    refine AW.top (fun x30 ex30 => ?_)
    refine AW.istore [(4, vi x30), (3, vi x28), (2, vi wd), (0, rf Γ 94), (1, vi c)] dX9_slips_30 (by decide) rfl ?_
    refine AW.sub [0, 1, 2, 4, 3] rfl ?_
    have h0 : off9 M M19 := ⟨fun j q1 q2 q3 q4 => by rw [e4 j q2 q3 q4, a2 j q1], fun a q1 q2 q3 => by rw [e5 a q1, a4 a q1 q2 q3]⟩
    refine AW.mono (fun z M' h => ⟨?_, h.2⟩) (slips9_loop Γ M hsg ho c wd (by omega) (by omega) 50 0 x30 x28 M19 (by omega) (by have := ho.1; omega) (by rw [ex28]; rfl) h0 (by omega))
    rw [h.1, ewd]; exact slipS_V (M 96) ho c (by omega)
  · have d9 := bI0.mp c9
    refine AW.iconst dX9_slips_12 ?_
    exact AW.iret rfl dX9_slips_13 ⟨by unfold slipS; rw [if_neg (by omega), if_neg (by omega), if_neg (by omega)], ⟨fun _ _ _ _ _ => rfl, fun _ _ _ _ => rfl⟩⟩
