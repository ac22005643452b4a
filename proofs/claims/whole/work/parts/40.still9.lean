/-! STILL, of the reference -/
set_option maxRecDepth 20000 in
theorem still_loop1 (Γ : GC) (M : Mm) (L : Nat) (hL : L ≤ 6) (h9 : M 94 9 = L) (kx c v ab : Int) (Q : Int → Mm → Prop) (hx : ∀ x bl : Int, bl = 10 ^ L → AW Γ uX9_still 72 [(6, vi x), (5, vi bl), (4, vi ab), (0, rf Γ 94), (1, vi kx), (2, vi c), (3, vi v)] [] M Q) : ∀ (n i : Nat) (x bl : Int), x = i → i ≤ L → bl = 10 ^ i → L - i < n → AW Γ uX9_still 50 [(6, vi x), (5, vi bl), (4, vi ab), (0, rf Γ 94), (1, vi kx), (2, vi c), (3, vi v)] [] M Q := by
  intro n
  induction n with
  | zero => intro i x bl g0 g1 g2 gm; omega
  | succ n ih =>
    intro i x bl g0 g1 g2 gm
    refine AW.iload dX9_still_50 0 rfl ?_
    refine AW.aload_n dX9_still_52 3 rfl rfl ?_
    refine AW.getI dX9_still_53 fl_X9_182 (show sh 94 = (0, 9, [some 95, some 96, some 97, none, none, none, some 98, some 99, some 100, none, none, none, none, some 101, none, none, none, some 102, none, some 103, some 104, none, some 105, some 106, some 107, some 108]) from rfl) rfl ?_
    rw [h9]
    refine AW.icmp_ge 72 dX9_still_56 (by decide) (by omega) (by omega) (fun c56 => ?_) (fun c56 => ?_)
    · refine AW.sub [0, 1, 2, 3, 4, 5, 6] rfl ?_
      exact hx x bl (by rw [g2, show L = i by omega])
    · refine AW.iload dX9_still_59 1 rfl ?_
      refine AW.bipush (z := (10)) dX9_still_61 (by decide) ?_
      refine AW.imul dX9_still_63 ?_
      refine AW.top (fun b2 eb2 => ?_)
      refine AW.istore [(5, vi b2), (6, vi x), (4, vi ab), (0, rf Γ 94), (1, vi kx), (2, vi c), (3, vi v)] dX9_still_64 (by decide) rfl ?_
      obtain ⟨x66, ex66⟩ : ∃ z : Int, x + 1 = z := ⟨_, rfl⟩
      refine AW.iinc [(6, vi x66), (5, vi b2), (4, vi ab), (0, rf Γ 94), (1, vi kx), (2, vi c), (3, vi v)] dX9_still_66 1 rfl (by decide) x66 ex66 rfl ?_
      refine AW.goto 50 dX9_still_69 (by decide) ?_
      refine AW.sub [0, 1, 2, 3, 4, 5, 6] rfl ?_
      exact ih (i + 1) x66 b2 (by omega) (by omega) (by rw [eb2, g2, Int.pow_succ]) (by omega)

set_option maxRecDepth 20000 in
theorem still_loop2 (Γ : GC) (M : Mm) (hsg : SG M) (r : Nat → Int) (em0 : M 96 = r) (ho : OkR r) (k L : Nat) (hk : (k : Int) < r 1) (hL : (L : Int) = r (17 + 7 * k)) (kx c v : Int) (hkx : kx = k) (hc : 0 ≤ c ∧ c ≤ 10) (ab bl sx : Int) (S : Nat) (hsx : sx = S) (hS : S < 64) (Q : Int → Mm → Prop) (hx : ∀ (x pr : Int) (N : Mm), pr = wtF c S L → N 94 9 = L → (∀ q : Nat, q < L → N 99 q = loW r k q ∧ N 100 q = hiW r k S q) → (∀ j : Nat, j ≠ 9 → N 94 j = M 94 j) → (∀ a : Nat, a ≠ 94 → a ≠ 99 → a ≠ 100 → N a = M a) → AW Γ uX9_still 193 [(8, vi x), (7, vi pr), (6, vi sx), (5, vi bl), (4, vi ab), (0, rf Γ 94), (1, vi kx), (2, vi c), (3, vi v)] [] N Q) : ∀ (n i : Nat) (x pr : Int) (N : Mm), x = i → i ≤ L → pr = wtF c S i → N 94 9 = L → (∀ q : Nat, q < i → N 99 q = loW r k q ∧ N 100 q = hiW r k S q) → (∀ j : Nat, j ≠ 9 → N 94 j = M 94 j) → (∀ a : Nat, a ≠ 94 → a ≠ 99 → a ≠ 100 → N a = M a) → L - i < n → AW Γ uX9_still 92 [(8, vi x), (7, vi pr), (6, vi sx), (5, vi bl), (4, vi ab), (0, rf Γ 94), (1, vi kx), (2, vi c), (3, vi v)] [] N Q := by
  obtain ⟨o0, o1, o2, o3, o4, o5, o6⟩ := id ho
  obtain ⟨k1, k2⟩ := o6 k hk
  intro n
  induction n with
  | zero => intro i x pr N g0 g1 g2 g5 g3 g6 g7 gm; omega
  | succ n ih =>
    intro i x pr N g0 g1 g2 g5 g3 g6 g7 gm
    have e96 : N 96 = r := by rw [g7 96 (by decide) (by decide) (by decide), em0]
    have sgN : SG N := fun j hj => by rw [g7 95 (by decide) (by decide) (by decide)]; exact hsg j hj
    refine AW.iload dX9_still_92 0 rfl ?_
    refine AW.aload_n dX9_still_94 5 rfl rfl ?_
    refine AW.getI dX9_still_95 fl_X9_182 (show sh 94 = (0, 9, [some 95, some 96, some 97, none, none, none, some 98, some 99, some 100, none, none, none, none, some 101, none, none, none, some 102, none, some 103, some 104, none, some 105, some 106, some 107, some 108]) from rfl) rfl ?_
    rw [g5]
    refine AW.icmp_ge 193 dX9_still_98 (by decide) (by omega) (by omega) (fun c98 => ?_) (fun c98 => ?_)
    · refine AW.sub [0, 1, 2, 3, 4, 5, 6, 7, 8] rfl ?_
      exact hx x pr N (by rw [g2, show L = i by omega]) g5 (fun q hq => g3 q (by omega)) g6 g7
    · refine AW.iload dX9_still_101 2 rfl ?_
      refine AW.iload dX9_still_103 0 rfl ?_
      refine AW.ishr dX9_still_105 (by omega) (by omega) ?_
      refine AW.iconst dX9_still_106 ?_
      refine AW.iandk 1 (by decide) (by decide) dX9_still_107 ?_
      refine AW.eqt (show sx / 2 ^ x.toNat % 2 ^ 1 = ((bitS S i : Nat) : Int) by rw [hsx, show x.toNat = i by omega]; exact bitI2 S i) ?_
      have hb2 := bitS_2 S i
      refine AW.iconst dX9_still_108 ?_
      refine AW.icmp_ne 116 dX9_still_109 (by decide) (by omega) (by omega) (fun c109 => ?_) (fun c109 => ?_)
      · refine AW.iconst dX9_still_116 ?_
        refine AW.top (fun sl esl => ?_)
        refine AW.istore [(9, vi sl), (8, vi x), (7, vi pr), (6, vi sx), (5, vi bl), (4, vi ab), (0, rf Γ 94), (1, vi kx), (2, vi c), (3, vi v)] dX9_still_117 (by decide) rfl ?_
        refine AW.aload_n dX9_still_119 6 rfl rfl ?_
        refine AW.getR dX9_still_120 fl_X9_22 (show sh 94 = (0, 9, [some 95, some 96, some 97, none, none, none, some 98, some 99, some 100, none, none, none, none, some 101, none, none, none, some 102, none, some 103, some 104, none, some 105, some 106, some 107, some 108]) from rfl) rfl ?_
        refine AW.iload dX9_still_123 1 rfl ?_
        refine AW.aload_n dX9_still_125 6 rfl rfl ?_
        refine AW.aload_n dX9_still_126 6 rfl rfl ?_
        refine AW.iload_n dX9_still_127 7 rfl rfl ?_
        refine AW.iload dX9_still_128 1 rfl ?_
        refine AW.callV2ip (C9_ofWord Γ _ kx x k i hkx g0 (by omega) (by omega)) dX9_still_130 mc_X9_103 (show sh 94 = (0, 9, [some 95, some 96, some 97, none, none, none, some 98, some 99, some 100, none, none, none, none, some 101, none, none, none, some 102, none, some 103, some 104, none, some 105, some 106, some 107, some 108]) from rfl) (fun _ => rfl) ⟨Nat.le_of_ble_eq_true rfl, Nat.le_of_ble_eq_true rfl⟩ (Nat.le_of_ble_eq_true rfl) ?_
        refine AW.callV1ip (C9_low Γ N sgN _ (by rw [e96]; have := k2 i (by omega); omega)) dX9_still_133 mc_X9_61 (show sh 94 = (0, 9, [some 95, some 96, some 97, none, none, none, some 98, some 99, some 100, none, none, none, none, some 101, none, none, none, some 102, none, some 103, some 104, none, some 105, some 106, some 107, some 108]) from rfl) (fun _ => rfl) ⟨Nat.le_of_ble_eq_true rfl, Nat.le_of_ble_eq_true rfl⟩ (Nat.le_of_ble_eq_true rfl) ?_
        rw [e96]
        refine AW.iastN i dX9_still_136 (show sh 99 = (1, 12, []) from rfl) (by omega) (by omega) (by decide) ?_
        refine AW.aload_n dX9_still_137 6 rfl rfl ?_
        refine AW.getR dX9_still_138 fl_X9_25 (show sh 94 = (0, 9, [some 95, some 96, some 97, none, none, none, some 98, some 99, some 100, none, none, none, none, some 101, none, none, none, some 102, none, some 103, some 104, none, some 105, some 106, some 107, some 108]) from rfl) rfl ?_
        refine AW.iload dX9_still_141 1 rfl ?_
        refine AW.aload_n dX9_still_143 6 rfl rfl ?_
        refine AW.aload_n dX9_still_144 6 rfl rfl ?_
        refine AW.iload_n dX9_still_145 7 rfl rfl ?_
        refine AW.iload dX9_still_146 1 rfl ?_
        refine AW.callV2ip (C9_ofWord Γ _ kx x k i hkx g0 (by omega) (by omega)) dX9_still_148 mc_X9_103 (show sh 94 = (0, 9, [some 95, some 96, some 97, none, none, none, some 98, some 99, some 100, none, none, none, none, some 101, none, none, none, some 102, none, some 103, some 104, none, some 105, some 106, some 107, some 108]) from rfl) (fun _ => rfl) ⟨Nat.le_of_ble_eq_true rfl, Nat.le_of_ble_eq_true rfl⟩ (Nat.le_of_ble_eq_true rfl) ?_
        refine AW.callV1ip (C9_high Γ _ (fun j hj => by rw [up2_c (by decide)]; exact sgN j hj) _ (by rw [up2_c (by decide), e96]; have := k2 i (by omega); omega)) dX9_still_151 mc_X9_65 (show sh 94 = (0, 9, [some 95, some 96, some 97, none, none, none, some 98, some 99, some 100, none, none, none, none, some 101, none, none, none, some 102, none, some 103, some 104, none, some 105, some 106, some 107, some 108]) from rfl) (fun _ => rfl) ⟨Nat.le_of_ble_eq_true rfl, Nat.le_of_ble_eq_true rfl⟩ (Nat.le_of_ble_eq_true rfl) ?_
        rw [up2_c (show 96 ≠ 99 by decide), e96]
        have htg := tg_b (r (18 + 7 * k + i)).toNat
        refine AW.iload dX9_still_154 0 rfl ?_
        refine AW.if_eq 163 dX9_still_156 (by decide) (by omega) (fun c156 => ?_) (fun c156 => ?_)
        · refine AW.iconst dX9_still_163 ?_
          refine AW.iadd dX9_still_164 ?_
          refine AW.bipush (z := (8)) dX9_still_165 (by decide) ?_
          refine AW.irem dX9_still_167 (by omega) (by omega) ?_
          refine AW.iastN i dX9_still_168 (show sh 100 = (1, 12, []) from rfl) (by omega) (by omega) (by decide) ?_
          refine AW.iload dX9_still_169 2 rfl ?_
          refine AW.iload dX9_still_171 0 rfl ?_
          refine AW.if_eq 180 dX9_still_173 (by decide) (by omega) (fun c173 => ?_) (fun c173 => ?_)
          · refine AW.bipush (z := (10)) dX9_still_180 (by decide) ?_
            refine AW.iload_n dX9_still_182 8 rfl rfl ?_
            refine AW.isub dX9_still_183 ?_
            refine AW.imul dX9_still_184 ?_
            refine AW.top (fun p2 ep2 => ?_)
            refine AW.istore [(7, vi p2), (9, vi sl), (8, vi x), (6, vi sx), (5, vi bl), (4, vi ab), (0, rf Γ 94), (1, vi kx), (2, vi c), (3, vi v)] dX9_still_185 (by decide) rfl ?_
            obtain ⟨x187, ex187⟩ : ∃ z : Int, x + 1 = z := ⟨_, rfl⟩
            refine AW.iinc [(8, vi x187), (7, vi p2), (9, vi sl), (6, vi sx), (5, vi bl), (4, vi ab), (0, rf Γ 94), (1, vi kx), (2, vi c), (3, vi v)] dX9_still_187 2 rfl (by decide) x187 ex187 rfl ?_
            refine AW.goto 92 dX9_still_190 (by decide) ?_
            refine AW.sub [0, 1, 3, 4, 5, 6, 7, 8, 9] rfl ?_
            refine ih (i + 1) x187 p2 _ (by omega) (by omega) ?_ (by rw [up2_c (by decide), up2_c (by decide)]; exact g5) (fun q hq => ?_) (fun j q1 => by rw [up2_c (by decide), up2_c (by decide)]; exact g6 j q1) (fun a q1 q2 q3 => by rw [up2_c q3, up2_c q2]; exact g7 a q1 q2 q3) (by omega)
            · rw [ep2, g2]; simp only [wtF]; first | (rw [if_pos (by omega)]; done) | (rw [if_neg (by omega)]; done) | (exfalso; omega)
            · by_cases e : q = i
              · subst e
                rw [up2_c (by decide), up2_s, up2_s]
                refine ⟨rfl, ?_⟩
                simp only [hiW]; first | (rw [if_pos (by omega)]; done) | (rw [if_neg (by omega), Int.add_zero]; omega) | (exfalso; omega)
              · rw [up2_c (by decide), up2_i e, up2_i e, up2_c (by decide)]; exact g3 q (by omega)
          · refine AW.iload_n dX9_still_176 8 rfl rfl ?_
            refine AW.goto 184 dX9_still_177 (by decide) ?_
            refine AW.imul dX9_still_184 ?_
            refine AW.top (fun p2 ep2 => ?_)
            refine AW.istore [(7, vi p2), (9, vi sl), (8, vi x), (6, vi sx), (5, vi bl), (4, vi ab), (0, rf Γ 94), (1, vi kx), (2, vi c), (3, vi v)] dX9_still_185 (by decide) rfl ?_
            obtain ⟨x187, ex187⟩ : ∃ z : Int, x + 1 = z := ⟨_, rfl⟩
            refine AW.iinc [(8, vi x187), (7, vi p2), (9, vi sl), (6, vi sx), (5, vi bl), (4, vi ab), (0, rf Γ 94), (1, vi kx), (2, vi c), (3, vi v)] dX9_still_187 2 rfl (by decide) x187 ex187 rfl ?_
            refine AW.goto 92 dX9_still_190 (by decide) ?_
            refine AW.sub [0, 1, 3, 4, 5, 6, 7, 8, 9] rfl ?_
            refine ih (i + 1) x187 p2 _ (by omega) (by omega) ?_ (by rw [up2_c (by decide), up2_c (by decide)]; exact g5) (fun q hq => ?_) (fun j q1 => by rw [up2_c (by decide), up2_c (by decide)]; exact g6 j q1) (fun a q1 q2 q3 => by rw [up2_c q3, up2_c q2]; exact g7 a q1 q2 q3) (by omega)
            · rw [ep2, g2]; simp only [wtF]; first | (rw [if_pos (by omega)]; done) | (rw [if_neg (by omega)]; done) | (exfalso; omega)
            · by_cases e : q = i
              · subst e
                rw [up2_c (by decide), up2_s, up2_s]
                refine ⟨rfl, ?_⟩
                simp only [hiW]; first | (rw [if_pos (by omega)]; done) | (rw [if_neg (by omega), Int.add_zero]; omega) | (exfalso; omega)
              · rw [up2_c (by decide), up2_i e, up2_i e, up2_c (by decide)]; exact g3 q (by omega)
        · refine AW.iconst dX9_still_159 ?_
          refine AW.goto 164 dX9_still_160 (by decide) ?_
          refine AW.iadd dX9_still_164 ?_
          refine AW.bipush (z := (8)) dX9_still_165 (by decide) ?_
          refine AW.irem dX9_still_167 (by omega) (by omega) ?_
          refine AW.iastN i dX9_still_168 (show sh 100 = (1, 12, []) from rfl) (by omega) (by omega) (by decide) ?_
          refine AW.iload dX9_still_169 2 rfl ?_
          refine AW.iload dX9_still_171 0 rfl ?_
          refine AW.if_eq 180 dX9_still_173 (by decide) (by omega) (fun c173 => ?_) (fun c173 => ?_)
          · refine AW.bipush (z := (10)) dX9_still_180 (by decide) ?_
            refine AW.iload_n dX9_still_182 8 rfl rfl ?_
            refine AW.isub dX9_still_183 ?_
            refine AW.imul dX9_still_184 ?_
            refine AW.top (fun p2 ep2 => ?_)
            refine AW.istore [(7, vi p2), (9, vi sl), (8, vi x), (6, vi sx), (5, vi bl), (4, vi ab), (0, rf Γ 94), (1, vi kx), (2, vi c), (3, vi v)] dX9_still_185 (by decide) rfl ?_
            obtain ⟨x187, ex187⟩ : ∃ z : Int, x + 1 = z := ⟨_, rfl⟩
            refine AW.iinc [(8, vi x187), (7, vi p2), (9, vi sl), (6, vi sx), (5, vi bl), (4, vi ab), (0, rf Γ 94), (1, vi kx), (2, vi c), (3, vi v)] dX9_still_187 2 rfl (by decide) x187 ex187 rfl ?_
            refine AW.goto 92 dX9_still_190 (by decide) ?_
            refine AW.sub [0, 1, 3, 4, 5, 6, 7, 8, 9] rfl ?_
            refine ih (i + 1) x187 p2 _ (by omega) (by omega) ?_ (by rw [up2_c (by decide), up2_c (by decide)]; exact g5) (fun q hq => ?_) (fun j q1 => by rw [up2_c (by decide), up2_c (by decide)]; exact g6 j q1) (fun a q1 q2 q3 => by rw [up2_c q3, up2_c q2]; exact g7 a q1 q2 q3) (by omega)
            · rw [ep2, g2]; simp only [wtF]; first | (rw [if_pos (by omega)]; done) | (rw [if_neg (by omega)]; done) | (exfalso; omega)
            · by_cases e : q = i
              · subst e
                rw [up2_c (by decide), up2_s, up2_s]
                refine ⟨rfl, ?_⟩
                simp only [hiW]; first | (rw [if_pos (by omega)]; done) | (rw [if_neg (by omega), Int.add_zero]; omega) | (exfalso; omega)
              · rw [up2_c (by decide), up2_i e, up2_i e, up2_c (by decide)]; exact g3 q (by omega)
          · refine AW.iload_n dX9_still_176 8 rfl rfl ?_
            refine AW.goto 184 dX9_still_177 (by decide) ?_
            refine AW.imul dX9_still_184 ?_
            refine AW.top (fun p2 ep2 => ?_)
            refine AW.istore [(7, vi p2), (9, vi sl), (8, vi x), (6, vi sx), (5, vi bl), (4, vi ab), (0, rf Γ 94), (1, vi kx), (2, vi c), (3, vi v)] dX9_still_185 (by decide) rfl ?_
            obtain ⟨x187, ex187⟩ : ∃ z : Int, x + 1 = z := ⟨_, rfl⟩
            refine AW.iinc [(8, vi x187), (7, vi p2), (9, vi sl), (6, vi sx), (5, vi bl), (4, vi ab), (0, rf Γ 94), (1, vi kx), (2, vi c), (3, vi v)] dX9_still_187 2 rfl (by decide) x187 ex187 rfl ?_
            refine AW.goto 92 dX9_still_190 (by decide) ?_
            refine AW.sub [0, 1, 3, 4, 5, 6, 7, 8, 9] rfl ?_
            refine ih (i + 1) x187 p2 _ (by omega) (by omega) ?_ (by rw [up2_c (by decide), up2_c (by decide)]; exact g5) (fun q hq => ?_) (fun j q1 => by rw [up2_c (by decide), up2_c (by decide)]; exact g6 j q1) (fun a q1 q2 q3 => by rw [up2_c q3, up2_c q2]; exact g7 a q1 q2 q3) (by omega)
            · rw [ep2, g2]; simp only [wtF]; first | (rw [if_pos (by omega)]; done) | (rw [if_neg (by omega)]; done) | (exfalso; omega)
            · by_cases e : q = i
              · subst e
                rw [up2_c (by decide), up2_s, up2_s]
                refine ⟨rfl, ?_⟩
                simp only [hiW]; first | (rw [if_pos (by omega)]; done) | (rw [if_neg (by omega), Int.add_zero]; omega) | (exfalso; omega)
              · rw [up2_c (by decide), up2_i e, up2_i e, up2_c (by decide)]; exact g3 q (by omega)
      · refine AW.iconst dX9_still_112 ?_
        refine AW.goto 117 dX9_still_113 (by decide) ?_
        refine AW.top (fun sl esl => ?_)
        refine AW.istore [(9, vi sl), (8, vi x), (7, vi pr), (6, vi sx), (5, vi bl), (4, vi ab), (0, rf Γ 94), (1, vi kx), (2, vi c), (3, vi v)] dX9_still_117 (by decide) rfl ?_
        refine AW.aload_n dX9_still_119 6 rfl rfl ?_
        refine AW.getR dX9_still_120 fl_X9_22 (show sh 94 = (0, 9, [some 95, some 96, some 97, none, none, none, some 98, some 99, some 100, none, none, none, none, some 101, none, none, none, some 102, none, some 103, some 104, none, some 105, some 106, some 107, some 108]) from rfl) rfl ?_
        refine AW.iload dX9_still_123 1 rfl ?_
        refine AW.aload_n dX9_still_125 6 rfl rfl ?_
        refine AW.aload_n dX9_still_126 6 rfl rfl ?_
        refine AW.iload_n dX9_still_127 7 rfl rfl ?_
        refine AW.iload dX9_still_128 1 rfl ?_
        refine AW.callV2ip (C9_ofWord Γ _ kx x k i hkx g0 (by omega) (by omega)) dX9_still_130 mc_X9_103 (show sh 94 = (0, 9, [some 95, some 96, some 97, none, none, none, some 98, some 99, some 100, none, none, none, none, some 101, none, none, none, some 102, none, some 103, some 104, none, some 105, some 106, some 107, some 108]) from rfl) (fun _ => rfl) ⟨Nat.le_of_ble_eq_true rfl, Nat.le_of_ble_eq_true rfl⟩ (Nat.le_of_ble_eq_true rfl) ?_
        refine AW.callV1ip (C9_low Γ N sgN _ (by rw [e96]; have := k2 i (by omega); omega)) dX9_still_133 mc_X9_61 (show sh 94 = (0, 9, [some 95, some 96, some 97, none, none, none, some 98, some 99, some 100, none, none, none, none, some 101, none, none, none, some 102, none, some 103, some 104, none, some 105, some 106, some 107, some 108]) from rfl) (fun _ => rfl) ⟨Nat.le_of_ble_eq_true rfl, Nat.le_of_ble_eq_true rfl⟩ (Nat.le_of_ble_eq_true rfl) ?_
        rw [e96]
        refine AW.iastN i dX9_still_136 (show sh 99 = (1, 12, []) from rfl) (by omega) (by omega) (by decide) ?_
        refine AW.aload_n dX9_still_137 6 rfl rfl ?_
        refine AW.getR dX9_still_138 fl_X9_25 (show sh 94 = (0, 9, [some 95, some 96, some 97, none, none, none, some 98, some 99, some 100, none, none, none, none, some 101, none, none, none, some 102, none, some 103, some 104, none, some 105, some 106, some 107, some 108]) from rfl) rfl ?_
        refine AW.iload dX9_still_141 1 rfl ?_
        refine AW.aload_n dX9_still_143 6 rfl rfl ?_
        refine AW.aload_n dX9_still_144 6 rfl rfl ?_
        refine AW.iload_n dX9_still_145 7 rfl rfl ?_
        refine AW.iload dX9_still_146 1 rfl ?_
        refine AW.callV2ip (C9_ofWord Γ _ kx x k i hkx g0 (by omega) (by omega)) dX9_still_148 mc_X9_103 (show sh 94 = (0, 9, [some 95, some 96, some 97, none, none, none, some 98, some 99, some 100, none, none, none, none, some 101, none, none, none, some 102, none, some 103, some 104, none, some 105, some 106, some 107, some 108]) from rfl) (fun _ => rfl) ⟨Nat.le_of_ble_eq_true rfl, Nat.le_of_ble_eq_true rfl⟩ (Nat.le_of_ble_eq_true rfl) ?_
        refine AW.callV1ip (C9_high Γ _ (fun j hj => by rw [up2_c (by decide)]; exact sgN j hj) _ (by rw [up2_c (by decide), e96]; have := k2 i (by omega); omega)) dX9_still_151 mc_X9_65 (show sh 94 = (0, 9, [some 95, some 96, some 97, none, none, none, some 98, some 99, some 100, none, none, none, none, some 101, none, none, none, some 102, none, some 103, some 104, none, some 105, some 106, some 107, some 108]) from rfl) (fun _ => rfl) ⟨Nat.le_of_ble_eq_true rfl, Nat.le_of_ble_eq_true rfl⟩ (Nat.le_of_ble_eq_true rfl) ?_
        rw [up2_c (show 96 ≠ 99 by decide), e96]
        have htg := tg_b (r (18 + 7 * k + i)).toNat
        refine AW.iload dX9_still_154 0 rfl ?_
        refine AW.if_eq 163 dX9_still_156 (by decide) (by omega) (fun c156 => ?_) (fun c156 => ?_)
        · refine AW.iconst dX9_still_163 ?_
          refine AW.iadd dX9_still_164 ?_
          refine AW.bipush (z := (8)) dX9_still_165 (by decide) ?_
          refine AW.irem dX9_still_167 (by omega) (by omega) ?_
          refine AW.iastN i dX9_still_168 (show sh 100 = (1, 12, []) from rfl) (by omega) (by omega) (by decide) ?_
          refine AW.iload dX9_still_169 2 rfl ?_
          refine AW.iload dX9_still_171 0 rfl ?_
          refine AW.if_eq 180 dX9_still_173 (by decide) (by omega) (fun c173 => ?_) (fun c173 => ?_)
          · refine AW.bipush (z := (10)) dX9_still_180 (by decide) ?_
            refine AW.iload_n dX9_still_182 8 rfl rfl ?_
            refine AW.isub dX9_still_183 ?_
            refine AW.imul dX9_still_184 ?_
            refine AW.top (fun p2 ep2 => ?_)
            refine AW.istore [(7, vi p2), (9, vi sl), (8, vi x), (6, vi sx), (5, vi bl), (4, vi ab), (0, rf Γ 94), (1, vi kx), (2, vi c), (3, vi v)] dX9_still_185 (by decide) rfl ?_
            obtain ⟨x187, ex187⟩ : ∃ z : Int, x + 1 = z := ⟨_, rfl⟩
            refine AW.iinc [(8, vi x187), (7, vi p2), (9, vi sl), (6, vi sx), (5, vi bl), (4, vi ab), (0, rf Γ 94), (1, vi kx), (2, vi c), (3, vi v)] dX9_still_187 2 rfl (by decide) x187 ex187 rfl ?_
            refine AW.goto 92 dX9_still_190 (by decide) ?_
            refine AW.sub [0, 1, 3, 4, 5, 6, 7, 8, 9] rfl ?_
            refine ih (i + 1) x187 p2 _ (by omega) (by omega) ?_ (by rw [up2_c (by decide), up2_c (by decide)]; exact g5) (fun q hq => ?_) (fun j q1 => by rw [up2_c (by decide), up2_c (by decide)]; exact g6 j q1) (fun a q1 q2 q3 => by rw [up2_c q3, up2_c q2]; exact g7 a q1 q2 q3) (by omega)
            · rw [ep2, g2]; simp only [wtF]; first | (rw [if_pos (by omega)]; done) | (rw [if_neg (by omega)]; done) | (exfalso; omega)
            · by_cases e : q = i
              · subst e
                rw [up2_c (by decide), up2_s, up2_s]
                refine ⟨rfl, ?_⟩
                simp only [hiW]; first | (rw [if_pos (by omega)]; done) | (rw [if_neg (by omega), Int.add_zero]; omega) | (exfalso; omega)
              · rw [up2_c (by decide), up2_i e, up2_i e, up2_c (by decide)]; exact g3 q (by omega)
          · refine AW.iload_n dX9_still_176 8 rfl rfl ?_
            refine AW.goto 184 dX9_still_177 (by decide) ?_
            refine AW.imul dX9_still_184 ?_
            refine AW.top (fun p2 ep2 => ?_)
            refine AW.istore [(7, vi p2), (9, vi sl), (8, vi x), (6, vi sx), (5, vi bl), (4, vi ab), (0, rf Γ 94), (1, vi kx), (2, vi c), (3, vi v)] dX9_still_185 (by decide) rfl ?_
            obtain ⟨x187, ex187⟩ : ∃ z : Int, x + 1 = z := ⟨_, rfl⟩
            refine AW.iinc [(8, vi x187), (7, vi p2), (9, vi sl), (6, vi sx), (5, vi bl), (4, vi ab), (0, rf Γ 94), (1, vi kx), (2, vi c), (3, vi v)] dX9_still_187 2 rfl (by decide) x187 ex187 rfl ?_
            refine AW.goto 92 dX9_still_190 (by decide) ?_
            refine AW.sub [0, 1, 3, 4, 5, 6, 7, 8, 9] rfl ?_
            refine ih (i + 1) x187 p2 _ (by omega) (by omega) ?_ (by rw [up2_c (by decide), up2_c (by decide)]; exact g5) (fun q hq => ?_) (fun j q1 => by rw [up2_c (by decide), up2_c (by decide)]; exact g6 j q1) (fun a q1 q2 q3 => by rw [up2_c q3, up2_c q2]; exact g7 a q1 q2 q3) (by omega)
            · rw [ep2, g2]; simp only [wtF]; first | (rw [if_pos (by omega)]; done) | (rw [if_neg (by omega)]; done) | (exfalso; omega)
            · by_cases e : q = i
              · subst e
                rw [up2_c (by decide), up2_s, up2_s]
                refine ⟨rfl, ?_⟩
                simp only [hiW]; first | (rw [if_pos (by omega)]; done) | (rw [if_neg (by omega), Int.add_zero]; omega) | (exfalso; omega)
              · rw [up2_c (by decide), up2_i e, up2_i e, up2_c (by decide)]; exact g3 q (by omega)
        · refine AW.iconst dX9_still_159 ?_
          refine AW.goto 164 dX9_still_160 (by decide) ?_
          refine AW.iadd dX9_still_164 ?_
          refine AW.bipush (z := (8)) dX9_still_165 (by decide) ?_
          refine AW.irem dX9_still_167 (by omega) (by omega) ?_
          refine AW.iastN i dX9_still_168 (show sh 100 = (1, 12, []) from rfl) (by omega) (by omega) (by decide) ?_
          refine AW.iload dX9_still_169 2 rfl ?_
          refine AW.iload dX9_still_171 0 rfl ?_
          refine AW.if_eq 180 dX9_still_173 (by decide) (by omega) (fun c173 => ?_) (fun c173 => ?_)
          · refine AW.bipush (z := (10)) dX9_still_180 (by decide) ?_
            refine AW.iload_n dX9_still_182 8 rfl rfl ?_
            refine AW.isub dX9_still_183 ?_
            refine AW.imul dX9_still_184 ?_
            refine AW.top (fun p2 ep2 => ?_)
            refine AW.istore [(7, vi p2), (9, vi sl), (8, vi x), (6, vi sx), (5, vi bl), (4, vi ab), (0, rf Γ 94), (1, vi kx), (2, vi c), (3, vi v)] dX9_still_185 (by decide) rfl ?_
            obtain ⟨x187, ex187⟩ : ∃ z : Int, x + 1 = z := ⟨_, rfl⟩
            refine AW.iinc [(8, vi x187), (7, vi p2), (9, vi sl), (6, vi sx), (5, vi bl), (4, vi ab), (0, rf Γ 94), (1, vi kx), (2, vi c), (3, vi v)] dX9_still_187 2 rfl (by decide) x187 ex187 rfl ?_
            refine AW.goto 92 dX9_still_190 (by decide) ?_
            refine AW.sub [0, 1, 3, 4, 5, 6, 7, 8, 9] rfl ?_
            refine ih (i + 1) x187 p2 _ (by omega) (by omega) ?_ (by rw [up2_c (by decide), up2_c (by decide)]; exact g5) (fun q hq => ?_) (fun j q1 => by rw [up2_c (by decide), up2_c (by decide)]; exact g6 j q1) (fun a q1 q2 q3 => by rw [up2_c q3, up2_c q2]; exact g7 a q1 q2 q3) (by omega)
            · rw [ep2, g2]; simp only [wtF]; first | (rw [if_pos (by omega)]; done) | (rw [if_neg (by omega)]; done) | (exfalso; omega)
            · by_cases e : q = i
              · subst e
                rw [up2_c (by decide), up2_s, up2_s]
                refine ⟨rfl, ?_⟩
                simp only [hiW]; first | (rw [if_pos (by omega)]; done) | (rw [if_neg (by omega), Int.add_zero]; omega) | (exfalso; omega)
              · rw [up2_c (by decide), up2_i e, up2_i e, up2_c (by decide)]; exact g3 q (by omega)
          · refine AW.iload_n dX9_still_176 8 rfl rfl ?_
            refine AW.goto 184 dX9_still_177 (by decide) ?_
            refine AW.imul dX9_still_184 ?_
            refine AW.top (fun p2 ep2 => ?_)
            refine AW.istore [(7, vi p2), (9, vi sl), (8, vi x), (6, vi sx), (5, vi bl), (4, vi ab), (0, rf Γ 94), (1, vi kx), (2, vi c), (3, vi v)] dX9_still_185 (by decide) rfl ?_
            obtain ⟨x187, ex187⟩ : ∃ z : Int, x + 1 = z := ⟨_, rfl⟩
            refine AW.iinc [(8, vi x187), (7, vi p2), (9, vi sl), (6, vi sx), (5, vi bl), (4, vi ab), (0, rf Γ 94), (1, vi kx), (2, vi c), (3, vi v)] dX9_still_187 2 rfl (by decide) x187 ex187 rfl ?_
            refine AW.goto 92 dX9_still_190 (by decide) ?_
            refine AW.sub [0, 1, 3, 4, 5, 6, 7, 8, 9] rfl ?_
            refine ih (i + 1) x187 p2 _ (by omega) (by omega) ?_ (by rw [up2_c (by decide), up2_c (by decide)]; exact g5) (fun q hq => ?_) (fun j q1 => by rw [up2_c (by decide), up2_c (by decide)]; exact g6 j q1) (fun a q1 q2 q3 => by rw [up2_c q3, up2_c q2]; exact g7 a q1 q2 q3) (by omega)
            · rw [ep2, g2]; simp only [wtF]; first | (rw [if_pos (by omega)]; done) | (rw [if_neg (by omega)]; done) | (exfalso; omega)
            · by_cases e : q = i
              · subst e
                rw [up2_c (by decide), up2_s, up2_s]
                refine ⟨rfl, ?_⟩
                simp only [hiW]; first | (rw [if_pos (by omega)]; done) | (rw [if_neg (by omega), Int.add_zero]; omega) | (exfalso; omega)
              · rw [up2_c (by decide), up2_i e, up2_i e, up2_c (by decide)]; exact g3 q (by omega)

set_option maxRecDepth 20000 in
theorem still_loop3 (Γ : GC) (M : Mm) (hsg : SG M) (r : Nat → Int) (e96 : M 96 = r) (ho : OkR r) (k L : Nat) (hk : (k : Int) < r 1) (hL : (L : Int) = r (17 + 7 * k)) (kx c v : Int) (hkx : kx = k) (hc : 0 ≤ c ∧ c ≤ 10) (bl : Int) (Q : Int → Mm → Prop) (hx : ∀ (sx ab : Int) (N : Mm), ab = abF r k c (2 ^ L) → (∀ j : Nat, j ≠ 9 → j ≠ 10 → j ≠ 11 → j ≠ 12 → N 94 j = M 94 j) → (∀ a : Nat, a ≠ 94 → a ≠ 99 → a ≠ 100 → N a = M a) → AW Γ uX9_still 229 [(6, vi sx), (5, vi bl), (4, vi ab), (0, rf Γ 94), (1, vi kx), (2, vi c), (3, vi v)] [] N Q) : ∀ (n S : Nat) (sx ab : Int) (N : Mm), sx = S → S ≤ 2 ^ L → ab = abF r k c S → N 94 9 = L → (∀ j : Nat, j ≠ 9 → j ≠ 10 → j ≠ 11 → j ≠ 12 → N 94 j = M 94 j) → (∀ a : Nat, a ≠ 94 → a ≠ 99 → a ≠ 100 → N a = M a) → 64 - S < n → AW Γ uX9_still 75 [(6, vi sx), (5, vi bl), (4, vi ab), (0, rf Γ 94), (1, vi kx), (2, vi c), (3, vi v)] [] N Q := by
  obtain ⟨o0, o1, o2, o3, o4, o5, o6⟩ := id ho
  obtain ⟨k1, k2⟩ := o6 k hk
  have hp6 : (2 : Nat) ^ L ≤ 2 ^ 6 := Nat.pow_le_pow_right (by decide) (by omega)
  intro n
  induction n with
  | zero => intro S sx ab N g0 g1 g2 g5 g8 g7 gm; omega
  | succ n ih =>
    intro S sx ab N g0 g1 g2 g5 g8 g7 gm
    have eN : N 96 = r := by rw [g7 96 (by decide) (by decide) (by decide), e96]
    have sgN : SG N := fun j hj => by rw [g7 95 (by decide) (by decide) (by decide)]; exact hsg j hj
    refine AW.iload dX9_still_75 0 rfl ?_
    refine AW.iconst dX9_still_77 ?_
    refine AW.aload_n dX9_still_78 3 rfl rfl ?_
    refine AW.getI dX9_still_79 fl_X9_182 (show sh 94 = (0, 9, [some 95, some 96, some 97, none, none, none, some 98, some 99, some 100, none, none, none, none, some 101, none, none, none, some 102, none, some 103, some 104, none, some 105, some 106, some 107, some 108]) from rfl) rfl ?_
    rw [g5]
    refine AW.ishl1 dX9_still_82 (by omega) ?_
    rw [show (2 : Int) ^ (L : Int).toNat = ((2 ^ L : Nat) : Int) by simp]
    refine AW.icmp_ge 229 dX9_still_83 (by decide) (by omega) (by omega) (fun c83 => ?_) (fun c83 => ?_)
    · refine AW.sub [0, 1, 2, 3, 4, 5, 6] rfl ?_
      exact hx sx ab N (by rw [g2, show 2 ^ L = S by omega]) g8 g7
    · refine AW.iconst dX9_still_86 ?_
      refine AW.top (fun x87 ex87 => ?_)
      refine AW.istore [(7, vi x87), (6, vi sx), (5, vi bl), (4, vi ab), (0, rf Γ 94), (1, vi kx), (2, vi c), (3, vi v)] dX9_still_87 (by decide) rfl ?_
      refine AW.iconst dX9_still_89 ?_
      refine AW.top (fun x90 ex90 => ?_)
      refine AW.istore [(8, vi x90), (7, vi x87), (6, vi sx), (5, vi bl), (4, vi ab), (0, rf Γ 94), (1, vi kx), (2, vi c), (3, vi v)] dX9_still_90 (by decide) rfl ?_
      refine AW.sub [0, 1, 2, 3, 4, 5, 6, 7, 8] rfl ?_
      refine still_loop2 Γ N sgN r eN ho k L hk hL kx c v hkx hc ab bl sx S g0 (by omega) _ (fun x pr N2 z1 z2 z3 z4 z5 => ?_) 8 0 x90 x87 N (by omega) (by omega) (by rw [ex87]; rfl) g5 (fun q hq => by omega) (fun j q1 => rfl) (fun a q1 q2 q3 => rfl) (by omega)
      refine AW.aload_n dX9_still_193 5 rfl rfl ?_
      refine AW.callV0v (C9_nears Γ N2 (fun j hj => by rw [z5 95 (by decide) (by decide) (by decide)]; exact sgN j hj) (by rw [z5 96 (by decide) (by decide) (by decide), eN]; exact ho) (by omega) (fun q hq => by rw [(z3 q (by omega)).1]; exact tl_b _) (fun q hq => by rw [(z3 q (by omega)).2]; exact hiW_d r k S L q (by omega))) dX9_still_194 mc_X9_200 (show sh 94 = (0, 9, [some 95, some 96, some 97, none, none, none, some 98, some 99, some 100, none, none, none, none, some 101, none, none, none, some 102, none, some 103, some 104, none, some 105, some 106, some 107, some 108]) from rfl) (fun _ => rfl) ⟨Nat.le_of_ble_eq_true rfl, Nat.le_of_ble_eq_true rfl⟩ (Nat.le_of_ble_eq_true rfl) (fun z194 M194 h194 => ?_)
      rw [z2, z5 96 (by decide) (by decide) (by decide), eN, nearF_congr (r := r) (m := (L : Int)) (lo' := loW r k) (hi' := hiW r k S) (fun i hi => z3 i (by omega)), hL] at h194
      obtain ⟨⟨e1, e2, e3⟩, e4, e5⟩ := h194
      have nt := near_td (r := r) (k := k) S hk
      have nb := nearF_b (r := r) (loW_d r k (r (17 + 7 * k))) (hiW_d r k S (r (17 + 7 * k))) (by omega)
      rw [← e1, ← e3] at nt
      rw [← e1, ← e3] at nb
      refine AW.iload dX9_still_197 4 rfl ?_
      refine AW.aload_n dX9_still_199 5 rfl rfl ?_
      refine AW.getI dX9_still_200 fl_X9_185 (show sh 94 = (0, 9, [some 95, some 96, some 97, none, none, none, some 98, some 99, some 100, none, none, none, none, some 101, none, none, none, some 102, none, some 103, some 104, none, some 105, some 106, some 107, some 108]) from rfl) rfl ?_
      refine AW.iload_n dX9_still_203 6 rfl rfl ?_
      refine AW.icmp_ne 219 dX9_still_204 (by decide) (by omega) (by omega) (fun c204 => ?_) (fun c204 => ?_)
      · refine AW.iconst dX9_still_219 ?_
        refine AW.iadd dX9_still_220 ?_
        refine AW.top (fun a2 ea2 => ?_)
        refine AW.istore [(4, vi a2), (8, vi x), (7, vi pr), (6, vi sx), (5, vi bl), (0, rf Γ 94), (1, vi kx), (2, vi c), (3, vi v)] dX9_still_221 (by decide) rfl ?_
        obtain ⟨x223, ex223⟩ : ∃ z : Int, sx + 1 = z := ⟨_, rfl⟩
        refine AW.iinc [(6, vi x223), (4, vi a2), (8, vi x), (7, vi pr), (5, vi bl), (0, rf Γ 94), (1, vi kx), (2, vi c), (3, vi v)] dX9_still_223 3 rfl (by decide) x223 ex223 rfl ?_
        refine AW.goto 75 dX9_still_226 (by decide) ?_
        refine AW.sub [0, 4, 1, 5, 6, 7, 8] rfl ?_
        refine ih (S + 1) x223 a2 _ (by omega) (by omega) ?_ (by rw [e4 9 (by decide) (by decide) (by decide)]; exact z2) (fun j q1 q2 q3 q4 => by rw [e4 j q2 q3 q4, z4 j q1]; exact g8 j q1 q2 q3 q4) (fun a q1 q2 q3 => by rw [e5 a q1, z5 a q1 q2 q3]; exact g7 a q1 q2 q3) (by omega)
        rw [ea2, g2]
        simp only [abF]
        rw [show (r (17 + 7 * k)).toNat = L by omega, ← z1]
        first | (rw [if_pos (nt.mp ⟨by omega, by omega⟩)]; done) | (rw [if_neg (fun q => by have := nt.mpr q; omega)]; done)
      · refine AW.aload_n dX9_still_207 5 rfl rfl ?_
        refine AW.getI dX9_still_208 fl_X9_191 (show sh 94 = (0, 9, [some 95, some 96, some 97, none, none, none, some 98, some 99, some 100, none, none, none, none, some 101, none, none, none, some 102, none, some 103, some 104, none, some 105, some 106, some 107, some 108]) from rfl) rfl ?_
        refine AW.if_eq 219 dX9_still_211 (by decide) (by omega) (fun c211 => ?_) (fun c211 => ?_)
        · refine AW.iconst dX9_still_219 ?_
          refine AW.iadd dX9_still_220 ?_
          refine AW.top (fun a2 ea2 => ?_)
          refine AW.istore [(4, vi a2), (8, vi x), (7, vi pr), (6, vi sx), (5, vi bl), (0, rf Γ 94), (1, vi kx), (2, vi c), (3, vi v)] dX9_still_221 (by decide) rfl ?_
          obtain ⟨x223, ex223⟩ : ∃ z : Int, sx + 1 = z := ⟨_, rfl⟩
          refine AW.iinc [(6, vi x223), (4, vi a2), (8, vi x), (7, vi pr), (5, vi bl), (0, rf Γ 94), (1, vi kx), (2, vi c), (3, vi v)] dX9_still_223 3 rfl (by decide) x223 ex223 rfl ?_
          refine AW.goto 75 dX9_still_226 (by decide) ?_
          refine AW.sub [0, 4, 1, 5, 6, 7, 8] rfl ?_
          refine ih (S + 1) x223 a2 _ (by omega) (by omega) ?_ (by rw [e4 9 (by decide) (by decide) (by decide)]; exact z2) (fun j q1 q2 q3 q4 => by rw [e4 j q2 q3 q4, z4 j q1]; exact g8 j q1 q2 q3 q4) (fun a q1 q2 q3 => by rw [e5 a q1, z5 a q1 q2 q3]; exact g7 a q1 q2 q3) (by omega)
          rw [ea2, g2]
          simp only [abF]
          rw [show (r (17 + 7 * k)).toNat = L by omega, ← z1]
          first | (rw [if_pos (nt.mp ⟨by omega, by omega⟩)]; done) | (rw [if_neg (fun q => by have := nt.mpr q; omega)]; done)
        · refine AW.iload dX9_still_214 1 rfl ?_
          refine AW.goto 220 dX9_still_216 (by decide) ?_
          refine AW.iadd dX9_still_220 ?_
          refine AW.top (fun a2 ea2 => ?_)
          refine AW.istore [(4, vi a2), (8, vi x), (7, vi pr), (6, vi sx), (5, vi bl), (0, rf Γ 94), (1, vi kx), (2, vi c), (3, vi v)] dX9_still_221 (by decide) rfl ?_
          obtain ⟨x223, ex223⟩ : ∃ z : Int, sx + 1 = z := ⟨_, rfl⟩
          refine AW.iinc [(6, vi x223), (4, vi a2), (8, vi x), (7, vi pr), (5, vi bl), (0, rf Γ 94), (1, vi kx), (2, vi c), (3, vi v)] dX9_still_223 3 rfl (by decide) x223 ex223 rfl ?_
          refine AW.goto 75 dX9_still_226 (by decide) ?_
          refine AW.sub [0, 4, 1, 5, 6, 7, 8] rfl ?_
          refine ih (S + 1) x223 a2 _ (by omega) (by omega) ?_ (by rw [e4 9 (by decide) (by decide) (by decide)]; exact z2) (fun j q1 q2 q3 q4 => by rw [e4 j q2 q3 q4, z4 j q1]; exact g8 j q1 q2 q3 q4) (fun a q1 q2 q3 => by rw [e5 a q1, z5 a q1 q2 q3]; exact g7 a q1 q2 q3) (by omega)
          rw [ea2, g2]
          simp only [abF]
          rw [show (r (17 + 7 * k)).toNat = L by omega, ← z1]
          first | (rw [if_pos (nt.mp ⟨by omega, by omega⟩)]; done) | (rw [if_neg (fun q => by have := nt.mpr q; omega)]; done)

set_option maxRecDepth 20000 in
theorem still_loop4 (Γ : GC) (M : Mm) (kx c v ab bl : Int) (g : Nat) (Q : Int → Mm → Prop) (hx : ∀ bx ax : Int, ax = g → AW Γ uX9_still 260 [(7, vi bx), (6, vi ax), (5, vi bl), (4, vi ab), (0, rf Γ 94), (1, vi kx), (2, vi c), (3, vi v)] [] M Q) : ∀ (n a b : Nat) (ax bx : Int), ax = a → bx = b → (a < 2147483648 ∧ b < 2147483648) → Nat.gcd a b = g → b < n → AW Γ uX9_still 237 [(7, vi bx), (6, vi ax), (5, vi bl), (4, vi ab), (0, rf Γ 94), (1, vi kx), (2, vi c), (3, vi v)] [] M Q := by
  intro n
  induction n with
  | zero => intro a b ax bx g0 g1 g3 g2 gm; omega
  | succ n ih =>
    intro a b ax bx g0 g1 g3 g2 gm
    refine AW.iload dX9_still_237 0 rfl ?_
    refine AW.if_eq 260 dX9_still_239 (by decide) (by omega) (fun c239 => ?_) (fun c239 => ?_)
    · refine AW.sub [0, 1, 2, 3, 4, 5, 6, 7] rfl ?_
      exact hx bx ax (by rw [g0, ← g2, show b = 0 by omega, Nat.gcd_zero_right])
    · refine AW.iload dX9_still_242 1 rfl ?_
      refine AW.iload dX9_still_244 0 rfl ?_
      refine AW.irem dX9_still_246 (by omega) (by omega) ?_
      refine AW.top (fun re ere => ?_)
      refine AW.istore [(8, vi re), (7, vi bx), (6, vi ax), (5, vi bl), (4, vi ab), (0, rf Γ 94), (1, vi kx), (2, vi c), (3, vi v)] dX9_still_247 (by decide) rfl ?_
      refine AW.iload dX9_still_249 1 rfl ?_
      refine AW.top (fun a2 ea2 => ?_)
      refine AW.istore [(6, vi a2), (8, vi re), (7, vi bx), (5, vi bl), (4, vi ab), (0, rf Γ 94), (1, vi kx), (2, vi c), (3, vi v)] dX9_still_251 (by decide) rfl ?_
      refine AW.iload dX9_still_253 1 rfl ?_
      refine AW.top (fun b2 eb2 => ?_)
      refine AW.istore [(7, vi b2), (6, vi a2), (8, vi re), (5, vi bl), (4, vi ab), (0, rf Γ 94), (1, vi kx), (2, vi c), (3, vi v)] dX9_still_255 (by decide) rfl ?_
      refine AW.goto 237 dX9_still_257 (by decide) ?_
      refine AW.sub [0, 1, 3, 4, 5, 6, 7, 8] rfl ?_
      have hml := Nat.mod_lt a (show b > 0 by omega)
      exact ih b (a % b) a2 b2 (by omega) (by rw [eb2, ere, g0, g1]; exact (Int.natCast_emod a b).symm) (by omega) (by rw [← g2, Nat.gcd_comm b, ← Nat.gcd_rec, Nat.gcd_comm]) (by omega)

set_option maxRecDepth 20000 in
theorem C9_still (Γ : GC) (M : Mm) (hsg : SG M) (ho : OkR (M 96)) (kx c v : Int) (hk : R32 kx) (hc : R32 c) (hv : R32 v) : Ct Γ uX9_still [rf Γ 94, vi kx, vi c, vi v] M (fun z M' => z = stillS (M 96) kx c v ∧ off9 M M') := by
  refine Ct.of (by decide) (Nat.le_of_ble_eq_true rfl) ?_
  show AW Γ uX9_still 0 [(0, rf Γ 94), (1, vi kx), (2, vi c), (3, vi v)] [] M _
  refine AW.aload_n dX9_still_0 0 rfl rfl ?_
  refine AW.iload_n dX9_still_1 1 rfl rfl ?_
  refine AW.callV1ip (C9_isWord Γ M kx hk (ho.2.1)) dX9_still_2 mc_X9_96 (show sh 94 = (0, 9, [some 95, some 96, some 97, none, none, none, some 98, some 99, some 100, none, none, none, none, some 101, none, none, none, some 102, none, some 103, some 104, none, some 105, some 106, some 107, some 108]) from rfl) (fun _ => rfl) ⟨Nat.le_of_ble_eq_true rfl, Nat.le_of_ble_eq_true rfl⟩ (Nat.le_of_ble_eq_true rfl) ?_
  refine AW.if_eq 30 dX9_still_5 (by decide) (bI_r _) (fun c5 => ?_) (fun c5 => ?_)
  · have d5 := bI0.mp c5
    refine AW.iconst dX9_still_30 ?_
    exact AW.iret rfl dX9_still_31 ⟨by unfold stillS; rw [if_neg (by omega)], fun _ _ _ _ _ => rfl, fun _ _ _ _ => rfl⟩
  · have d5 := bI1.mp c5
    refine AW.iload_n dX9_still_8 2 rfl rfl ?_
    refine AW.i2l dX9_still_9 (by omega) ?_
    refine AW.lconst (z := (0)) dX9_still_10 rfl ?_
    refine AW.ldc2 (z := 10) dX9_still_11 kl_X9_203 (by decide +kernel) ?_
    refine AW.callS3ip (C9_in Γ M _ _ _ (by omega) (by decide) (by decide)) dX9_still_14 mc_X9_76 (fun _ => rfl) ⟨Nat.le_of_ble_eq_true rfl, Nat.le_of_ble_eq_true rfl⟩ (Nat.le_of_ble_eq_true rfl) ?_
    refine AW.if_eq 30 dX9_still_17 (by decide) (bI_r _) (fun c17 => ?_) (fun c17 => ?_)
    · have d17 := bI0.mp c17
      refine AW.iconst dX9_still_30 ?_
      exact AW.iret rfl dX9_still_31 ⟨by unfold stillS; rw [if_neg (by omega)], fun _ _ _ _ _ => rfl, fun _ _ _ _ => rfl⟩
    · have d17 := bI1.mp c17
      refine AW.iload_n dX9_still_20 3 rfl rfl ?_
      refine AW.i2l dX9_still_21 (by omega) ?_
      refine AW.lconst (z := (0)) dX9_still_22 rfl ?_
      refine AW.lconst (z := (1)) dX9_still_23 rfl ?_
      refine AW.callS3ip (C9_in Γ M _ _ _ (by omega) (by decide) (by decide)) dX9_still_24 mc_X9_76 (fun _ => rfl) ⟨Nat.le_of_ble_eq_true rfl, Nat.le_of_ble_eq_true rfl⟩ (Nat.le_of_ble_eq_true rfl) ?_
      refine AW.if_ne 32 dX9_still_27 (by decide) (bI_r _) (fun c27 => ?_) (fun c27 => ?_)
      · have d27 := bI1.mp c27
        refine AW.iconst dX9_still_32 ?_
        refine AW.top (fun ab eab => ?_)
        refine AW.istore [(4, vi ab), (0, rf Γ 94), (1, vi kx), (2, vi c), (3, vi v)] dX9_still_33 (by decide) rfl ?_
        refine AW.iconst dX9_still_35 ?_
        refine AW.top (fun bl ebl => ?_)
        refine AW.istore [(5, vi bl), (4, vi ab), (0, rf Γ 94), (1, vi kx), (2, vi c), (3, vi v)] dX9_still_36 (by decide) rfl ?_
        refine AW.aload_n dX9_still_38 2 rfl rfl ?_
        refine AW.aload_n dX9_still_39 2 rfl rfl ?_
        refine AW.iload_n dX9_still_40 3 rfl rfl ?_
        refine AW.callV1ip (C9_sizeOf Γ M kx kx.toNat (by omega) (by have := ho.2.1; omega)) dX9_still_41 mc_X9_100 (show sh 94 = (0, 9, [some 95, some 96, some 97, none, none, none, some 98, some 99, some 100, none, none, none, none, some 101, none, none, none, some 102, none, some 103, some 104, none, some 105, some 106, some 107, some 108]) from rfl) (fun _ => rfl) ⟨Nat.le_of_ble_eq_true rfl, Nat.le_of_ble_eq_true rfl⟩ (Nat.le_of_ble_eq_true rfl) ?_
        refine AW.putI dX9_still_44 fp_X9_182 (show sh 94 = (0, 9, [some 95, some 96, some 97, none, none, none, some 98, some 99, some 100, none, none, none, none, some 101, none, none, none, some 102, none, some 103, some 104, none, some 105, some 106, some 107, some 108]) from rfl) rfl ?_
        refine AW.iconst dX9_still_47 ?_
        refine AW.top (fun x48 ex48 => ?_)
        refine AW.istore [(6, vi x48), (5, vi bl), (4, vi ab), (0, rf Γ 94), (1, vi kx), (2, vi c), (3, vi v)] dX9_still_48 (by decide) rfl ?_
        refine AW.sub [0, 1, 2, 3, 4, 5, 6] rfl ?_
        obtain ⟨k1, k2⟩ := ho.2.2.2.2.2.2 kx.toNat (by omega)
        refine still_loop1 Γ (up2 M 94 9 (M 96 (17 + 7 * kx.toNat))) (M 96 (17 + 7 * kx.toNat)).toNat (by omega) (by rw [up2_s]; omega) kx c v ab _ (fun x bl2 hbl => ?_) 8 0 x48 bl (by omega) (by omega) (by rw [ebl, Int.pow_zero]) (by omega)
        refine AW.iconst dX9_still_72 ?_
        refine AW.top (fun s0 es0 => ?_)
        refine AW.istore [(6, vi s0), (5, vi bl2), (4, vi ab), (0, rf Γ 94), (1, vi kx), (2, vi c), (3, vi v)] dX9_still_73 (by decide) rfl ?_
        refine AW.sub [0, 1, 2, 3, 4, 5, 6] rfl ?_
        refine still_loop3 Γ (up2 M 94 9 (M 96 (17 + 7 * kx.toNat))) (fun j hj => by rw [up2_c (by decide)]; exact hsg j hj) (M 96) (up2_c (by decide)) ho kx.toNat (M 96 (17 + 7 * kx.toNat)).toNat (by omega) (by omega) kx c v (by omega) (by omega) bl2 _ (fun sx ab2 N z1 z2 z3 => ?_) 66 0 s0 ab _ (by omega) (Nat.zero_le _) (by rw [eab]; rfl) (by rw [up2_s]; omega) (fun _ _ _ _ _ => rfl) (fun _ _ _ _ => rfl) (by omega)
        refine AW.iload dX9_still_229 2 rfl ?_
        refine AW.top (fun ga ega => ?_)
        refine AW.istore [(6, vi ga), (5, vi bl2), (4, vi ab2), (0, rf Γ 94), (1, vi kx), (2, vi c), (3, vi v)] dX9_still_231 (by decide) rfl ?_
        refine AW.iload dX9_still_233 1 rfl ?_
        refine AW.top (fun gb egb => ?_)
        refine AW.istore [(7, vi gb), (6, vi ga), (5, vi bl2), (4, vi ab2), (0, rf Γ 94), (1, vi kx), (2, vi c), (3, vi v)] dX9_still_235 (by decide) rfl ?_
        refine AW.sub [0, 1, 2, 3, 4, 5, 6, 7] rfl ?_
        have hAb := abF_b (r := M 96) (k := kx.toNat) (c := c) (by omega) k1 (2 ^ (M 96 (17 + 7 * kx.toNat)).toNat)
        have hp6 : (2 : Nat) ^ (M 96 (17 + 7 * kx.toNat)).toNat ≤ 2 ^ 6 := Nat.pow_le_pow_right (by decide) (by omega)
        have ht6 := ten6 (M 96 (17 + 7 * kx.toNat)).toNat (by omega)
        have htc : ((10 ^ (M 96 (17 + 7 * kx.toNat)).toNat : Nat) : Int) = (10 : Int) ^ (M 96 (17 + 7 * kx.toNat)).toNat := by simp
        rw [← z1] at hAb
        refine still_loop4 Γ N kx c v ab2 bl2 _ _ (fun bx ax hax => ?_) 2147483649 ab2.toNat (10 ^ (M 96 (17 + 7 * kx.toNat)).toNat) ga gb (by omega) (by rw [egb, hbl, htc]) (by omega) rfl (by omega)
        have hgp : 0 < Nat.gcd ab2.toNat (10 ^ (M 96 (17 + 7 * kx.toNat)).toNat) := Nat.gcd_pos_of_pos_right _ (Nat.pow_pos (by decide))
        have hgl : Nat.gcd ab2.toNat (10 ^ (M 96 (17 + 7 * kx.toNat)).toNat) ≤ 10 ^ (M 96 (17 + 7 * kx.toNat)).toNat := Nat.le_of_dvd (Nat.pow_pos (by decide)) (Nat.gcd_dvd_right _ _)
        refine AW.iload_n dX9_still_260 7 rfl rfl ?_
        refine AW.if_ne 269 dX9_still_261 (by decide) (by omega) (fun c261 => ?_) (fun c261 => ?_)
        · refine AW.iload dX9_still_269 2 rfl ?_
          refine AW.iload dX9_still_271 1 rfl ?_
          refine AW.idiv dX9_still_273 (by omega) (by omega) ?_
          exact AW.iret rfl dX9_still_274 ⟨by
          unfold stillS; rw [if_pos (by omega), ← z1, hax]
          first
            | (rw [if_pos (by omega), Int.natCast_ediv]; congr 1 <;> omega)
            | (rw [if_neg (by omega), Int.natCast_ediv]; congr 1 <;> omega), fun j q1 q2 q3 q4 => by rw [z2 j q1 q2 q3 q4, up2_i q1], fun a q1 q2 q3 => by rw [z3 a q1 q2 q3, up2_c q1]⟩
        · refine AW.iload dX9_still_264 3 rfl ?_
          refine AW.goto 271 dX9_still_266 (by decide) ?_
          refine AW.iload dX9_still_271 1 rfl ?_
          refine AW.idiv dX9_still_273 (by omega) (by omega) ?_
          exact AW.iret rfl dX9_still_274 ⟨by
          unfold stillS; rw [if_pos (by omega), ← z1, hax]
          first
            | (rw [if_pos (by omega), Int.natCast_ediv]; congr 1 <;> omega)
            | (rw [if_neg (by omega), Int.natCast_ediv]; congr 1 <;> omega), fun j q1 q2 q3 q4 => by rw [z2 j q1 q2 q3 q4, up2_i q1], fun a q1 q2 q3 => by rw [z3 a q1 q2 q3, up2_c q1]⟩
      · have d27 := bI0.mp c27
        refine AW.iconst dX9_still_30 ?_
        exact AW.iret rfl dX9_still_31 ⟨by unfold stillS; rw [if_neg (by omega)], fun _ _ _ _ _ => rfl, fun _ _ _ _ => rfl⟩
