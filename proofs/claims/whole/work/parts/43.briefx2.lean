/-! SHORT, the walks -/
set_option maxRecDepth 20000 in
theorem C_reach (Γ : GC) (M : Mm) (x y z v : Int) (t g s : Nat) (hx : x = t) (hy : y = g) (hz : z = s) (ht : t < 182) (hg : g < 27) (hs : s < 2) (hv : R32 v) (hm : R32 (M 74 t)) : Ct Γ uX3_reach [rf Γ 71, vi x, vi y, vi z, vi v] M (fun _ M' => M' = rch M t v g s) := by
  refine Ct.of (by decide) (Nat.le_of_ble_eq_true rfl) ?_
  show AW Γ uX3_reach 0 [(0, rf Γ 71), (1, vi x), (2, vi y), (3, vi z), (4, vi v)] [] M _
  refine AW.iload dX3_reach_0 4 rfl ?_
  refine AW.aload_n dX3_reach_2 0 rfl rfl ?_
  refine AW.getR dX3_reach_3 fl_X3_18 (show sh 71 = (0, 3, [some 72, some 73, some 74, some 75, none]) from rfl) rfl ?_
  refine AW.iload_n dX3_reach_6 1 rfl rfl ?_
  refine AW.ialdN t dX3_reach_7 (show sh 74 = (1, 182, []) from rfl) (by omega) (by omega) (by decide) ?_
  refine AW.icmp_ge 43 dX3_reach_8 (by decide) (by omega) (by omega) (fun c8 => ?_) (fun c8 => ?_)
  · exact AW.vret rfl dX3_reach_43 (by unfold rch; first | (rw [if_pos (by omega)]; done) | (rw [if_neg (by omega)]; done))
  · refine AW.aload_n dX3_reach_11 0 rfl rfl ?_
    refine AW.getR dX3_reach_12 fl_X3_18 (show sh 71 = (0, 3, [some 72, some 73, some 74, some 75, none]) from rfl) rfl ?_
    refine AW.iload_n dX3_reach_15 1 rfl rfl ?_
    refine AW.iload dX3_reach_16 4 rfl ?_
    refine AW.iastN t dX3_reach_18 (show sh 74 = (1, 182, []) from rfl) (by omega) (by omega) (by decide) ?_
    refine AW.aload_n dX3_reach_19 0 rfl rfl ?_
    refine AW.getR dX3_reach_20 fl_X3_11 (show sh 71 = (0, 3, [some 72, some 73, some 74, some 75, none]) from rfl) rfl ?_
    refine AW.iload_n dX3_reach_23 1 rfl rfl ?_
    refine AW.iload_n dX3_reach_24 2 rfl rfl ?_
    refine AW.iload_n dX3_reach_25 3 rfl rfl ?_
    refine AW.callS2ip (C_sdir Γ _ _ _ g s (by omega) (by omega) hg hs) dX3_reach_26 mc_X3_74 (fun _ => rfl) ⟨Nat.le_of_ble_eq_true rfl, Nat.le_of_ble_eq_true rfl⟩ (Nat.le_of_ble_eq_true rfl) ?_
    refine AW.iastN t dX3_reach_29 (show sh 72 = (1, 182, []) from rfl) (by omega) (by omega) (by decide) ?_
    refine AW.aload_n dX3_reach_30 0 rfl rfl ?_
    refine AW.getR dX3_reach_31 fl_X3_15 (show sh 71 = (0, 3, [some 72, some 73, some 74, some 75, none]) from rfl) rfl ?_
    refine AW.iload_n dX3_reach_34 1 rfl rfl ?_
    refine AW.iload_n dX3_reach_35 2 rfl rfl ?_
    refine AW.iconst dX3_reach_36 ?_
    refine AW.iload_n dX3_reach_37 3 rfl rfl ?_
    refine AW.isub dX3_reach_38 ?_
    refine AW.callS2ip (C_sdir Γ _ _ _ g (1 - s) (by omega) (by omega) hg (by omega)) dX3_reach_39 mc_X3_74 (fun _ => rfl) ⟨Nat.le_of_ble_eq_true rfl, Nat.le_of_ble_eq_true rfl⟩ (Nat.le_of_ble_eq_true rfl) ?_
    refine AW.iastN t dX3_reach_42 (show sh 73 = (1, 182, []) from rfl) (by omega) (by omega) (by decide) ?_
    exact AW.vret rfl dX3_reach_43 (by unfold rch; first | (rw [if_pos (by omega)]; done) | (rw [if_neg (by omega)]; done))

theorem lP_b {r : Nat → Int} (ho : OkR r) {M N : Mm} {m g e0 s0 s : Nat} (hm : (m : Int) < r 0) (h : cInv r m 0 M) (hl : lP r M N m g e0 s0) (hs : s < 2) : (0 ≤ N 74 (14 * (m + 1) + s) ∧ N 74 (14 * (m + 1) + s) ≤ 268435456) ∧ (0 ≤ N 75 s ∧ N 75 s ≤ 268435456) := by
  have hr0 := ho.1
  have nn : ∀ gg c, CL r M m gg e0 s0 s c → 0 ≤ c := fun gg c ⟨e, q1, q2, q3, q4⟩ => by
    have d := cInv_d h (14 * m + e) (by omega) q3
    have x := efT_b ho d.1 d.2 gg s
    have y := cInv_b ho h (14 * m + e) (by omega)
    omega
  obtain ⟨⟨b1, b2, b3⟩, d1, d2, d3⟩ := hl.2.2 s hs
  have y := cInv_b ho h (14 * (m + 1) + s) (by omega)
  refine ⟨⟨?_, by omega⟩, ?_, by omega⟩
  · rcases b3 with q | ⟨q, _⟩
    · omega
    · exact nn g _ q
  · rcases d3 with q | q
    · omega
    · exact nn 26 _ q

set_option maxRecDepth 20000 in
theorem byL_loop1 (Γ : GC) (M : Mm) (r : Nat → Int) (ho : OkR r) (hr : stRel M 1 r) (m : Nat) (mx : Int) (hmx : mx = m) (hm : (m : Int) < r 0) (hI : cInv r m 0 M) (e : Nat) (x : Int) (hxe : x = 14 * m + e) (he : e < 14) (hn : M 74 (14 * m + e) ≠ 268435456) (Q : Int → Mm → Prop) (hx : ∀ (y : Int) (N : Mm), lP r M N m (r (5 + m)).toNat (e + 1) 0 → AW Γ uX3_goOnByLetter 161 [(4, vi y), (3, vi x), (0, rf Γ 71), (1, rf Γ 1), (2, vi mx)] [] N Q) : ∀ (n s : Nat) (y : Int) (N : Mm), y = s → s ≤ 2 → lP r M N m (r (5 + m)).toNat e s → 2 - s < n → AW Γ uX3_goOnByLetter 49 [(4, vi y), (3, vi x), (0, rf Γ 71), (1, rf Γ 1), (2, vi mx)] [] N Q := by
  obtain ⟨h1, h2, h3, h4, h5, h6, h7⟩ := st1u hr
  obtain ⟨o0, o1, o2, o3, o4, o5, o6⟩ := id ho
  have hlb := o5 m hm
  obtain ⟨d1, d2⟩ := cInv_d hI (14 * m + e) (by omega) hn
  have bb := cInv_b ho hI (14 * m + e) (by omega)
  intro n
  induction n with
  | zero => intro s y N g0 g1 g2 gm; omega
  | succ n ih =>
    intro s y N g0 g1 g2 gm
    have hl2 : N 2 = M 2 := g2.1 2 (by decide) (by decide) (by decide) (by decide)
    have hrN : stRel N 1 r := hr.frame (g2.1 _ (by decide) (by decide) (by decide) (by decide)) (g2.1 _ (by decide) (by decide) (by decide) (by decide)) (g2.1 _ (by decide) (by decide) (by decide) (by decide)) (g2.1 _ (by decide) (by decide) (by decide) (by decide))
    obtain ⟨f74, f72, f73⟩ := g2.2.1 (14 * m + e) (by omega) (by omega)
    refine AW.iload dX3_goOnByLetter_49 0 rfl ?_
    refine AW.iconst dX3_goOnByLetter_51 ?_
    refine AW.icmp_ge 161 dX3_goOnByLetter_52 (by decide) (by omega) (by omega) (fun c52 => ?_) (fun c52 => ?_)
    · refine AW.sub [0, 1, 2, 3, 4] rfl ?_
      exact hx y N (lP_2 (by rw [show 2 = s by omega]; exact g2))
    · have hbb := lP_b (s := s) ho hm hI g2 (by omega)
      refine AW.aload_n dX3_goOnByLetter_55 3 rfl rfl ?_
      refine AW.getR dX3_goOnByLetter_56 fl_X3_53 (show sh 1 = (0, 5, [some 2, none, some 3, some 4, none, none, none, none]) from rfl) rfl ?_
      refine AW.iload_n dX3_goOnByLetter_59 4 rfl rfl ?_
      refine AW.ialdN m dX3_goOnByLetter_60 (show sh 2 = (1, 12, []) from rfl) (by omega) (by omega) (by decide) ?_
      rw [hl2, h6 m hm]
      refine AW.top (fun le ele => ?_)
      refine AW.istore [(5, vi le), (4, vi y), (3, vi x), (0, rf Γ 71), (1, rf Γ 1), (2, vi mx)] dX3_goOnByLetter_61 (by decide) rfl ?_
      refine AW.aload_n dX3_goOnByLetter_63 3 rfl rfl ?_
      refine AW.iload_n dX3_goOnByLetter_64 5 rfl rfl ?_
      refine AW.iconst dX3_goOnByLetter_65 ?_
      refine AW.iadd dX3_goOnByLetter_66 ?_
      refine AW.bipush (z := (14)) dX3_goOnByLetter_67 (by decide) ?_
      refine AW.imul dX3_goOnByLetter_69 ?_
      refine AW.iload dX3_goOnByLetter_70 1 rfl ?_
      refine AW.iadd dX3_goOnByLetter_72 ?_
      refine AW.iload dX3_goOnByLetter_73 0 rfl ?_
      refine AW.iload dX3_goOnByLetter_75 1 rfl ?_
      refine AW.aload_n dX3_goOnByLetter_77 3 rfl rfl ?_
      refine AW.getR dX3_goOnByLetter_78 fl_X3_18 (show sh 71 = (0, 3, [some 72, some 73, some 74, some 75, none]) from rfl) rfl ?_
      refine AW.iload_n dX3_goOnByLetter_81 2 rfl rfl ?_
      refine AW.ialdN (14 * m + e) dX3_goOnByLetter_82 (show sh 74 = (1, 182, []) from rfl) (by omega) (by omega) (by decide) ?_
      rw [f74]
      refine AW.aload_n dX3_goOnByLetter_83 4 rfl rfl ?_
      refine AW.aload_n dX3_goOnByLetter_84 3 rfl rfl ?_
      refine AW.getR dX3_goOnByLetter_85 fl_X3_11 (show sh 71 = (0, 3, [some 72, some 73, some 74, some 75, none]) from rfl) rfl ?_
      refine AW.iload_n dX3_goOnByLetter_88 2 rfl rfl ?_
      refine AW.ialdN (14 * m + e) dX3_goOnByLetter_89 (show sh 72 = (1, 182, []) from rfl) (by omega) (by omega) (by decide) ?_
      rw [f72]
      refine AW.aload_n dX3_goOnByLetter_90 3 rfl rfl ?_
      refine AW.getR dX3_goOnByLetter_91 fl_X3_15 (show sh 71 = (0, 3, [some 72, some 73, some 74, some 75, none]) from rfl) rfl ?_
      refine AW.iload_n dX3_goOnByLetter_94 2 rfl rfl ?_
      refine AW.ialdN (14 * m + e) dX3_goOnByLetter_95 (show sh 73 = (1, 182, []) from rfl) (by omega) (by omega) (by decide) ?_
      rw [f73]
      refine AW.iload dX3_goOnByLetter_96 0 rfl ?_
      refine AW.iload dX3_goOnByLetter_98 1 rfl ?_
      refine AW.callS5ip (C_priceOf Γ N r hrN _ _ le y (r (5 + m)).toNat s d1 d2 (by omega) g0 (by omega) (by omega)) dX3_goOnByLetter_100 mc_X3_56 (fun _ => rfl) ⟨Nat.le_of_ble_eq_true rfl, Nat.le_of_ble_eq_true rfl⟩ (Nat.le_of_ble_eq_true rfl) ?_
      refine AW.iadd dX3_goOnByLetter_103 ?_
      have hv1 := efT_b ho d1 d2 (r (5 + m)).toNat s
      have hv2 := efT_b ho d1 d2 26 s
      refine AW.callV4v (C_reach Γ N _ _ _ _ (14 * (m + 1) + s) (r (5 + m)).toNat s (by omega) (by omega) (by omega) (by omega) (by omega) (by omega) (by omega) (by omega)) dX3_goOnByLetter_104 mc_X3_60 (show sh 71 = (0, 3, [some 72, some 73, some 74, some 75, none]) from rfl) (fun _ => rfl) ⟨Nat.le_of_ble_eq_true rfl, Nat.le_of_ble_eq_true rfl⟩ (Nat.le_of_ble_eq_true rfl) (fun z104 M104 h104 => ?_)
      have ro := rch_o N (14 * (m + 1) + s) (M 74 (14 * m + e) + (32 * efT r (M 72 (14 * m + e)) (M 73 (14 * m + e)) (r (5 + m)).toNat s + 1)) (r (5 + m)).toNat s
      rw [← h104] at ro
      have i74 : M104 74 (14 * m + e) = M 74 (14 * m + e) := by rw [(ro.2 _ (by omega)).1, f74]
      have i72 : M104 72 (14 * m + e) = M 72 (14 * m + e) := by rw [(ro.2 _ (by omega)).2.1, f72]
      have i73 : M104 73 (14 * m + e) = M 73 (14 * m + e) := by rw [(ro.2 _ (by omega)).2.2, f73]
      have hr104 : stRel M104 1 r := hrN.frame (ro.1 _ (by decide) (by decide) (by decide)) (ro.1 _ (by decide) (by decide) (by decide)) (ro.1 _ (by decide) (by decide) (by decide)) (ro.1 _ (by decide) (by decide) (by decide))
      have i75 : M104 75 s = N 75 s := by rw [ro.1 75 (by decide) (by decide) (by decide)]
      refine AW.aload_n dX3_goOnByLetter_107 3 rfl rfl ?_
      refine AW.getR dX3_goOnByLetter_108 fl_X3_18 (show sh 71 = (0, 3, [some 72, some 73, some 74, some 75, none]) from rfl) rfl ?_
      refine AW.iload_n dX3_goOnByLetter_111 2 rfl rfl ?_
      refine AW.ialdN (14 * m + e) dX3_goOnByLetter_112 (show sh 74 = (1, 182, []) from rfl) (by omega) (by omega) (by decide) ?_
      rw [i74]
      refine AW.aload_n dX3_goOnByLetter_113 4 rfl rfl ?_
      refine AW.aload_n dX3_goOnByLetter_114 3 rfl rfl ?_
      refine AW.getR dX3_goOnByLetter_115 fl_X3_11 (show sh 71 = (0, 3, [some 72, some 73, some 74, some 75, none]) from rfl) rfl ?_
      refine AW.iload_n dX3_goOnByLetter_118 2 rfl rfl ?_
      refine AW.ialdN (14 * m + e) dX3_goOnByLetter_119 (show sh 72 = (1, 182, []) from rfl) (by omega) (by omega) (by decide) ?_
      rw [i72]
      refine AW.aload_n dX3_goOnByLetter_120 3 rfl rfl ?_
      refine AW.getR dX3_goOnByLetter_121 fl_X3_15 (show sh 71 = (0, 3, [some 72, some 73, some 74, some 75, none]) from rfl) rfl ?_
      refine AW.iload_n dX3_goOnByLetter_124 2 rfl rfl ?_
      refine AW.ialdN (14 * m + e) dX3_goOnByLetter_125 (show sh 73 = (1, 182, []) from rfl) (by omega) (by omega) (by decide) ?_
      rw [i73]
      refine AW.bipush (z := (26)) dX3_goOnByLetter_126 (by decide) ?_
      refine AW.iload dX3_goOnByLetter_128 1 rfl ?_
      refine AW.callS5ip (C_priceOf Γ M104 r hr104 _ _ 26 y 26 s d1 d2 rfl g0 (by decide) (by omega)) dX3_goOnByLetter_130 mc_X3_56 (fun _ => rfl) ⟨Nat.le_of_ble_eq_true rfl, Nat.le_of_ble_eq_true rfl⟩ (Nat.le_of_ble_eq_true rfl) ?_
      refine AW.iadd dX3_goOnByLetter_133 ?_
      refine AW.top (fun cl ecl => ?_)
      refine AW.istore [(6, vi cl), (5, vi le), (4, vi y), (3, vi x), (0, rf Γ 71), (1, rf Γ 1), (2, vi mx)] dX3_goOnByLetter_134 (by decide) rfl ?_
      refine AW.aload_n dX3_goOnByLetter_136 4 rfl rfl ?_
      refine AW.getR dX3_goOnByLetter_137 fl_X3_21 (show sh 71 = (0, 3, [some 72, some 73, some 74, some 75, none]) from rfl) rfl ?_
      refine AW.iload dX3_goOnByLetter_140 2 rfl ?_
      refine AW.aload_n dX3_goOnByLetter_142 4 rfl rfl ?_
      refine AW.getR dX3_goOnByLetter_143 fl_X3_21 (show sh 71 = (0, 3, [some 72, some 73, some 74, some 75, none]) from rfl) rfl ?_
      refine AW.iload dX3_goOnByLetter_146 2 rfl ?_
      refine AW.ialdN s dX3_goOnByLetter_148 (show sh 75 = (1, 2, []) from rfl) (by omega) (by omega) (by decide) ?_
      rw [i75]
      refine AW.iload dX3_goOnByLetter_149 0 rfl ?_
      refine AW.mmin dX3_goOnByLetter_151 mc_X3_47 (by omega) (by omega) (Nat.le_of_ble_eq_true rfl) (Nat.le_of_ble_eq_true rfl) ?_
      refine AW.iastN s dX3_goOnByLetter_154 (show sh 75 = (1, 2, []) from rfl) (by omega) (by omega) (by decide) ?_
      obtain ⟨x155, ex155⟩ : ∃ z : Int, y + 1 = z := ⟨_, rfl⟩
      refine AW.iinc [(4, vi x155), (6, vi cl), (5, vi le), (3, vi x), (0, rf Γ 71), (1, rf Γ 1), (2, vi mx)] dX3_goOnByLetter_155 2 rfl (by decide) x155 ex155 rfl ?_
      refine AW.goto 49 dX3_goOnByLetter_158 (by decide) ?_
      refine AW.sub [0, 3, 4, 5, 6] rfl ?_
      refine ih (s + 1) x155 _ (by omega) (by omega) ?_ (by omega)
      rw [ecl, h104]
      exact lP_s g2 he (by omega) hn

set_option maxRecDepth 20000 in
theorem byL_loop2 (Γ : GC) (M : Mm) (r : Nat → Int) (ho : OkR r) (hr : stRel M 1 r) (m : Nat) (mx : Int) (hmx : mx = m) (hm : (m : Int) < r 0) (hI : cInv r m 0 M) : ∀ (n e : Nat) (x : Int) (N : Mm), x = 14 * m + e → e ≤ 14 → lP r M N m (r (5 + m)).toNat e 0 → 14 - e < n → AW Γ uX3_goOnByLetter 21 [(3, vi x), (0, rf Γ 71), (1, rf Γ 1), (2, vi mx)] [] N (fun _ M' => lP r M M' m (r (5 + m)).toNat 14 0) := by
  obtain ⟨h1, h2, h3, h4, h5, h6, h7⟩ := st1u hr
  obtain ⟨o0, o1, o2, o3, o4, o5, o6⟩ := id ho
  have hlb := o5 m hm
  intro n
  induction n with
  | zero => intro e x N g0 g1 g2 gm; omega
  | succ n ih =>
    intro e x N g0 g1 g2 gm
    refine AW.iload_n dX3_goOnByLetter_21 0 rfl rfl ?_
    refine AW.iload_n dX3_goOnByLetter_22 3 rfl rfl ?_
    refine AW.bipush (z := (14)) dX3_goOnByLetter_23 (by decide) ?_
    refine AW.imul dX3_goOnByLetter_25 ?_
    refine AW.bipush (z := (14)) dX3_goOnByLetter_26 (by decide) ?_
    refine AW.iadd dX3_goOnByLetter_28 ?_
    refine AW.icmp_ge 167 dX3_goOnByLetter_29 (by decide) (by omega) (by omega) (fun c29 => ?_) (fun c29 => ?_)
    · exact AW.vret rfl dX3_goOnByLetter_167 (by rw [show (14 : Nat) = e by omega]; exact g2)
    · have bb := cInv_b ho hI (14 * m + e) (by omega)
      obtain ⟨f74, _, _⟩ := g2.2.1 (14 * m + e) (by omega) (by omega)
      refine AW.aload_n dX3_goOnByLetter_32 1 rfl rfl ?_
      refine AW.getR dX3_goOnByLetter_33 fl_X3_18 (show sh 71 = (0, 3, [some 72, some 73, some 74, some 75, none]) from rfl) rfl ?_
      refine AW.iload_n dX3_goOnByLetter_36 0 rfl rfl ?_
      refine AW.ialdN (14 * m + e) dX3_goOnByLetter_37 (show sh 74 = (1, 182, []) from rfl) (by omega) (by omega) (by decide) ?_
      rw [f74]
      refine AW.ldc (z := 268435456) dX3_goOnByLetter_38 kc_X3_28 (by decide +kernel) ?_
      refine AW.icmp_ne 46 dX3_goOnByLetter_40 (by decide) (by omega) (by omega) (fun c40 => ?_) (fun c40 => ?_)
      · refine AW.iconst dX3_goOnByLetter_46 ?_
        refine AW.top (fun x47 ex47 => ?_)
        refine AW.istore [(4, vi x47), (3, vi x), (0, rf Γ 71), (1, rf Γ 1), (2, vi mx)] dX3_goOnByLetter_47 (by decide) rfl ?_
        refine AW.sub [0, 1, 2, 3, 4] rfl ?_
        refine byL_loop1 Γ M r ho hr m mx hmx hm hI e x (by omega) (by omega) c40 _ (fun y2 N2 z => ?_) 4 0 x47 N (by omega) (by omega) g2 (by omega)
        obtain ⟨x161, ex161⟩ : ∃ z : Int, x + 1 = z := ⟨_, rfl⟩
        refine AW.iinc [(3, vi x161), (4, vi y2), (0, rf Γ 71), (1, rf Γ 1), (2, vi mx)] dX3_goOnByLetter_161 1 rfl (by decide) x161 ex161 rfl ?_
        refine AW.goto 21 dX3_goOnByLetter_164 (by decide) ?_
        refine AW.sub [0, 2, 3, 4] rfl ?_
        exact ih (e + 1) x161 N2 (by omega) (by omega) z (by omega)
      · refine AW.goto 161 dX3_goOnByLetter_43 (by decide) ?_
        refine AW.sub [0, 1, 2, 3] rfl ?_
        obtain ⟨x161, ex161⟩ : ∃ z : Int, x + 1 = z := ⟨_, rfl⟩
        refine AW.iinc [(3, vi x161), (0, rf Γ 71), (1, rf Γ 1), (2, vi mx)] dX3_goOnByLetter_161 0 rfl (by decide) x161 ex161 rfl ?_
        refine AW.goto 21 dX3_goOnByLetter_164 (by decide) ?_
        refine AW.sub [0, 1, 2, 3] rfl ?_
        exact ih (e + 1) x161 N (by omega) (by omega) (lP_n g2 c40) (by omega)

set_option maxRecDepth 20000 in
theorem C_byLetter (Γ : GC) (M : Mm) (r : Nat → Int) (ho : OkR r) (hr : stRel M 1 r) (m : Nat) (mx : Int) (hmx : mx = m) (hm : (m : Int) < r 0) (hI : cInv r m 0 M) : Ct Γ uX3_goOnByLetter [rf Γ 71, rf Γ 1, vi mx] M (fun _ M' => cInv r m 1 M' ∧ cpP r m M' ∧ (∀ a : Nat, a ≠ 72 → a ≠ 73 → a ≠ 74 → a ≠ 75 → M' a = M a)) := by
  refine Ct.of (by decide) (Nat.le_of_ble_eq_true rfl) ?_
  show AW Γ uX3_goOnByLetter 0 [(0, rf Γ 71), (1, rf Γ 1), (2, vi mx)] [] M _
  refine AW.aload_n dX3_goOnByLetter_0 0 rfl rfl ?_
  refine AW.getR dX3_goOnByLetter_1 fl_X3_21 (show sh 71 = (0, 3, [some 72, some 73, some 74, some 75, none]) from rfl) rfl ?_
  refine AW.iconst dX3_goOnByLetter_4 ?_
  refine AW.ldc (z := 268435456) dX3_goOnByLetter_5 kc_X3_28 (by decide +kernel) ?_
  refine AW.iastN 0 dX3_goOnByLetter_7 (show sh 75 = (1, 2, []) from rfl) rfl (by decide) (by decide) ?_
  refine AW.aload_n dX3_goOnByLetter_8 0 rfl rfl ?_
  refine AW.getR dX3_goOnByLetter_9 fl_X3_21 (show sh 71 = (0, 3, [some 72, some 73, some 74, some 75, none]) from rfl) rfl ?_
  refine AW.iconst dX3_goOnByLetter_12 ?_
  refine AW.ldc (z := 268435456) dX3_goOnByLetter_13 kc_X3_28 (by decide +kernel) ?_
  refine AW.iastN 1 dX3_goOnByLetter_15 (show sh 75 = (1, 2, []) from rfl) rfl (by decide) (by decide) ?_
  obtain ⟨N, hN⟩ : ∃ z : Mm, z = up2 (up2 M 75 0 268435456) 75 1 268435456 := ⟨_, rfl⟩
  rw [← hN]
  have nE : ∀ a : Nat, a ≠ 75 → N a = M a := fun a ha => by rw [hN, up2_c ha, up2_c ha]
  have hrN : stRel N 1 r := hr.frame (nE _ (by decide)) (nE _ (by decide)) (nE _ (by decide)) (nE _ (by decide))
  have hIN : cInv r m 0 N := hI.frame (nE _ (by decide)) (nE _ (by decide)) (nE _ (by decide))
  refine AW.iload_n dX3_goOnByLetter_16 2 rfl rfl ?_
  refine AW.bipush (z := (14)) dX3_goOnByLetter_17 (by decide) ?_
  refine AW.imul dX3_goOnByLetter_19 ?_
  refine AW.top (fun x20 ex20 => ?_)
  refine AW.istore_n [(3, vi x20), (0, rf Γ 71), (1, rf Γ 1), (2, vi mx)] dX3_goOnByLetter_20 rfl (by decide) rfl ?_
  refine AW.sub [0, 1, 2, 3] rfl ?_
  refine AW.mono (fun z M' hz => ?_) (byL_loop2 Γ N r ho hrN m mx hmx hm hIN 16 0 x20 N (by omega) (by omega) ⟨fun _ _ _ _ _ => rfl, fun _ _ _ => ⟨rfl, rfl, rfl⟩, fun s hs => ⟨⟨Int.le_refl _, fun c ⟨e, _, q, _⟩ => by omega, Or.inl ⟨rfl, rfl, rfl⟩⟩, ?_⟩⟩ (by omega))
  · have := lemA ho hm hIN hz
    exact ⟨this.1, this.2, fun a q1 q2 q3 q4 => by rw [hz.1 a q1 q2 q3 q4, nE a q4]⟩
  · have e75 : N 75 s = 268435456 := by
      rcases (show s = 0 ∨ s = 1 by omega) with rfl | rfl
      · rw [hN, up2_i (by decide), up2_s]
      · rw [hN, up2_s]
    rw [e75]
    exact ⟨Int.le_refl _, fun c ⟨e, _, q, _⟩ => by omega, Or.inl rfl⟩

set_option maxRecDepth 20000 in
theorem byW_loop1 (Γ : GC) (M : Mm) (r : Nat → Int) (ho : OkR r) (hr : stRel M 1 r) (m : Nat) (mx : Int) (hmx : mx = m) (hm : (m : Int) < r 0) (k : Nat) (kx en : Int) (hkx : kx = k) (hk : (k : Int) < r 1) (hst : stdP r k m) (hen : en = 14 * (m + (r (17 + 7 * k)).toNat) + 2 * (k + 1)) (hI : cInv r m (k + 1) M) (hC : cpP r m M) (Q : Int → Mm → Prop) (hx : ∀ (y : Int) (N : Mm), wP r M N m k 4 → AW Γ uX3_goOnByWords 115 [(5, vi y), (4, vi en), (3, vi kx), (0, rf Γ 71), (1, rf Γ 1), (2, vi mx)] [] N Q) : ∀ (n v : Nat) (y : Int) (N : Mm), y = v → v ≤ 4 → wP r M N m k v → 4 - v < n → AW Γ uX3_goOnByWords 44 [(5, vi y), (4, vi en), (3, vi kx), (0, rf Γ 71), (1, rf Γ 1), (2, vi mx)] [] N Q := by
  obtain ⟨o0, o1, o2, o3, o4, o5, o6⟩ := id ho
  have k1 := (o6 k hk).1
  have hst1 := hst.1
  have cpb : ∀ f : Nat, f < 2 → 0 ≤ M 75 f ∧ M 75 f ≤ 268435456 := fun f hf => by
    rcases (hC f hf).2 with q | ⟨g, s, E, S, q1, q2⟩
    · omega
    · have x := Pth_b ho q1
      have y := efT_b ho (lD_d m g s) (rD_d m g s) 26 f
      omega
  intro n
  induction n with
  | zero => intro v y N g0 g1 g2 gm; omega
  | succ n ih =>
    intro v y N g0 g1 g2 gm
    have hrN : stRel N 1 r := hr.frame (g2.1 _ (by decide) (by decide) (by decide)) (g2.1 _ (by decide) (by decide) (by decide)) (g2.1 _ (by decide) (by decide) (by decide)) (g2.1 _ (by decide) (by decide) (by decide))
    have wP_b : ∀ s : Nat, s < 2 → 0 ≤ N 74 (14 * (m + (r (17 + 7 * k)).toNat) + 2 * (k + 1) + s) ∧ N 74 (14 * (m + (r (17 + 7 * k)).toNat) + 2 * (k + 1) + s) ≤ 268435456 := fun s hs => by
      obtain ⟨b1, b2, b3⟩ := g2.2.2 s hs
      have y := cInv_b ho hI (14 * (m + (r (17 + 7 * k)).toNat) + 2 * (k + 1) + s) (by omega)
      refine ⟨?_, by omega⟩
      rcases b3 with q | ⟨⟨u, q1, q2, q3⟩, _⟩
      · omega
      · have x := cpb (u / 2) (by omega)
        have z := efT_b ho (sgD_d 26 (u / 2)) (sgD_d 26 (1 - u / 2)) k s
        omega
    refine AW.iload dX3_goOnByWords_44 0 rfl ?_
    refine AW.iconst dX3_goOnByWords_46 ?_
    refine AW.icmp_ge 115 dX3_goOnByWords_47 (by decide) (by omega) (by omega) (fun c47 => ?_) (fun c47 => ?_)
    · refine AW.sub [0, 1, 2, 3, 4, 5] rfl ?_
      exact hx y N (by rw [show 4 = v by omega]; exact g2)
    · refine AW.iload dX3_goOnByWords_50 0 rfl ?_
      refine AW.iconst dX3_goOnByWords_52 ?_
      refine AW.idiv dX3_goOnByWords_53 (by omega) (by omega) ?_
      refine AW.top (fun fr efr => ?_)
      refine AW.istore [(6, vi fr), (5, vi y), (4, vi en), (3, vi kx), (0, rf Γ 71), (1, rf Γ 1), (2, vi mx)] dX3_goOnByWords_54 (by decide) rfl ?_
      refine AW.iload dX3_goOnByWords_56 1 rfl ?_
      refine AW.iconst dX3_goOnByWords_58 ?_
      refine AW.irem dX3_goOnByWords_59 (by omega) (by omega) ?_
      refine AW.top (fun to eto => ?_)
      refine AW.istore [(7, vi to), (6, vi fr), (5, vi y), (4, vi en), (3, vi kx), (0, rf Γ 71), (1, rf Γ 1), (2, vi mx)] dX3_goOnByWords_60 (by decide) rfl ?_
      refine AW.aload_n dX3_goOnByWords_62 6 rfl rfl ?_
      refine AW.bipush (z := (26)) dX3_goOnByWords_63 (by decide) ?_
      refine AW.iload dX3_goOnByWords_65 1 rfl ?_
      refine AW.callS2ip (C_sdir Γ N 26 fr 26 (v / 2) rfl (by omega) (by decide) (by omega)) dX3_goOnByWords_67 mc_X3_74 (fun _ => rfl) ⟨Nat.le_of_ble_eq_true rfl, Nat.le_of_ble_eq_true rfl⟩ (Nat.le_of_ble_eq_true rfl) ?_
      refine AW.bipush (z := (26)) dX3_goOnByWords_70 (by decide) ?_
      refine AW.iconst dX3_goOnByWords_72 ?_
      refine AW.iload dX3_goOnByWords_73 1 rfl ?_
      refine AW.isub dX3_goOnByWords_75 ?_
      refine AW.callS2ip (C_sdir Γ N 26 _ 26 (1 - v / 2) rfl (by omega) (by decide) (by omega)) dX3_goOnByWords_76 mc_X3_74 (fun _ => rfl) ⟨Nat.le_of_ble_eq_true rfl, Nat.le_of_ble_eq_true rfl⟩ (Nat.le_of_ble_eq_true rfl) ?_
      refine AW.iload_n dX3_goOnByWords_79 4 rfl rfl ?_
      refine AW.iload dX3_goOnByWords_80 0 rfl ?_
      refine AW.callS5ip (C_priceOf Γ N r hrN _ _ kx to k (v % 2) (sgD_d _ _) (sgD_d _ _) hkx (by omega) (by omega) (by omega)) dX3_goOnByWords_82 mc_X3_56 (fun _ => rfl) ⟨Nat.le_of_ble_eq_true rfl, Nat.le_of_ble_eq_true rfl⟩ (Nat.le_of_ble_eq_true rfl) ?_
      refine AW.top (fun mv emv => ?_)
      refine AW.istore [(8, vi mv), (7, vi to), (6, vi fr), (5, vi y), (4, vi en), (3, vi kx), (0, rf Γ 71), (1, rf Γ 1), (2, vi mx)] dX3_goOnByWords_85 (by decide) rfl ?_
      refine AW.aload_n dX3_goOnByWords_87 6 rfl rfl ?_
      refine AW.iload dX3_goOnByWords_88 4 rfl ?_
      refine AW.iload dX3_goOnByWords_90 1 rfl ?_
      refine AW.iadd dX3_goOnByWords_92 ?_
      refine AW.iload_n dX3_goOnByWords_93 5 rfl rfl ?_
      refine AW.iload dX3_goOnByWords_94 1 rfl ?_
      refine AW.aload_n dX3_goOnByWords_96 6 rfl rfl ?_
      refine AW.getR dX3_goOnByWords_97 fl_X3_21 (show sh 71 = (0, 3, [some 72, some 73, some 74, some 75, none]) from rfl) rfl ?_
      refine AW.iload dX3_goOnByWords_100 2 rfl ?_
      refine AW.ialdN (v / 2) dX3_goOnByWords_102 (show sh 75 = (1, 2, []) from rfl) (by omega) (by omega) (by decide) ?_
      rw [g2.1 75 (by decide) (by decide) (by decide)]
      have hcb := cpb (v / 2) (by omega)
      have hv2 := efT_b ho (sgD_d 26 (v / 2)) (sgD_d 26 (1 - v / 2)) k (v % 2)
      have htb := wP_b (v % 2) (by omega)
      refine AW.iload dX3_goOnByWords_103 0 rfl ?_
      refine AW.iadd dX3_goOnByWords_105 ?_
      refine AW.callV4v (C_reach Γ N _ _ _ _ (14 * (m + (r (17 + 7 * k)).toNat) + 2 * (k + 1) + v % 2) k (v % 2) (by omega) (by omega) (by omega) (by omega) (by omega) (by omega) (by omega) (by omega)) dX3_goOnByWords_106 mc_X3_60 (show sh 71 = (0, 3, [some 72, some 73, some 74, some 75, none]) from rfl) (fun _ => rfl) ⟨Nat.le_of_ble_eq_true rfl, Nat.le_of_ble_eq_true rfl⟩ (Nat.le_of_ble_eq_true rfl) (fun z106 M106 h106 => ?_)
      obtain ⟨x109, ex109⟩ : ∃ z : Int, y + 1 = z := ⟨_, rfl⟩
      refine AW.iinc [(5, vi x109), (8, vi mv), (7, vi to), (6, vi fr), (4, vi en), (3, vi kx), (0, rf Γ 71), (1, rf Γ 1), (2, vi mx)] dX3_goOnByWords_109 3 rfl (by decide) x109 ex109 rfl ?_
      refine AW.goto 44 dX3_goOnByWords_112 (by decide) ?_
      refine AW.sub [0, 4, 5, 6, 7, 8] rfl ?_
      refine ih (v + 1) x109 _ (by omega) (by omega) ?_ (by omega)
      rw [h106, emv]
      exact wP_s g2

theorem cInv_next {r : Nat → Int} (ho : OkR r) {m : Nat} {N : Mm} (h : cInv r m ((r 1).toNat + 1) N) : cInv r (m + 1) 0 N := fun n κ s hn hκ hs => by
  obtain ⟨a, b⟩ := h n κ s hn hκ hs
  refine ⟨fun g E S hp => a g E S ((PB_next ho).mp hp), ?_⟩
  rcases b with b | ⟨g, E, S, b1, b2⟩
  · exact Or.inl b
  · exact Or.inr ⟨g, E, S, (PB_next ho).mpr b1, b2⟩

set_option maxRecDepth 20000 in
theorem byW_loop2 (Γ : GC) (M : Mm) (r : Nat → Int) (ho : OkR r) (hr : stRel M 1 r) (m : Nat) (mx : Int) (hmx : mx = m) (hm : (m : Int) < r 0) : ∀ (n k : Nat) (kx : Int) (N : Mm), kx = k → (k : Int) ≤ r 1 → cInv r m (k + 1) N → cpP r m N → (∀ a : Nat, a ≠ 72 → a ≠ 73 → a ≠ 74 → a ≠ 75 → N a = M a) → 6 - k < n → AW Γ uX3_goOnByWords 2 [(3, vi kx), (0, rf Γ 71), (1, rf Γ 1), (2, vi mx)] [] N (fun _ M' => cInv r (m + 1) 0 M' ∧ (∀ a : Nat, a ≠ 72 → a ≠ 73 → a ≠ 74 → a ≠ 75 → M' a = M a)) := by
  obtain ⟨o0, o1, o2, o3, o4, o5, o6⟩ := id ho
  intro n
  induction n with
  | zero => intro k kx N g0 g1 g2 g3 g4 gm; omega
  | succ n ih =>
    intro k kx N g0 g1 g2 g3 g4 gm
    have hrN : stRel N 1 r := hr.frame (g4 _ (by decide) (by decide) (by decide) (by decide)) (g4 _ (by decide) (by decide) (by decide) (by decide)) (g4 _ (by decide) (by decide) (by decide) (by decide)) (g4 _ (by decide) (by decide) (by decide) (by decide))
    obtain ⟨h1, h2, h3, h4, h5, h6, h7⟩ := st1u hrN
    refine AW.iload_n dX3_goOnByWords_2 0 rfl rfl ?_
    refine AW.aload_n dX3_goOnByWords_3 2 rfl rfl ?_
    refine AW.getI dX3_goOnByWords_4 fl_X3_64 (show sh 1 = (0, 5, [some 2, none, some 3, some 4, none, none, none, none]) from rfl) rfl ?_
    rw [h2]
    refine AW.icmp_ge 121 dX3_goOnByWords_7 (by decide) (by omega) (by omega) (fun c7 => ?_) (fun c7 => ?_)
    · exact AW.vret rfl dX3_goOnByWords_121 ⟨cInv_next ho (by rw [show (r 1).toNat = k by omega]; exact g2), g4⟩
    · refine AW.aload_n dX3_goOnByWords_10 2 rfl rfl ?_
      refine AW.iload_n dX3_goOnByWords_11 0 rfl rfl ?_
      refine AW.iload_n dX3_goOnByWords_12 3 rfl rfl ?_
      refine AW.callV2i (C_hasWordAt Γ N r ho hrN kx mx k m g0 hmx (by omega) (by omega)) dX3_goOnByWords_13 mc_X3_67 (show sh 1 = (0, 5, [some 2, none, some 3, some 4, none, none, none, none]) from rfl) (fun _ => rfl) ⟨Nat.le_of_ble_eq_true rfl, Nat.le_of_ble_eq_true rfl⟩ (Nat.le_of_ble_eq_true rfl) (fun z13 M13 h13 => ?_)
      obtain ⟨e13, h13⟩ := h13
      subst e13
      refine AW.if_ne 22 dX3_goOnByWords_16 (by decide) (by omega) (fun c16 => ?_) (fun c16 => ?_)
      · have hst := (h13.resolve_right (fun q => by omega)).2
        have k1 := (o6 k (by omega)).1
        have hst1 := hst.1
        refine AW.iload_n dX3_goOnByWords_22 3 rfl rfl ?_
        refine AW.aload_n dX3_goOnByWords_23 2 rfl rfl ?_
        refine AW.getR dX3_goOnByWords_24 fl_X3_71 (show sh 1 = (0, 5, [some 2, none, some 3, some 4, none, none, none, none]) from rfl) rfl ?_
        refine AW.iload_n dX3_goOnByWords_27 0 rfl rfl ?_
        refine AW.ialdN k dX3_goOnByWords_28 (show sh 4 = (1, 6, []) from rfl) (by omega) (by omega) (by decide) ?_
        rw [(h7 k (by omega)).1]
        refine AW.iadd dX3_goOnByWords_29 ?_
        refine AW.bipush (z := (14)) dX3_goOnByWords_30 (by decide) ?_
        refine AW.imul dX3_goOnByWords_32 ?_
        refine AW.iconst dX3_goOnByWords_33 ?_
        refine AW.iload_n dX3_goOnByWords_34 0 rfl rfl ?_
        refine AW.iconst dX3_goOnByWords_35 ?_
        refine AW.iadd dX3_goOnByWords_36 ?_
        refine AW.imul dX3_goOnByWords_37 ?_
        refine AW.iadd dX3_goOnByWords_38 ?_
        refine AW.top (fun en een => ?_)
        refine AW.istore [(4, vi en), (3, vi kx), (0, rf Γ 71), (1, rf Γ 1), (2, vi mx)] dX3_goOnByWords_39 (by decide) rfl ?_
        refine AW.iconst dX3_goOnByWords_41 ?_
        refine AW.top (fun x42 ex42 => ?_)
        refine AW.istore [(5, vi x42), (4, vi en), (3, vi kx), (0, rf Γ 71), (1, rf Γ 1), (2, vi mx)] dX3_goOnByWords_42 (by decide) rfl ?_
        refine AW.sub [0, 1, 2, 3, 4, 5] rfl ?_
        refine byW_loop1 Γ M13 r ho hrN m mx hmx hm k kx en g0 (by omega) hst (by omega) g2 g3 _ (fun y2 N2 z => ?_) 6 0 x42 M13 (by omega) (by omega) ⟨fun _ _ _ _ => rfl, fun _ _ _ => ⟨rfl, rfl, rfl⟩, fun s hs => ⟨Int.le_refl _, fun c ⟨u, q, _⟩ => by omega, Or.inl ⟨rfl, rfl, rfl⟩⟩⟩ (by omega)
        obtain ⟨x115, ex115⟩ : ∃ z : Int, kx + 1 = z := ⟨_, rfl⟩
        refine AW.iinc [(3, vi x115), (5, vi y2), (4, vi en), (0, rf Γ 71), (1, rf Γ 1), (2, vi mx)] dX3_goOnByWords_115 2 rfl (by decide) x115 ex115 rfl ?_
        refine AW.goto 2 dX3_goOnByWords_118 (by decide) ?_
        refine AW.sub [0, 3, 4, 5] rfl ?_
        refine ih (k + 1) x115 N2 (by omega) (by omega) (lemB ho hm (by omega) hst g2 g3 z) (fun f hf => ?_) (fun a q1 q2 q3 q4 => by rw [z.1 a q1 q2 q3]; exact g4 a q1 q2 q3 q4) (by omega)
        rw [z.1 75 (by decide) (by decide) (by decide)]; exact g3 f hf
      · have hst := (h13.resolve_left (fun q => by omega)).2
        refine AW.goto 115 dX3_goOnByWords_19 (by decide) ?_
        refine AW.sub [0, 1, 2, 3] rfl ?_
        obtain ⟨x115, ex115⟩ : ∃ z : Int, kx + 1 = z := ⟨_, rfl⟩
        refine AW.iinc [(3, vi x115), (0, rf Γ 71), (1, rf Γ 1), (2, vi mx)] dX3_goOnByWords_115 0 rfl (by decide) x115 ex115 rfl ?_
        refine AW.goto 2 dX3_goOnByWords_118 (by decide) ?_
        refine AW.sub [0, 1, 2, 3] rfl ?_
        exact ih (k + 1) x115 M13 (by omega) (by omega) (lemC g2 hst) g3 g4 (by omega)

set_option maxRecDepth 20000 in
theorem C_byWords (Γ : GC) (M : Mm) (r : Nat → Int) (ho : OkR r) (hr : stRel M 1 r) (m : Nat) (mx : Int) (hmx : mx = m) (hm : (m : Int) < r 0) (hI : cInv r m (0 + 1) M) (hC : cpP r m M) : Ct Γ uX3_goOnByWords [rf Γ 71, rf Γ 1, vi mx] M (fun _ M' => cInv r (m + 1) 0 M' ∧ (∀ a : Nat, a ≠ 72 → a ≠ 73 → a ≠ 74 → a ≠ 75 → M' a = M a)) := by
  refine Ct.of (by decide) (Nat.le_of_ble_eq_true rfl) ?_
  show AW Γ uX3_goOnByWords 0 [(0, rf Γ 71), (1, rf Γ 1), (2, vi mx)] [] M _
  refine AW.iconst dX3_goOnByWords_0 ?_
  refine AW.top (fun x1 ex1 => ?_)
  refine AW.istore_n [(3, vi x1), (0, rf Γ 71), (1, rf Γ 1), (2, vi mx)] dX3_goOnByWords_1 rfl (by decide) rfl ?_
  refine AW.sub [0, 1, 2, 3] rfl ?_
  exact byW_loop2 Γ M r ho hr m mx hmx hm 8 0 x1 M (by omega) (by have := ho.2.1; omega) hI hC (fun _ _ _ _ _ => rfl) (by omega)

set_option maxRecDepth 20000 in
theorem bfind_loop1 (Γ : GC) (M : Mm) (r : Nat → Int) (ho : OkR r) (hr : stRel M 1 r) (Q : Int → Mm → Prop) (hx : ∀ (x : Int) (N : Mm), cInv r (r 0).toNat 0 N → (∀ a : Nat, (a < 71 ∨ 75 < a) → N a = M a) → AW Γ uX3_find 58 [(2, vi x), (0, rf Γ 71), (1, rf Γ 1)] [] N Q) : ∀ (n m : Nat) (x : Int) (N : Mm), x = m → (m : Int) ≤ r 0 → cInv r m 0 N → (∀ a : Nat, (a < 71 ∨ 75 < a) → N a = M a) → 12 - m < n → AW Γ uX3_find 32 [(2, vi x), (0, rf Γ 71), (1, rf Γ 1)] [] N Q := by
  have o0 := ho.1
  intro n
  induction n with
  | zero => intro m x N g0 g1 g2 g3 gm; omega
  | succ n ih =>
    intro m x N g0 g1 g2 g3 gm
    have hrN : stRel N 1 r := hr.frame (g3 _ (by decide)) (g3 _ (by decide)) (g3 _ (by decide)) (g3 _ (by decide))
    have h1 := (st1u hrN).1
    refine AW.iload_n dX3_find_32 0 rfl rfl ?_
    refine AW.aload_n dX3_find_33 2 rfl rfl ?_
    refine AW.getI dX3_find_34 fl_X3_35 (show sh 1 = (0, 5, [some 2, none, some 3, some 4, none, none, none, none]) from rfl) rfl ?_
    rw [h1]
    refine AW.icmp_ge 58 dX3_find_37 (by decide) (by omega) (by omega) (fun c37 => ?_) (fun c37 => ?_)
    · refine AW.sub [0, 1, 2] rfl ?_
      exact hx x N (by rw [show (r 0).toNat = m by omega]; exact g2) g3
    · refine AW.aload_n dX3_find_40 1 rfl rfl ?_
      refine AW.aload_n dX3_find_41 2 rfl rfl ?_
      refine AW.iload_n dX3_find_42 0 rfl rfl ?_
      refine AW.callV2v (C_byLetter Γ N r ho hrN m x g0 (by omega) g2) dX3_find_43 mc_X3_40 (show sh 71 = (0, 3, [some 72, some 73, some 74, some 75, none]) from rfl) (fun _ => rfl) ⟨Nat.le_of_ble_eq_true rfl, Nat.le_of_ble_eq_true rfl⟩ (Nat.le_of_ble_eq_true rfl) (fun z43 M43 h43 => ?_)
      obtain ⟨i43, c43, f43⟩ := h43
      have hr43 : stRel M43 1 r := hrN.frame (f43 _ (by decide) (by decide) (by decide) (by decide)) (f43 _ (by decide) (by decide) (by decide) (by decide)) (f43 _ (by decide) (by decide) (by decide) (by decide)) (f43 _ (by decide) (by decide) (by decide) (by decide))
      refine AW.aload_n dX3_find_46 1 rfl rfl ?_
      refine AW.aload_n dX3_find_47 2 rfl rfl ?_
      refine AW.iload_n dX3_find_48 0 rfl rfl ?_
      refine AW.callV2v (C_byWords Γ M43 r ho hr43 m x g0 (by omega) i43 c43) dX3_find_49 mc_X3_44 (show sh 71 = (0, 3, [some 72, some 73, some 74, some 75, none]) from rfl) (fun _ => rfl) ⟨Nat.le_of_ble_eq_true rfl, Nat.le_of_ble_eq_true rfl⟩ (Nat.le_of_ble_eq_true rfl) (fun z49 M49 h49 => ?_)
      obtain ⟨i49, f49⟩ := h49
      obtain ⟨x52, ex52⟩ : ∃ z : Int, x + 1 = z := ⟨_, rfl⟩
      refine AW.iinc [(2, vi x52), (0, rf Γ 71), (1, rf Γ 1)] dX3_find_52 0 rfl (by decide) x52 ex52 rfl ?_
      refine AW.goto 32 dX3_find_55 (by decide) ?_
      refine AW.sub [0, 1, 2] rfl ?_
      exact ih (m + 1) x52 M49 (by omega) (by omega) i49 (fun a ha => by rw [f49 a (by omega) (by omega) (by omega) (by omega), f43 a (by omega) (by omega) (by omega) (by omega)]; exact g3 a ha) (by omega)

def bsC (r : Nat → Int) (M : Mm) (e0 : Nat) (c : Int) : Prop := ∃ e : Nat, e < e0 ∧ c = M 74 (14 * (r 0).toNat + e)
theorem bs_mn {r : Nat → Int} (ho : OkR r) {M : Mm} {v : Int} (h : cInv r (r 0).toNat 0 M) (hm : minP v 268435456 (bsC r M 14)) : ∃ E S : Int, mnP 32 r E S ∧ v = 32 * E + S := by
  obtain ⟨a1, a2, a3⟩ := hm
  have o0 := ho.1
  obtain ⟨g, s, E, S, hp⟩ := Pth_ex (r := r) (r 0).toNat (by omega)
  have lb : ∀ (g s : Nat) (E S : Int), Pth r (r 0).toNat g s E S → v ≤ 32 * E + S := fun g s E S hp => by
    obtain ⟨e, e1, e2, e3, _⟩ := cInv_e ho h hp
    have := a2 _ ⟨e, e1, rfl⟩
    omega
  have hv := lb g s E S hp
  have hb := Pth_b ho hp
  rcases a3 with q | ⟨e, e1, e2⟩
  · omega
  · obtain ⟨g', s', E', S', y1, y2, _⟩ := cInv_f (r := r) (m := (r 0).toNat) (by omega) h e1 (by omega)
    exact ⟨E', S', ⟨⟨g', s', y1⟩, fun g2 s2 E2 S2 hp2 => by have := lb g2 s2 E2 S2 hp2; omega⟩, by omega⟩

set_option maxRecDepth 20000 in
theorem bfind_loop2 (Γ : GC) (M : Mm) (r : Nat → Int) (ho : OkR r) (hr : stRel M 1 r) (hI : cInv r (r 0).toNat 0 M) : ∀ (n e : Nat) (x : Int) (N : Mm), x = e → e ≤ 14 → minP (N 71 4) 268435456 (bsC r M e) → (0 ≤ N 71 4 ∧ N 71 4 ≤ 268435456) → (∀ a : Nat, a ≠ 71 → N a = M a) → 14 - e < n → AW Γ uX3_find 66 [(2, vi x), (0, rf Γ 71), (1, rf Γ 1)] [] N (fun _ M' => minP (M' 71 4) 268435456 (bsC r M 14) ∧ ∀ a : Nat, a ≠ 71 → M' a = M a) := by
  have o0 := ho.1
  have h1 := (st1u hr).1
  intro n
  induction n with
  | zero => intro e x N g0 g1 g2 g3 g4 gm; omega
  | succ n ih =>
    intro e x N g0 g1 g2 g3 g4 gm
    refine AW.iload_n dX3_find_66 0 rfl rfl ?_
    refine AW.bipush (z := (14)) dX3_find_67 (by decide) ?_
    refine AW.icmp_ge 103 dX3_find_69 (by decide) (by omega) (by omega) (fun c69 => ?_) (fun c69 => ?_)
    · exact AW.vret rfl dX3_find_103 ⟨by rw [show (14 : Nat) = e by omega]; exact g2, g4⟩
    · refine AW.aload_n dX3_find_72 1 rfl rfl ?_
      refine AW.aload_n dX3_find_73 1 rfl rfl ?_
      refine AW.getI dX3_find_74 fl_X3_24 (show sh 71 = (0, 3, [some 72, some 73, some 74, some 75, none]) from rfl) rfl ?_
      refine AW.aload_n dX3_find_77 1 rfl rfl ?_
      refine AW.getR dX3_find_78 fl_X3_18 (show sh 71 = (0, 3, [some 72, some 73, some 74, some 75, none]) from rfl) rfl ?_
      refine AW.aload_n dX3_find_81 2 rfl rfl ?_
      refine AW.getI dX3_find_82 fl_X3_35 (show sh 1 = (0, 5, [some 2, none, some 3, some 4, none, none, none, none]) from rfl) rfl ?_
      rw [g4 1 (by decide), h1]
      refine AW.bipush (z := (14)) dX3_find_85 (by decide) ?_
      refine AW.imul dX3_find_87 ?_
      refine AW.iload_n dX3_find_88 0 rfl rfl ?_
      refine AW.iadd dX3_find_89 ?_
      refine AW.ialdN (14 * (r 0).toNat + e) dX3_find_90 (show sh 74 = (1, 182, []) from rfl) (by omega) (by omega) (by decide) ?_
      rw [g4 74 (by decide)]
      have hb9 := cInv_b ho hI (14 * (r 0).toNat + e) (by omega)
      refine AW.mmin dX3_find_91 mc_X3_47 (by omega) (by omega) (Nat.le_of_ble_eq_true rfl) (Nat.le_of_ble_eq_true rfl) ?_
      refine AW.putI dX3_find_94 fp_X3_24 (show sh 71 = (0, 3, [some 72, some 73, some 74, some 75, none]) from rfl) rfl ?_
      obtain ⟨x97, ex97⟩ : ∃ z : Int, x + 1 = z := ⟨_, rfl⟩
      refine AW.iinc [(2, vi x97), (0, rf Γ 71), (1, rf Γ 1)] dX3_find_97 0 rfl (by decide) x97 ex97 rfl ?_
      refine AW.goto 66 dX3_find_100 (by decide) ?_
      refine AW.sub [0, 1, 2] rfl ?_
      refine ih (e + 1) x97 _ (by omega) (by omega) ?_ (by rw [up2_s]; omega) (fun a q1 => by rw [up2_c q1]; exact g4 a q1) (by omega)
      rw [up2_s]
      refine minP_s g2 (fun c hc => ?_) (fun c ⟨u, u1, u2⟩ => ⟨u, by omega, u2⟩) ⟨e, by omega, rfl⟩
      obtain ⟨u, u1, u2⟩ := hc
      by_cases q : u = e
      · exact Or.inr (by rw [u2, q])
      · exact Or.inl ⟨u, by omega, u2⟩

set_option maxRecDepth 20000 in
theorem C_bfind (Γ : GC) (M : Mm) (r : Nat → Int) (ho : OkR r) (hr : stRel M 1 r) : Ct Γ uX3_find [rf Γ 71, rf Γ 1] M (fun _ M' => (∃ E S : Int, mnP 32 r E S ∧ M' 71 4 = 32 * E + S) ∧ (∀ a : Nat, (a < 71 ∨ 75 < a) → M' a = M a)) := by
  refine Ct.of (by decide) (Nat.le_of_ble_eq_true rfl) ?_
  show AW Γ uX3_find 0 [(0, rf Γ 71), (1, rf Γ 1)] [] M _
  refine AW.aload_n dX3_find_0 0 rfl rfl ?_
  refine AW.getR dX3_find_1 fl_X3_18 (show sh 71 = (0, 3, [some 72, some 73, some 74, some 75, none]) from rfl) rfl ?_
  refine AW.ldc (z := 268435456) dX3_find_4 kc_X3_28 (by decide +kernel) ?_
  refine AW.callS2v (C_filli Γ M 74 182 rfl (by decide) 268435456) dX3_find_6 mc_X3_29 (fun _ => rfl) ⟨Nat.le_of_ble_eq_true rfl, Nat.le_of_ble_eq_true rfl⟩ (Nat.le_of_ble_eq_true rfl) (fun z6 M6 h6 => ?_)
  refine AW.aload_n dX3_find_9 0 rfl rfl ?_
  refine AW.getR dX3_find_10 fl_X3_11 (show sh 71 = (0, 3, [some 72, some 73, some 74, some 75, none]) from rfl) rfl ?_
  refine AW.iconst dX3_find_13 ?_
  refine AW.iconst dX3_find_14 ?_
  refine AW.iastN 0 dX3_find_15 (show sh 72 = (1, 182, []) from rfl) rfl (by decide) (by decide) ?_
  refine AW.aload_n dX3_find_16 0 rfl rfl ?_
  refine AW.getR dX3_find_17 fl_X3_15 (show sh 71 = (0, 3, [some 72, some 73, some 74, some 75, none]) from rfl) rfl ?_
  refine AW.iconst dX3_find_20 ?_
  refine AW.iconst dX3_find_21 ?_
  refine AW.iastN 0 dX3_find_22 (show sh 73 = (1, 182, []) from rfl) rfl (by decide) (by decide) ?_
  refine AW.aload_n dX3_find_23 0 rfl rfl ?_
  refine AW.getR dX3_find_24 fl_X3_18 (show sh 71 = (0, 3, [some 72, some 73, some 74, some 75, none]) from rfl) rfl ?_
  refine AW.iconst dX3_find_27 ?_
  refine AW.iconst dX3_find_28 ?_
  refine AW.iastN 0 dX3_find_29 (show sh 74 = (1, 182, []) from rfl) rfl (by decide) (by decide) ?_
  obtain ⟨N, hN⟩ : ∃ z : Mm, z = up2 (up2 (up2 M6 72 0 0) 73 0 0) 74 0 0 := ⟨_, rfl⟩
  rw [← hN]
  have n74 : ∀ c : Nat, c < 182 → N 74 c = if c = 0 then 0 else 268435456 := fun c hc => by
    rw [hN]
    by_cases q : c = 0
    · rw [if_pos q, q, up2_s]
    · rw [if_neg q, up2_i q, up2_c (by decide), up2_c (by decide), h6, upM_s]; simp only [flFi]; rw [if_pos hc]
  have n72 : N 72 0 = 0 := by rw [hN, up2_c (by decide), up2_c (by decide), up2_s]
  have n73 : N 73 0 = 0 := by rw [hN, up2_c (by decide), up2_s]
  have nE : ∀ a : Nat, a ≠ 72 → a ≠ 73 → a ≠ 74 → N a = M a := fun a q1 q2 q3 => by rw [hN, up2_c q3, up2_c q2, up2_c q1, h6, upM_n q3]
  refine AW.iconst dX3_find_30 ?_
  refine AW.top (fun x31 ex31 => ?_)
  refine AW.istore_n [(2, vi x31), (0, rf Γ 71), (1, rf Γ 1)] dX3_find_31 rfl (by decide) rfl ?_
  refine AW.sub [0, 1, 2] rfl ?_
  refine bfind_loop1 Γ M r ho hr _ (fun x N2 z1 z2 => ?_) 14 0 x31 N (by omega) (by have := ho.1; omega) ?_ (fun a ha => nE a (by omega) (by omega) (by omega)) (by omega)
  rotate_left
  · intro n κ s hn hκ hs
    rw [n74 _ (by omega)]
    by_cases q : 14 * n + 2 * κ + s = 0
    · rw [if_pos q]
      have q1 : n = 0 := by omega
      have q2 : κ = 0 := by omega
      have q3 : s = 0 := by omega
      subst q1; subst q2; subst q3
      refine ⟨fun g E S hp => (PBc ho hp).1, Or.inr ⟨0, 0, 0, Or.inl ⟨rfl, rfl, rfl, rfl, rfl, rfl⟩, rfl, n72, n73⟩⟩
    · rw [if_neg q]
      refine ⟨fun g E S hp => ?_, Or.inl rfl⟩
      rcases hp with ⟨p1, p2, p3, p4, _⟩ | ⟨p, g', s', e, c, E', S', p1, _⟩ <;> omega
  refine AW.aload_n dX3_find_58 1 rfl rfl ?_
  refine AW.ldc (z := 268435456) dX3_find_59 kc_X3_28 (by decide +kernel) ?_
  refine AW.putI dX3_find_61 fp_X3_24 (show sh 71 = (0, 3, [some 72, some 73, some 74, some 75, none]) from rfl) rfl ?_
  refine AW.iconst dX3_find_64 ?_
  refine AW.top (fun x65 ex65 => ?_)
  refine AW.istore_n [(2, vi x65), (0, rf Γ 71), (1, rf Γ 1)] dX3_find_65 rfl (by decide) rfl ?_
  refine AW.sub [0, 1, 2] rfl ?_
  have hr2 : stRel (up2 N2 71 4 268435456) 1 r := hr.frame (by rw [up2_c (by decide)]; exact z2 _ (by decide)) (by rw [up2_c (by decide)]; exact z2 _ (by decide)) (by rw [up2_c (by decide)]; exact z2 _ (by decide)) (by rw [up2_c (by decide)]; exact z2 _ (by decide))
  have hI2 : cInv r (r 0).toNat 0 (up2 N2 71 4 268435456) := z1.frame (by rw [up2_c (by decide)]) (by rw [up2_c (by decide)]) (by rw [up2_c (by decide)])
  refine AW.mono (fun z M' hz => ?_) (bfind_loop2 Γ _ r ho hr2 hI2 16 0 x65 _ (by omega) (by omega) (by rw [up2_s]; exact ⟨Int.le_refl _, fun c ⟨e, q, _⟩ => by omega, Or.inl rfl⟩) (by rw [up2_s]; omega) (fun _ _ => rfl) (by omega))
  exact ⟨bs_mn ho hI2 hz.1, fun a ha => by rw [hz.2 a (by omega), up2_c (by omega), z2 a ha]⟩

set_option maxRecDepth 20000 in
theorem C_beffort (Γ : GC) (M : Mm) (E S : Int) (hE : M 71 4 = 32 * E + S) (hb : (0 ≤ E ∧ E ≤ 768) ∧ (0 ≤ S ∧ S ≤ 24)) : Ct Γ uX3_effort [rf Γ 71] M (Pu E M) := by
  refine Ct.of (by decide) (Nat.le_of_ble_eq_true rfl) ?_
  show AW Γ uX3_effort 0 [(0, rf Γ 71)] [] M _
  refine AW.aload_n dX3_effort_0 0 rfl rfl ?_
  refine AW.getI dX3_effort_1 fl_X3_24 (show sh 71 = (0, 3, [some 72, some 73, some 74, some 75, none]) from rfl) rfl ?_
  refine AW.bipush (z := (32)) dX3_effort_4 (by decide) ?_
  refine AW.idiv dX3_effort_6 (by omega) (by omega) ?_
  exact AW.iret rfl dX3_effort_7 ⟨by rw [hE]; omega, rfl⟩

set_option maxRecDepth 20000 in
theorem C_bsigns (Γ : GC) (M : Mm) (E S : Int) (hE : M 71 4 = 32 * E + S) (hb : (0 ≤ E ∧ E ≤ 768) ∧ (0 ≤ S ∧ S ≤ 24)) : Ct Γ uX3_signs [rf Γ 71] M (Pu S M) := by
  refine Ct.of (by decide) (Nat.le_of_ble_eq_true rfl) ?_
  show AW Γ uX3_signs 0 [(0, rf Γ 71)] [] M _
  refine AW.aload_n dX3_signs_0 0 rfl rfl ?_
  refine AW.getI dX3_signs_1 fl_X3_24 (show sh 71 = (0, 3, [some 72, some 73, some 74, some 75, none]) from rfl) rfl ?_
  refine AW.bipush (z := (32)) dX3_signs_4 (by decide) ?_
  refine AW.irem dX3_signs_6 (by omega) (by omega) ?_
  exact AW.iret rfl dX3_signs_7 ⟨by rw [hE]; omega, rfl⟩

set_option maxRecDepth 20000 in
theorem C_brief (Γ : GC) (M : Mm) (r : Nat → Int) (ho : OkR r) (hr : stRel M 1 r) (c : Int) (hc : R32 c) : Ct Γ uX8_brief [rf Γ 0, vi c] M (fun z M' => briefS 32 r c z ∧ (∀ a : Nat, (a < 71 ∨ 75 < a) → M' a = M a)) := by
  refine Ct.of (by decide) (Nat.le_of_ble_eq_true rfl) ?_
  show AW Γ uX8_brief 0 [(0, rf Γ 0), (1, vi c)] [] M _
  refine AW.iload_n dX8_brief_0 1 rfl rfl ?_
  refine AW.if_lt 9 dX8_brief_1 (by decide) (by omega) (fun c1 => ?_) (fun c1 => ?_)
  · refine AW.iconst dX8_brief_9 ?_
    exact AW.iret rfl dX8_brief_10 ⟨by unfold briefS; rw [if_neg (by omega)], fun _ _ => rfl⟩
  · refine AW.iload_n dX8_brief_4 1 rfl rfl ?_
    refine AW.iconst dX8_brief_5 ?_
    refine AW.icmp_le 11 dX8_brief_6 (by decide) (by omega) (by omega) (fun c6 => ?_) (fun c6 => ?_)
    · refine AW.aload_n dX8_brief_11 0 rfl rfl ?_
      refine AW.getR dX8_brief_12 fl_X8_46 (show sh 0 = (0, 8, [some 1, some 5, some 31, some 35, none, some 61, some 65, some 71, some 76, some 79, some 83, some 85]) from rfl) rfl ?_
      refine AW.aload_n dX8_brief_15 0 rfl rfl ?_
      refine AW.getR dX8_brief_16 fl_X8_10 (show sh 0 = (0, 8, [some 1, some 5, some 31, some 35, none, some 61, some 65, some 71, some 76, some 79, some 83, some 85]) from rfl) rfl ?_
      refine AW.callV1v (C_bfind Γ M r ho hr) dX8_brief_19 mc_X8_186 (show sh 71 = (0, 3, [some 72, some 73, some 74, some 75, none]) from rfl) (fun _ => rfl) ⟨Nat.le_of_ble_eq_true rfl, Nat.le_of_ble_eq_true rfl⟩ (Nat.le_of_ble_eq_true rfl) (fun z19 M19 h19 => ?_)
      obtain ⟨⟨E, S, mn, e19⟩, f19⟩ := h19
      have hb : (0 ≤ E ∧ E ≤ 768) ∧ (0 ≤ S ∧ S ≤ 24) := by
        obtain ⟨⟨g, s, q⟩, _⟩ := mn
        have := Pth_b ho q; have := ho.1; omega
      refine AW.iload_n dX8_brief_22 1 rfl rfl ?_
      refine AW.if_ne 36 dX8_brief_23 (by decide) (by omega) (fun c23 => ?_) (fun c23 => ?_)
      · refine AW.aload_n dX8_brief_36 0 rfl rfl ?_
        refine AW.getR dX8_brief_37 fl_X8_46 (show sh 0 = (0, 8, [some 1, some 5, some 31, some 35, none, some 61, some 65, some 71, some 76, some 79, some 83, some 85]) from rfl) rfl ?_
        refine AW.callV0ip (C_bsigns Γ _ E S e19 hb) dX8_brief_40 mc_X8_190 (show sh 71 = (0, 3, [some 72, some 73, some 74, some 75, none]) from rfl) (fun _ => rfl) ⟨Nat.le_of_ble_eq_true rfl, Nat.le_of_ble_eq_true rfl⟩ (Nat.le_of_ble_eq_true rfl) ?_
        exact AW.iret rfl dX8_brief_43 ⟨by unfold briefS; rw [if_pos (by omega)]; exact ⟨E, S, mn, by first | (rw [if_pos (by omega)]; done) | (rw [if_neg (by omega)]; done)⟩, f19⟩
      · refine AW.aload_n dX8_brief_26 0 rfl rfl ?_
        refine AW.getR dX8_brief_27 fl_X8_46 (show sh 0 = (0, 8, [some 1, some 5, some 31, some 35, none, some 61, some 65, some 71, some 76, some 79, some 83, some 85]) from rfl) rfl ?_
        refine AW.callV0ip (C_beffort Γ _ E S e19 hb) dX8_brief_30 mc_X8_187 (show sh 71 = (0, 3, [some 72, some 73, some 74, some 75, none]) from rfl) (fun _ => rfl) ⟨Nat.le_of_ble_eq_true rfl, Nat.le_of_ble_eq_true rfl⟩ (Nat.le_of_ble_eq_true rfl) ?_
        refine AW.goto 43 dX8_brief_33 (by decide) ?_
        exact AW.iret rfl dX8_brief_43 ⟨by unfold briefS; rw [if_pos (by omega)]; exact ⟨E, S, mn, by first | (rw [if_pos (by omega)]; done) | (rw [if_neg (by omega)]; done)⟩, f19⟩
    · refine AW.iconst dX8_brief_9 ?_
      exact AW.iret rfl dX8_brief_10 ⟨by unfold briefS; rw [if_neg (by omega)], fun _ _ => rfl⟩
