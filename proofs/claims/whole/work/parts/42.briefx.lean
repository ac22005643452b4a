/-! SHORT, as the one side finds it -/
set_option maxRecDepth 20000 in
theorem C_sdir (Γ : GC) (M : Mm) (x y : Int) (g s : Nat) (hx : x = g) (hy : y = s) (hg : g < 27) (hs : s < 2) : Ct Γ uX3_dirOf [vi x, vi y] M (Pu (sgD g s) M) := by
  refine Ct.of (by decide) (Nat.le_of_ble_eq_true rfl) ?_
  show AW Γ uX3_dirOf 0 [(0, vi x), (1, vi y)] [] M _
  refine AW.iload_n dX3_dirOf_0 1 rfl rfl ?_
  refine AW.if_ne 12 dX3_dirOf_1 (by decide) (by omega) (fun c1 => ?_) (fun c1 => ?_)
  · refine AW.getsGN dX3_dirOf_12 gs_X3_84 ?_
    refine AW.iload_n dX3_dirOf_15 0 rfl rfl ?_
    refine AW.taldGN g dX3_dirOf_16 (by omega) (by omega) ?_
    exact AW.iret rfl dX3_dirOf_17 ⟨by unfold sgD; first | (rw [if_pos (by omega)]; done) | (rw [if_neg (by omega)]; done), rfl⟩
  · refine AW.getsLN dX3_dirOf_4 gs_X3_81 ?_
    refine AW.iload_n dX3_dirOf_7 0 rfl rfl ?_
    refine AW.taldLN g dX3_dirOf_8 (by omega) (by omega) ?_
    refine AW.goto 17 dX3_dirOf_9 (by decide) ?_
    exact AW.iret rfl dX3_dirOf_17 ⟨by unfold sgD; first | (rw [if_pos (by omega)]; done) | (rw [if_neg (by omega)]; done), rfl⟩

set_option maxRecDepth 20000 in
theorem C_priceOf (Γ : GC) (M : Mm) (r : Nat → Int) (hr : stRel M 1 r) (a b x y : Int) (g s : Nat) (ha : D8 a) (hb : D8 b) (hx : x = g) (hy : y = s) (hg : g < 27) (hs : s < 2) : Ct Γ uX3_priceOf [rf Γ 1, vi a, vi b, vi x, vi y] M (Pu (32 * efT r a b g s + 1) M) := by
  refine Ct.of (by decide) (Nat.le_of_ble_eq_true rfl) ?_
  show AW Γ uX3_priceOf 0 [(0, rf Γ 1), (1, vi a), (2, vi b), (3, vi x), (4, vi y)] [] M _
  obtain ⟨h1, h2, h3, h4, h5, h6, h7⟩ := st1u hr
  refine AW.bipush (z := (32)) dX3_priceOf_0 (by decide) ?_
  refine AW.aload_n dX3_priceOf_2 0 rfl rfl ?_
  refine AW.iload_n dX3_priceOf_3 1 rfl rfl ?_
  refine AW.iload_n dX3_priceOf_4 2 rfl rfl ?_
  refine AW.iload_n dX3_priceOf_5 3 rfl rfl ?_
  refine AW.iload dX3_priceOf_6 4 rfl ?_
  refine AW.callS2ip (C_sdir Γ M _ _ g s (by omega) (by omega) hg hs) dX3_priceOf_8 mc_X3_74 (fun _ => rfl) ⟨Nat.le_of_ble_eq_true rfl, Nat.le_of_ble_eq_true rfl⟩ (Nat.le_of_ble_eq_true rfl) ?_
  refine AW.iload_n dX3_priceOf_11 3 rfl rfl ?_
  refine AW.iconst dX3_priceOf_12 ?_
  refine AW.iload dX3_priceOf_13 4 rfl ?_
  refine AW.isub dX3_priceOf_15 ?_
  refine AW.callS2ip (C_sdir Γ M _ _ g (1 - s) (by omega) (by omega) hg (by omega)) dX3_priceOf_16 mc_X3_74 (fun _ => rfl) ⟨Nat.le_of_ble_eq_true rfl, Nat.le_of_ble_eq_true rfl⟩ (Nat.le_of_ble_eq_true rfl) ?_
  refine AW.callV4ip (C_effortOf Γ M 1 st1 _ _ _ _ ha hb (sgD_d _ _) (sgD_d _ _)) dX3_priceOf_19 mc_X3_77 (show sh 1 = (0, 5, [some 2, none, some 3, some 4, none, none, none, none]) from rfl) (fun _ => rfl) ⟨Nat.le_of_ble_eq_true rfl, Nat.le_of_ble_eq_true rfl⟩ (Nat.le_of_ble_eq_true rfl) ?_
  refine AW.imul dX3_priceOf_22 ?_
  refine AW.iconst dX3_priceOf_23 ?_
  refine AW.iadd dX3_priceOf_24 ?_
  exact AW.iret rfl dX3_priceOf_25 ⟨by rw [h3, h4]; rfl, rfl⟩

set_option maxRecDepth 20000 in
theorem hasWordAt_loop (Γ : GC) (M : Mm) (r : Nat → Int) (ho : OkR r) (hr : stRel M 1 r) (kx px : Int) (k p : Nat) (hkx : kx = k) (hpx : px = p) (hk : (k : Int) < r 1) (g3 : (p : Int) + r (17 + 7 * k) ≤ r 0) : ∀ (n i : Nat) (x : Int), x = i → (i : Int) ≤ r (17 + 7 * k) → (∀ j : Nat, j < i → r (5 + (p + j)) = r (18 + 7 * k + j)) → 6 - i < n → AW Γ uX5_hasWordAt 19 [(3, vi x), (0, rf Γ 1), (1, vi kx), (2, vi px)] [] M (fun z M' => M' = M ∧ ((z = 1 ∧ stdP r k p) ∨ (z = 0 ∧ ¬ stdP r k p))) := by
  obtain ⟨h1, h2, h3, h4, h5, h6, h7⟩ := st1u hr
  obtain ⟨o0, o1, o2, o3, o4, o5, o6⟩ := id ho
  obtain ⟨k1, k2⟩ := o6 k hk
  intro n
  induction n with
  | zero => intro i x g0 g1 g2 gm; omega
  | succ n ih =>
    intro i x g0 g1 g2 gm
    refine AW.iload_n dX5_hasWordAt_19 0 rfl rfl ?_
    refine AW.aload_n dX5_hasWordAt_20 1 rfl rfl ?_
    refine AW.getR dX5_hasWordAt_21 fl_X5_22 (show sh 1 = (0, 5, [some 2, none, some 3, some 4, none, none, none, none]) from rfl) rfl ?_
    refine AW.iload_n dX5_hasWordAt_24 2 rfl rfl ?_
    refine AW.ialdN k dX5_hasWordAt_25 (show sh 4 = (1, 6, []) from rfl) (by omega) (by omega) (by decide) ?_
    rw [(h7 k hk).1]
    refine AW.icmp_ge 54 dX5_hasWordAt_26 (by decide) (by omega) (by omega) (fun c26 => ?_) (fun c26 => ?_)
    · refine AW.iconst dX5_hasWordAt_54 ?_
      exact AW.zret rfl dX5_hasWordAt_55 (by decide) ⟨rfl, Or.inl ⟨rfl, g3, fun j hj => g2 j (by omega)⟩⟩
    · refine AW.aload_n dX5_hasWordAt_29 1 rfl rfl ?_
      refine AW.getR dX5_hasWordAt_30 fl_X5_9 (show sh 1 = (0, 5, [some 2, none, some 3, some 4, none, none, none, none]) from rfl) rfl ?_
      refine AW.iload_n dX5_hasWordAt_33 3 rfl rfl ?_
      refine AW.iload_n dX5_hasWordAt_34 0 rfl rfl ?_
      refine AW.iadd dX5_hasWordAt_35 ?_
      refine AW.ialdN (p + i) dX5_hasWordAt_36 (show sh 2 = (1, 12, []) from rfl) (by omega) (by omega) (by decide) ?_
      rw [h6 (p + i) (by omega)]
      have hb1 := o5 (p + i) (by omega)
      refine AW.aload_n dX5_hasWordAt_37 1 rfl rfl ?_
      refine AW.iload_n dX5_hasWordAt_38 2 rfl rfl ?_
      refine AW.iload_n dX5_hasWordAt_39 0 rfl rfl ?_
      refine AW.callV2ip (C_letterOf Γ M 1 st1 kx x (by omega) (by omega)) dX5_hasWordAt_40 mc_X5_74 (show sh 1 = (0, 5, [some 2, none, some 3, some 4, none, none, none, none]) from rfl) (fun _ => rfl) ⟨Nat.le_of_ble_eq_true rfl, Nat.le_of_ble_eq_true rfl⟩ (Nat.le_of_ble_eq_true rfl) ?_
      rw [show (kx * 6 + x).toNat = 6 * k + i by omega, (h7 k hk).2 i (by omega)]
      have hb2 := k2 i (by omega)
      refine AW.icmp_eq 48 dX5_hasWordAt_43 (by decide) (by omega) (by omega) (fun c43 => ?_) (fun c43 => ?_)
      · obtain ⟨x48, ex48⟩ : ∃ z : Int, x + 1 = z := ⟨_, rfl⟩
        refine AW.iinc [(3, vi x48), (0, rf Γ 1), (1, vi kx), (2, vi px)] dX5_hasWordAt_48 0 rfl (by decide) x48 ex48 rfl ?_
        refine AW.goto 19 dX5_hasWordAt_51 (by decide) ?_
        refine AW.sub [0, 1, 2, 3] rfl ?_
        exact ih (i + 1) x48 (by omega) (by omega) (fun j hj => by
          by_cases e : j = i
          · rw [e]; exact c43
          · exact g2 j (by omega)) (by omega)
      · refine AW.iconst dX5_hasWordAt_46 ?_
        exact AW.zret rfl dX5_hasWordAt_47 (by decide) ⟨rfl, Or.inr ⟨rfl, fun q => c43 (q.2 i (by omega))⟩⟩

set_option maxRecDepth 20000 in
theorem C_hasWordAt (Γ : GC) (M : Mm) (r : Nat → Int) (ho : OkR r) (hr : stRel M 1 r) (kx px : Int) (k p : Nat) (hkx : kx = k) (hpx : px = p) (hk : (k : Int) < r 1) (hp : p ≤ 12) : Ct Γ uX5_hasWordAt [rf Γ 1, vi kx, vi px] M (fun z M' => M' = M ∧ ((z = 1 ∧ stdP r k p) ∨ (z = 0 ∧ ¬ stdP r k p))) := by
  refine Ct.of (by decide) (Nat.le_of_ble_eq_true rfl) ?_
  show AW Γ uX5_hasWordAt 0 [(0, rf Γ 1), (1, vi kx), (2, vi px)] [] M _
  obtain ⟨h1, h2, h3, h4, h5, h6, h7⟩ := st1u hr
  obtain ⟨o0, o1, o2, o3, o4, o5, o6⟩ := id ho
  obtain ⟨k1, k2⟩ := o6 k hk
  refine AW.iload_n dX5_hasWordAt_0 2 rfl rfl ?_
  refine AW.aload_n dX5_hasWordAt_1 0 rfl rfl ?_
  refine AW.getR dX5_hasWordAt_2 fl_X5_22 (show sh 1 = (0, 5, [some 2, none, some 3, some 4, none, none, none, none]) from rfl) rfl ?_
  refine AW.iload_n dX5_hasWordAt_5 1 rfl rfl ?_
  refine AW.ialdN k dX5_hasWordAt_6 (show sh 4 = (1, 6, []) from rfl) (by omega) (by omega) (by decide) ?_
  rw [(h7 k hk).1]
  refine AW.iadd dX5_hasWordAt_7 ?_
  refine AW.aload_n dX5_hasWordAt_8 0 rfl rfl ?_
  refine AW.getI dX5_hasWordAt_9 fl_X5_15 (show sh 1 = (0, 5, [some 2, none, some 3, some 4, none, none, none, none]) from rfl) rfl ?_
  rw [h1]
  refine AW.icmp_le 17 dX5_hasWordAt_12 (by decide) (by omega) (by omega) (fun c12 => ?_) (fun c12 => ?_)
  · refine AW.iconst dX5_hasWordAt_17 ?_
    refine AW.top (fun x18 ex18 => ?_)
    refine AW.istore_n [(3, vi x18), (0, rf Γ 1), (1, vi kx), (2, vi px)] dX5_hasWordAt_18 rfl (by decide) rfl ?_
    refine AW.sub [0, 1, 2, 3] rfl ?_
    exact hasWordAt_loop Γ M r ho hr kx px k p hkx hpx hk (by omega) 8 0 x18 (by omega) (by omega) (fun j hj => by omega) (by omega)
  · refine AW.iconst dX5_hasWordAt_15 ?_
    exact AW.zret rfl dX5_hasWordAt_16 (by decide) ⟨rfl, Or.inr ⟨rfl, fun q => by have := q.1; omega⟩⟩

def rch (M : Mm) (t : Nat) (v : Int) (g s : Nat) : Mm := if v < M 74 t then up2 (up2 (up2 M 74 t v) 72 t (sgD g s)) 73 t (sgD g (1 - s)) else M
theorem rch_o (M : Mm) (t : Nat) (v : Int) (g s : Nat) : (∀ a : Nat, a ≠ 72 → a ≠ 73 → a ≠ 74 → rch M t v g s a = M a) ∧ ∀ c : Nat, c ≠ t → rch M t v g s 74 c = M 74 c ∧ rch M t v g s 72 c = M 72 c ∧ rch M t v g s 73 c = M 73 c := by
  unfold rch
  by_cases q : v < M 74 t
  · rw [if_pos q]
    refine ⟨fun a q1 q2 q3 => by rw [up2_c q2, up2_c q1, up2_c q3], fun c hc => ⟨?_, ?_, ?_⟩⟩
    · rw [up2_c (by decide), up2_c (by decide), up2_i hc]
    · rw [up2_c (by decide), up2_i hc, up2_c (by decide)]
    · rw [up2_i hc, up2_c (by decide), up2_c (by decide)]
  · rw [if_neg q]; exact ⟨fun _ _ _ _ => rfl, fun _ _ => ⟨rfl, rfl, rfl⟩⟩
/-- a cell that was lowered to the least of what was tried, or left -/
def cellP (M N : Mm) (t : Nat) (C : Int → Prop) (a b : Int) : Prop := N 74 t ≤ M 74 t ∧ (∀ c : Int, C c → N 74 t ≤ c) ∧ ((N 74 t = M 74 t ∧ N 72 t = M 72 t ∧ N 73 t = M 73 t) ∨ (C (N 74 t) ∧ N 72 t = a ∧ N 73 t = b))
theorem cellP_s {M N : Mm} {t : Nat} {C C' : Int → Prop} {v : Int} {g s : Nat} (h : cellP M N t C (sgD g s) (sgD g (1 - s))) (h1 : ∀ c, C' c → C c ∨ c = v) (h2 : ∀ c, C c → C' c) (h3 : C' v) : cellP M (rch N t v g s) t C' (sgD g s) (sgD g (1 - s)) := by
  obtain ⟨a1, a2, a3⟩ := h
  unfold rch
  by_cases q : v < N 74 t
  · rw [if_pos q]
    have e1 : up2 (up2 (up2 N 74 t v) 72 t (sgD g s)) 73 t (sgD g (1 - s)) 74 t = v := by rw [up2_c (by decide), up2_c (by decide), up2_s]
    have e2 : up2 (up2 (up2 N 74 t v) 72 t (sgD g s)) 73 t (sgD g (1 - s)) 72 t = sgD g s := by rw [up2_c (by decide), up2_s]
    have e3 : up2 (up2 (up2 N 74 t v) 72 t (sgD g s)) 73 t (sgD g (1 - s)) 73 t = sgD g (1 - s) := up2_s
    refine ⟨by rw [e1]; omega, fun c hc => ?_, Or.inr ⟨by rw [e1]; exact h3, e2, e3⟩⟩
    rw [e1]
    rcases h1 c hc with x | x
    · have := a2 c x; omega
    · omega
  · rw [if_neg q]
    refine ⟨a1, fun c hc => ?_, ?_⟩
    · rcases h1 c hc with x | x
      · exact a2 c x
      · omega
    · rcases a3 with x | ⟨x1, x2⟩
      · exact Or.inl x
      · exact Or.inr ⟨h2 _ x1, x2⟩
theorem cellP_o {M N N' : Mm} {t : Nat} {C C' : Int → Prop} {a b : Int} (h : cellP M N t C a b) (e1 : N' 74 t = N 74 t) (e2 : N' 72 t = N 72 t) (e3 : N' 73 t = N 73 t) (h1 : ∀ c, C' c → C c) (h2 : ∀ c, C c → C' c) : cellP M N' t C' a b := by
  obtain ⟨a1, a2, a3⟩ := h
  unfold cellP
  rw [e1, e2, e3]
  refine ⟨a1, fun c hc => a2 c (h1 c hc), ?_⟩
  rcases a3 with x | ⟨x1, x2⟩
  · exact Or.inl x
  · exact Or.inr ⟨h2 _ x1, x2⟩
/-- the least of what was tried, or the one that it was -/
def minP (v v0 : Int) (C : Int → Prop) : Prop := v ≤ v0 ∧ (∀ c : Int, C c → v ≤ c) ∧ (v = v0 ∨ C v)
theorem minP_s {v v0 x : Int} {C C' : Int → Prop} (h : minP v v0 C) (h1 : ∀ c, C' c → C c ∨ c = x) (h2 : ∀ c, C c → C' c) (h3 : C' x) : minP (min v x) v0 C' := by
  obtain ⟨a1, a2, a3⟩ := h
  refine ⟨by omega, fun c hc => ?_, ?_⟩
  · rcases h1 c hc with q | q
    · have := a2 c q; omega
    · omega
  · by_cases q : v ≤ x
    · rw [Int.min_eq_left q]
      rcases a3 with y | y
      · exact Or.inl y
      · exact Or.inr (h2 _ y)
    · rw [Int.min_eq_right (by omega)]; exact Or.inr h3
theorem minP_o {v v0 : Int} {C C' : Int → Prop} (h : minP v v0 C) (h1 : ∀ c, C' c → C c) (h2 : ∀ c, C c → C' c) : minP v v0 C' := by
  obtain ⟨a1, a2, a3⟩ := h
  refine ⟨a1, fun c hc => a2 c (h1 c hc), ?_⟩
  rcases a3 with x | x
  · exact Or.inl x
  · exact Or.inr (h2 _ x)
/-- what is tried from the ends e of place m for sign g at side s, up to end e0, side s0 -/
def CL (r : Nat → Int) (M : Mm) (m g e0 s0 s : Nat) (c : Int) : Prop := ∃ e : Nat, e < 14 ∧ (e < e0 ∨ (e = e0 ∧ s < s0)) ∧ M 74 (14 * m + e) ≠ 268435456 ∧ c = M 74 (14 * m + e) + (32 * efT r (M 72 (14 * m + e)) (M 73 (14 * m + e)) g s + 1)
theorem CL_o {r : Nat → Int} {M : Mm} {m g e0 s0 s : Nat} (h : s ≠ s0) (c : Int) : CL r M m g e0 (s0 + 1) s c ↔ CL r M m g e0 s0 s c := by
  unfold CL
  constructor
  · rintro ⟨e, a1, a2, a3, a4⟩; exact ⟨e, a1, by omega, a3, a4⟩
  · rintro ⟨e, a1, a2, a3, a4⟩; exact ⟨e, a1, by omega, a3, a4⟩
theorem CL_s {r : Nat → Int} {M : Mm} {m g e0 s : Nat} {c : Int} (h : CL r M m g e0 (s + 1) s c) : CL r M m g e0 s s c ∨ c = M 74 (14 * m + e0) + (32 * efT r (M 72 (14 * m + e0)) (M 73 (14 * m + e0)) g s + 1) := by
  obtain ⟨e, a1, a2, a3, a4⟩ := h
  by_cases q : e = e0
  · subst q; exact Or.inr a4
  · exact Or.inl ⟨e, a1, by omega, a3, a4⟩
theorem CL_m {r : Nat → Int} {M : Mm} {m g e0 s0 e1 s1 s : Nat} {c : Int} (h : CL r M m g e0 s0 s c) (hh : e0 < e1 ∨ (e0 = e1 ∧ s0 ≤ s1)) : CL r M m g e1 s1 s c := by
  obtain ⟨e, a1, a2, a3, a4⟩ := h; exact ⟨e, a1, by omega, a3, a4⟩
theorem CL_2 {r : Nat → Int} {M : Mm} {m g e0 s : Nat} (hs : s < 2) (c : Int) : CL r M m g (e0 + 1) 0 s c ↔ CL r M m g e0 2 s c := by
  unfold CL
  constructor
  · rintro ⟨e, a1, a2, a3, a4⟩; exact ⟨e, a1, by omega, a3, a4⟩
  · rintro ⟨e, a1, a2, a3, a4⟩; exact ⟨e, a1, by omega, a3, a4⟩
theorem CL_n {r : Nat → Int} {M : Mm} {m g e0 s : Nat} (hn : M 74 (14 * m + e0) = 268435456) (c : Int) : CL r M m g (e0 + 1) 0 s c ↔ CL r M m g e0 0 s c := by
  unfold CL
  constructor
  · rintro ⟨e, a1, a2, a3, a4⟩
    by_cases q : e = e0
    · subst q; exact absurd hn a3
    · exact ⟨e, a1, by omega, a3, a4⟩
  · rintro ⟨e, a1, a2, a3, a4⟩; exact ⟨e, a1, by omega, a3, a4⟩
def lP (r : Nat → Int) (M N : Mm) (m g e0 s0 : Nat) : Prop := (∀ a : Nat, a ≠ 72 → a ≠ 73 → a ≠ 74 → a ≠ 75 → N a = M a) ∧ (∀ c : Nat, c ≠ 14 * (m + 1) + 0 → c ≠ 14 * (m + 1) + 1 → N 74 c = M 74 c ∧ N 72 c = M 72 c ∧ N 73 c = M 73 c) ∧ ∀ s : Nat, s < 2 → cellP M N (14 * (m + 1) + s) (CL r M m g e0 s0 s) (sgD g s) (sgD g (1 - s)) ∧ minP (N 75 s) 268435456 (CL r M m 26 e0 s0 s)
theorem lP_n {r : Nat → Int} {M N : Mm} {m g e0 : Nat} (h : lP r M N m g e0 0) (hn : M 74 (14 * m + e0) = 268435456) : lP r M N m g (e0 + 1) 0 :=
  ⟨h.1, h.2.1, fun s hs => ⟨cellP_o (h.2.2 s hs).1 rfl rfl rfl (fun c => (CL_n hn c).mp) (fun c => (CL_n hn c).mpr), minP_o (h.2.2 s hs).2 (fun c => (CL_n hn c).mp) (fun c => (CL_n hn c).mpr)⟩⟩
theorem lP_2 {r : Nat → Int} {M N : Mm} {m g e0 : Nat} (h : lP r M N m g e0 2) : lP r M N m g (e0 + 1) 0 :=
  ⟨h.1, h.2.1, fun s hs => ⟨cellP_o (h.2.2 s hs).1 rfl rfl rfl (fun c => (CL_2 hs c).mp) (fun c => (CL_2 hs c).mpr), minP_o (h.2.2 s hs).2 (fun c => (CL_2 hs c).mp) (fun c => (CL_2 hs c).mpr)⟩⟩
theorem lP_s {r : Nat → Int} {M N : Mm} {m g e0 s0 : Nat} (h : lP r M N m g e0 s0) (he : e0 < 14) (hs0 : s0 < 2) (hn : M 74 (14 * m + e0) ≠ 268435456) : lP r M (up2 (rch N (14 * (m + 1) + s0) (M 74 (14 * m + e0) + (32 * efT r (M 72 (14 * m + e0)) (M 73 (14 * m + e0)) g s0 + 1)) g s0) 75 s0 (min (N 75 s0) (M 74 (14 * m + e0) + (32 * efT r (M 72 (14 * m + e0)) (M 73 (14 * m + e0)) 26 s0 + 1)))) m g e0 (s0 + 1) := by
  have ro := rch_o N (14 * (m + 1) + s0) (M 74 (14 * m + e0) + (32 * efT r (M 72 (14 * m + e0)) (M 73 (14 * m + e0)) g s0 + 1)) g s0
  obtain ⟨a1, a2, a3⟩ := h
  refine ⟨fun a q1 q2 q3 q4 => by rw [up2_c q4, ro.1 a q1 q2 q3]; exact a1 a q1 q2 q3 q4, fun c q1 q2 => ?_, fun s hs => ⟨?_, ?_⟩⟩
  · have hc : c ≠ 14 * (m + 1) + s0 := by omega
    rw [up2_c (by decide), up2_c (by decide), up2_c (by decide), (ro.2 c hc).1, (ro.2 c hc).2.1, (ro.2 c hc).2.2]
    exact a2 c q1 q2
  · by_cases q : s = s0
    · subst q
      have hc := cellP_s (v := M 74 (14 * m + e0) + (32 * efT r (M 72 (14 * m + e0)) (M 73 (14 * m + e0)) g s + 1)) (C' := CL r M m g e0 (s + 1) s) (a3 s hs).1 (fun c hc => CL_s hc) (fun c hc => CL_m hc (by omega)) ⟨e0, he, by omega, hn, rfl⟩
      exact cellP_o hc (by rw [up2_c (by decide)]) (by rw [up2_c (by decide)]) (by rw [up2_c (by decide)]) (fun _ x => x) (fun _ x => x)
    · have hc : 14 * (m + 1) + s ≠ 14 * (m + 1) + s0 := by omega
      exact cellP_o (a3 s hs).1 (by rw [up2_c (by decide)]; exact (ro.2 _ hc).1) (by rw [up2_c (by decide)]; exact (ro.2 _ hc).2.1) (by rw [up2_c (by decide)]; exact (ro.2 _ hc).2.2) (fun c => (CL_o q c).mp) (fun c => (CL_o q c).mpr)
  · by_cases q : s = s0
    · subst q
      rw [up2_s]
      exact minP_s (a3 s hs).2 (fun c hc => CL_s hc) (fun c hc => CL_m hc (by omega)) ⟨e0, he, by omega, hn, rfl⟩
    · rw [up2_i q, ro.1 75 (by decide) (by decide) (by decide)]
      exact minP_o (a3 s hs).2 (fun c => (CL_o q c).mp) (fun c => (CL_o q c).mpr)
/-- the table when all legs ahead of m are in, and those of kinds below q from m -/
def cInv (r : Nat → Int) (m q : Nat) (N : Mm) : Prop := ∀ n κ s : Nat, n ≤ 12 → κ ≤ 6 → s < 2 → (∀ (g : Nat) (E S : Int), PB r m q n κ g s E S → N 74 (14 * n + 2 * κ + s) ≤ 32 * E + S) ∧ (N 74 (14 * n + 2 * κ + s) = 268435456 ∨ ∃ (g : Nat) (E S : Int), PB r m q n κ g s E S ∧ N 74 (14 * n + 2 * κ + s) = 32 * E + S ∧ N 72 (14 * n + 2 * κ + s) = lD n g s ∧ N 73 (14 * n + 2 * κ + s) = rD n g s)
theorem PBc {r : Nat → Int} (ho : OkR r) {m q n κ g s : Nat} {E S : Int} (h : PB r m q n κ g s E S) : 0 ≤ 32 * E + S ∧ 32 * E + S ≤ 25000 := by
  have := Pth_b ho (PB_Pth h); have := ho.1; omega
theorem cInv_b {r : Nat → Int} (ho : OkR r) {m q : Nat} {N : Mm} (h : cInv r m q N) (c : Nat) (hc : c < 182) : 0 ≤ N 74 c ∧ N 74 c ≤ 268435456 := by
  have h1 := (h (c / 14) (c % 14 / 2) (c % 2) (by omega) (by omega) (by omega)).2
  rw [show 14 * (c / 14) + 2 * (c % 14 / 2) + c % 2 = c by omega] at h1
  rcases h1 with q | ⟨g, E, S, q1, q2, _⟩
  · omega
  · have := PBc ho q1; omega
theorem cInv_d {r : Nat → Int} {m q : Nat} {N : Mm} (h : cInv r m q N) (c : Nat) (hc : c < 182) (hn : N 74 c ≠ 268435456) : D8 (N 72 c) ∧ D8 (N 73 c) := by
  have h1 := (h (c / 14) (c % 14 / 2) (c % 2) (by omega) (by omega) (by omega)).2
  rw [show 14 * (c / 14) + 2 * (c % 14 / 2) + c % 2 = c by omega] at h1
  rcases h1 with x | ⟨g, E, S, x1, x2, x3, x4⟩
  · exact absurd x hn
  · rw [x3, x4]; exact ⟨lD_d _ _ _, rD_d _ _ _⟩
theorem cInv.frame {r : Nat → Int} {m q : Nat} {M N : Mm} (h : cInv r m q M) (h2 : N 72 = M 72) (h3 : N 73 = M 73) (h4 : N 74 = M 74) : cInv r m q N := by
  unfold cInv; rw [h2, h3, h4]; exact h
def cpP (r : Nat → Int) (m : Nat) (N : Mm) : Prop := ∀ f : Nat, f < 2 → (∀ (g s : Nat) (E S : Int), Pth r m g s E S → N 75 f ≤ 32 * (E + efT r (lD m g s) (rD m g s) 26 f) + (S + 1)) ∧ (N 75 f = 268435456 ∨ ∃ (g s : Nat) (E S : Int), Pth r m g s E S ∧ N 75 f = 32 * (E + efT r (lD m g s) (rD m g s) 26 f) + (S + 1))
/-- a way to m is seen at an end of m -/
theorem cInv_e {r : Nat → Int} (ho : OkR r) {m : Nat} {M : Mm} (h : cInv r m 0 M) {g s : Nat} {E S : Int} (hp : Pth r m g s E S) : ∃ e : Nat, e < 14 ∧ M 74 (14 * m + e) ≠ 268435456 ∧ M 74 (14 * m + e) ≤ 32 * E + S ∧ M 72 (14 * m + e) = lD m g s ∧ M 73 (14 * m + e) = rD m g s := by
  obtain ⟨κ, k1, hb⟩ := Pth_PB ho hp (Nat.le_refl m) 0
  have hpb := Pth_b ho hp
  have := ho.1; have := ho.2.1
  obtain ⟨c1, c2⟩ := h m κ s (by omega) (by omega) (by omega)
  have l1 := c1 g E S hb
  have bb := PBc ho hb
  refine ⟨2 * κ + s, by omega, ?_, ?_, ?_, ?_⟩ <;> rw [← Nat.add_assoc]
  · omega
  · exact l1
  · rcases c2 with q | ⟨g2, E2, S2, q1, q2, q3, q4⟩
    · omega
    · rw [q3, PB_g ho q1 hb]
  · rcases c2 with q | ⟨g2, E2, S2, q1, q2, q3, q4⟩
    · omega
    · rw [q4, PB_g ho q1 hb]
theorem cInv_f {r : Nat → Int} {m : Nat} (hm : m ≤ 12) {M : Mm} (h : cInv r m 0 M) {e : Nat} (he : e < 14) (hn : M 74 (14 * m + e) ≠ 268435456) : ∃ (g s : Nat) (E S : Int), Pth r m g s E S ∧ M 74 (14 * m + e) = 32 * E + S ∧ M 72 (14 * m + e) = lD m g s ∧ M 73 (14 * m + e) = rD m g s := by
  have h1 := (h m (e / 2) (e % 2) hm (by omega) (by omega)).2
  rw [show 14 * m + 2 * (e / 2) + e % 2 = 14 * m + e by omega] at h1
  rcases h1 with x | ⟨g, E, S, x1, x2, x3, x4⟩
  · exact absurd x hn
  · exact ⟨g, e % 2, E, S, PB_Pth x1, x2, x3, x4⟩
theorem lemA {r : Nat → Int} (ho : OkR r) {m : Nat} {M N : Mm} (hm : (m : Int) < r 0) (h : cInv r m 0 M) (hl : lP r M N m (r (5 + m)).toNat 14 0) : cInv r m 1 N ∧ cpP r m N := by
  obtain ⟨a1, a2, a3⟩ := hl
  have hr0 := ho.1
  have hlet := ho.2.2.2.2.2.1 m hm
  refine ⟨fun n κ s hn hκ hs => ?_, fun f hf => ?_⟩
  · by_cases q : n = m + 1 ∧ κ = 0
    · obtain ⟨q1, q2⟩ := q
      subst q1; subst q2
      obtain ⟨⟨b1, b2, b3⟩, _⟩ := a3 s hs
      rw [show 14 * (m + 1) + 2 * 0 + s = 14 * (m + 1) + s by omega]
      refine ⟨fun g E S hp => ?_, ?_⟩
      · rcases PB_split hp with hp | ⟨_, g', s', e, c, E', S', p1, p2, p3, p4⟩
        · have := (h (m + 1) 0 s hn hκ hs).1 g E S hp
          rw [show 14 * (m + 1) + 2 * 0 + s = 14 * (m + 1) + s by omega] at this
          omega
        · rcases p2.2 with ⟨_, d2, d3, d4, d5⟩ | ⟨f, d1, _⟩
          · obtain ⟨e0, f1, f2, f3, f4, f5⟩ := cInv_e ho h p1
            have := b2 _ ⟨e0, f1, Or.inl f1, f2, rfl⟩
            rw [f4, f5] at this
            rw [d3] at d4
            omega
          · omega
      · rcases b3 with ⟨c1, c2, c3⟩ | ⟨⟨e0, f1, f2, f3, f4⟩, c2, c3⟩
        · have hh := (h (m + 1) 0 s hn hκ hs).2
          rw [show 14 * (m + 1) + 2 * 0 + s = 14 * (m + 1) + s by omega] at hh
          rw [c1, c2, c3]
          rcases hh with x | ⟨g, E, S, x1, x2⟩
          · exact Or.inl x
          · exact Or.inr ⟨g, E, S, PB_up x1 (by omega), x2⟩
        · obtain ⟨g, s', E, S, y1, y2, y3, y4⟩ := cInv_f (by omega) h f1 f3
          rw [y3, y4] at f4
          refine Or.inr ⟨(r (5 + m)).toNat, E + efT r (lD m g s') (rD m g s') (r (5 + m)).toNat s, S + 1, PB_new y1 ⟨⟨hm, hs⟩, Or.inl ⟨rfl, rfl, rfl, rfl, rfl⟩⟩, by omega, ?_, ?_⟩
          · rw [c2]; unfold lD; rw [if_neg (by omega)]
          · rw [c3]; unfold rD; rw [if_neg (by omega)]
    · obtain ⟨e1, e2, e3⟩ := a2 (14 * n + 2 * κ + s) (by omega) (by omega)
      rw [e1, e2, e3]
      obtain ⟨b1, b2⟩ := h n κ s hn hκ hs
      refine ⟨fun g E S hp => ?_, ?_⟩
      · rcases PB_split hp with hp | ⟨_, g', s', e, c, E', S', p1, p2, p3, p4⟩
        · exact b1 g E S hp
        · exfalso
          clear b2
          rcases p2.2 with ⟨d1, d2, _⟩ | ⟨f, d1, _⟩
          · omega
          · omega
      · rcases b2 with x | ⟨g, E, S, x1, x2⟩
        · exact Or.inl x
        · exact Or.inr ⟨g, E, S, PB_up x1 (by omega), x2⟩
  · obtain ⟨_, b1, b2, b3⟩ := a3 f hf
    refine ⟨fun g s E S hp => ?_, ?_⟩
    · obtain ⟨e0, f1, f2, f3, f4, f5⟩ := cInv_e ho h hp
      have := b2 _ ⟨e0, f1, Or.inl f1, f2, rfl⟩
      rw [f4, f5] at this
      omega
    · rcases b3 with x | ⟨e0, f1, f2, f3, f4⟩
      · exact Or.inl x
      · obtain ⟨g, s', E, S, y1, y2, y3, y4⟩ := cInv_f (by omega) h f1 f3
        rw [y3, y4] at f4
        exact Or.inr ⟨g, s', E, S, y1, by omega⟩
def CW (r : Nat → Int) (M : Mm) (k q to : Nat) (c : Int) : Prop := ∃ v : Nat, v < q ∧ v % 2 = to ∧ c = M 75 (v / 2) + (32 * efT r (sgD 26 (v / 2)) (sgD 26 (1 - v / 2)) k to + 1)
def wP (r : Nat → Int) (M N : Mm) (m k q : Nat) : Prop := (∀ a : Nat, a ≠ 72 → a ≠ 73 → a ≠ 74 → N a = M a) ∧ (∀ c : Nat, c ≠ 14 * (m + (r (17 + 7 * k)).toNat) + 2 * (k + 1) + 0 → c ≠ 14 * (m + (r (17 + 7 * k)).toNat) + 2 * (k + 1) + 1 → N 74 c = M 74 c ∧ N 72 c = M 72 c ∧ N 73 c = M 73 c) ∧ ∀ s : Nat, s < 2 → cellP M N (14 * (m + (r (17 + 7 * k)).toNat) + 2 * (k + 1) + s) (CW r M k q s) (sgD k s) (sgD k (1 - s))
theorem wP_s {r : Nat → Int} {M N : Mm} {m k q : Nat} (h : wP r M N m k q) : wP r M (rch N (14 * (m + (r (17 + 7 * k)).toNat) + 2 * (k + 1) + q % 2) (M 75 (q / 2) + (32 * efT r (sgD 26 (q / 2)) (sgD 26 (1 - q / 2)) k (q % 2) + 1)) k (q % 2)) m k (q + 1) := by
  obtain ⟨a1, a2, a3⟩ := h
  have ro := rch_o N (14 * (m + (r (17 + 7 * k)).toNat) + 2 * (k + 1) + q % 2) (M 75 (q / 2) + (32 * efT r (sgD 26 (q / 2)) (sgD 26 (1 - q / 2)) k (q % 2) + 1)) k (q % 2)
  refine ⟨fun a q1 q2 q3 => by rw [ro.1 a q1 q2 q3]; exact a1 a q1 q2 q3, fun c q1 q2 => ?_, fun s hs => ?_⟩
  · have hc : c ≠ 14 * (m + (r (17 + 7 * k)).toNat) + 2 * (k + 1) + q % 2 := by omega
    rw [(ro.2 c hc).1, (ro.2 c hc).2.1, (ro.2 c hc).2.2]; exact a2 c q1 q2
  · by_cases e : s = q % 2
    · subst e
      refine cellP_s (a3 _ hs) (fun c hc => ?_) (fun c hc => ?_) ⟨q, by omega, rfl, rfl⟩
      · obtain ⟨v, v1, v2, v3⟩ := hc
        by_cases x : v = q
        · subst x; exact Or.inr v3
        · exact Or.inl ⟨v, by omega, v2, v3⟩
      · obtain ⟨v, v1, v2, v3⟩ := hc; exact ⟨v, by omega, v2, v3⟩
    · have hc : 14 * (m + (r (17 + 7 * k)).toNat) + 2 * (k + 1) + s ≠ 14 * (m + (r (17 + 7 * k)).toNat) + 2 * (k + 1) + q % 2 := by omega
      refine cellP_o (a3 s hs) (ro.2 _ hc).1 (ro.2 _ hc).2.1 (ro.2 _ hc).2.2 (fun c hc => ?_) (fun c hc => ?_)
      · obtain ⟨v, v1, v2, v3⟩ := hc
        exact ⟨v, by have : v ≠ q := fun x => e (by rw [← x]; exact v2.symm); omega, v2, v3⟩
      · obtain ⟨v, v1, v2, v3⟩ := hc; exact ⟨v, by omega, v2, v3⟩
theorem lemC {r : Nat → Int} {m k : Nat} {N : Mm} (h : cInv r m (k + 1) N) (hs : ¬ stdP r k m) : cInv r m (k + 2) N := by
  intro n κ s hn hκ hs2
  obtain ⟨b1, b2⟩ := h n κ s hn hκ hs2
  refine ⟨fun g E S hp => ?_, ?_⟩
  · rcases PB_split hp with hp | ⟨q, g', s', e, c, E', S', p1, p2, p3, p4⟩
    · exact b1 g E S hp
    · exfalso
      rcases p2.2 with ⟨d1, _⟩ | ⟨f, d1, d2, d3, _⟩
      · omega
      · exact hs (by rw [show k = g by omega]; exact d3)
  · rcases b2 with x | ⟨g, E, S, x1, x2⟩
    · exact Or.inl x
    · exact Or.inr ⟨g, E, S, PB_up x1 (by omega), x2⟩
theorem lemB {r : Nat → Int} (ho : OkR r) {m k : Nat} {M N : Mm} (hm : (m : Int) < r 0) (hk : (k : Int) < r 1) (hst : stdP r k m) (h : cInv r m (k + 1) M) (hc : cpP r m M) (hl : wP r M N m k 4) : cInv r m (k + 2) N := by
  obtain ⟨a1, a2, a3⟩ := hl
  have hr0 := ho.1
  have hr1 := ho.2.1
  have hlen := (ho.2.2.2.2.2.2 k hk).1
  have hst1 := hst.1
  intro n κ s hn hκ hs
  by_cases q : n = m + (r (17 + 7 * k)).toNat ∧ κ = k + 1
  · obtain ⟨q1, q2⟩ := q
    subst q1; subst q2
    obtain ⟨b1, b2, b3⟩ := a3 s hs
    refine ⟨fun g E S hp => ?_, ?_⟩
    · rcases PB_split hp with hp | ⟨_, g', s', e, c, E', S', p1, p2, p3, p4⟩
      · have := (h _ (k + 1) s hn hκ hs).1 g E S hp
        omega
      · rcases p2.2 with ⟨d1, _⟩ | ⟨f, d1, d2, d3, d4, d5, d6, d7⟩
        · omega
        · have hg : g = k := by omega
          subst hg
          have c1 := (hc f d4).1 g' s' E' S' p1
          have c2 := b2 _ ⟨2 * f + s, by omega, by omega, rfl⟩
          rw [show (2 * f + s) / 2 = f by omega] at c2
          omega
    · rcases b3 with ⟨c1, c2, c3⟩ | ⟨⟨v, f1, f2, f3⟩, c2, c3⟩
      · have hh := (h _ (k + 1) s hn hκ hs).2
        rw [c1, c2, c3]
        rcases hh with x | ⟨g, E, S, x1, x2⟩
        · exact Or.inl x
        · exact Or.inr ⟨g, E, S, PB_up x1 (by omega), x2⟩
      · rcases (hc (v / 2) (by omega)).2 with x | ⟨g, s', E, S, y1, y2⟩
        · have hb := efT_b ho (sgD_d 26 (v / 2)) (sgD_d 26 (1 - v / 2)) k s
          have := (cInv_b ho h (14 * (m + (r (17 + 7 * k)).toNat) + 2 * (k + 1) + s) (by omega)).2
          omega
        · rw [y2] at f3
          refine Or.inr ⟨k, E + (efT r (lD m g s') (rD m g s') 26 (v / 2) + efT r (sgD 26 (v / 2)) (sgD 26 (1 - v / 2)) k s), S + 2, PB_new y1 ⟨⟨hm, hs⟩, Or.inr ⟨v / 2, rfl, hk, hst, by omega, rfl, rfl, rfl⟩⟩, by omega, ?_, ?_⟩
          · rw [c2]; unfold lD; rw [if_neg (by omega)]
          · rw [c3]; unfold rD; rw [if_neg (by omega)]
  · obtain ⟨e1, e2, e3⟩ := a2 (14 * n + 2 * κ + s) (by omega) (by omega)
    rw [e1, e2, e3]
    obtain ⟨b1, b2⟩ := h n κ s hn hκ hs
    refine ⟨fun g E S hp => ?_, ?_⟩
    · rcases PB_split hp with hp | ⟨x, g', s', e, c, E', S', p1, p2, p3, p4⟩
      · exact b1 g E S hp
      · exfalso
        rcases p2.2 with ⟨d1, _⟩ | ⟨f, d1, d2, d3, d4, d5, _⟩
        · omega
        · have hg : g = k := by omega
          subst hg; omega
    · rcases b2 with x | ⟨g, E, S, x1, x2⟩
      · exact Or.inl x
      · exact Or.inr ⟨g, E, S, PB_up x1 (by omega), x2⟩
