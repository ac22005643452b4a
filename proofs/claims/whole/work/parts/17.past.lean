/-! what may be undone: a ring of stations, and rows one behind the other -/
abbrev Pa (p : Nat) : Prop := sh p = (0, 2, [some (p + 1), none, none]) ∧ sh (p + 1) = (3, 2, [some (p + 2), some (p + 6), some (p + 10), some (p + 14), some (p + 18), some (p + 22)]) ∧ ∀ q : Nat, q < 6 → St (p + 2 + 4 * q)
theorem pa_at (p q : Nat) (h : q < 6) : ([some (p + 2), some (p + 6), some (p + 10), some (p + 14), some (p + 18), some (p + 22)] : List (Option Nat))[q]? = some (some (p + 2 + 4 * q)) := by
  rcases (show q = 0 ∨ q = 1 ∨ q = 2 ∨ q = 3 ∨ q = 4 ∨ q = 5 by omega) with rfl | rfl | rfl | rfl | rfl | rfl <;> rfl
def offR (lo hi : Nat) (M M' : Mm) : Prop := ∀ a : Nat, (a < lo ∨ hi < a) → M' a = M a
def rowA (A : Nat → Int) (j : Nat) : Nat → Int := fun i => A (59 * j + i)
def eq59 (r r' : Nat → Int) : Prop := ∀ j : Nat, j < 59 → r j = r' j
theorem OkR.congr {r r' : Nat → Int} (h : OkR r) (e : eq59 r r') : OkR r' := by
  obtain ⟨h0, h1, h2, h3, h4, h5, h6⟩ := h
  refine ⟨by rw [← e 0 (by omega)]; exact h0, by rw [← e 1 (by omega)]; exact h1, by rw [← e 2 (by omega)]; exact h2, by rw [← e 3 (by omega)]; exact h3, by rw [← e 4 (by omega)]; exact h4, fun i hi => ?_, fun w hw => ?_⟩
  · rw [← e 0 (by omega)] at hi
    rw [← e _ (by omega)]; exact h5 i hi
  · rw [← e 1 (by omega)] at hw
    have := (h6 w hw).1
    rw [← e (17 + 7 * w) (by omega)]
    refine ⟨this, fun i hi => ?_⟩
    rw [← e _ (by omega)]; exact (h6 w hw).2 i hi
theorem stRel.congr {M : Mm} {k : Nat} {r r' : Nat → Int} (hr : stRel M k r) (ho : OkR r) (e : eq59 r r') : stRel M k r' := by
  obtain ⟨h0, h1, h2, h3, h4, h5, h6⟩ := hr
  obtain ⟨o0, o1, o2, o3, o4, o5, o6⟩ := ho
  refine ⟨by rw [← e 0 (by omega)]; exact h0, by rw [← e 1 (by omega)]; exact h1, by rw [← e 2 (by omega)]; exact h2, by rw [← e 3 (by omega)]; exact h3, by rw [← e 4 (by omega)]; exact h4, fun i hi => ?_, fun w hw => ?_⟩
  · rw [← e 0 (by omega)] at hi
    rw [← e _ (by omega)]; exact h5 i hi
  · rw [← e 1 (by omega)] at hw
    have := (o6 w hw).1
    rw [← e (17 + 7 * w) (by omega)]
    refine ⟨(h6 w hw).1, fun i hi => ?_⟩
    rw [← e _ (by omega)]; exact (h6 w hw).2 i hi
/-- one deed more that may be undone -/
def nxU (u : Int) : Int := if u = 6 then 6 else u + 1
def ntA (A r : Nat → Int) (u : Int) : Nat → Int := if u = 6 then va_cpy r (va_cpy A A 59 0 295) 0 295 59 else va_cpy r A 0 (59 * u.toNat) 59
def pastRel (M : Mm) (p : Nat) (u : Int) (A : Nat → Int) : Prop := M p 2 = u ∧ (0 ≤ u ∧ u ≤ 6) ∧ (0 ≤ M p 1 ∧ M p 1 < 6) ∧ ∀ j : Nat, (j : Int) < u → OkR (rowA A j) ∧ stRel M (p + 2 + 4 * (((M p 1).toNat + j) % 6)) (rowA A j)
theorem pastRel.frame {M M' : Mm} {p : Nat} {u : Int} {A : Nat → Int} (h : pastRel M p u A) (hf : ∀ a : Nat, p ≤ a → a ≤ p + 25 → M' a = M a) : pastRel M' p u A := by
  obtain ⟨h1, h2, h3, h4⟩ := h
  rw [pastRel, hf p (by omega) (by omega)]
  exact ⟨h1, h2, h3, fun j hj => ⟨(h4 j hj).1, (h4 j hj).2.frame (hf _ (by omega) (by omega)) (hf _ (by omega) (by omega)) (hf _ (by omega) (by omega)) (hf _ (by omega) (by omega))⟩⟩
theorem pastRel.congr {M : Mm} {p : Nat} {u : Int} {A A' : Nat → Int} (h : pastRel M p u A) (e : ∀ j : Nat, j < 354 → A j = A' j) : pastRel M p u A' := by
  obtain ⟨h1, h2, h3, h4⟩ := h
  refine ⟨h1, h2, h3, fun j hj => ?_⟩
  have e2 : eq59 (rowA A j) (rowA A' j) := fun i hi => e _ (by omega)
  exact ⟨(h4 j hj).1.congr e2, (h4 j hj).2.congr (h4 j hj).1 e2⟩
theorem rowA_nt {A r : Nat → Int} {u : Int} (hu : 0 ≤ u ∧ u ≤ 6) {j : Nat} (hj : (j : Int) < nxU u) : eq59 (if (j : Int) + 1 = nxU u then r else rowA A (if u = 6 then j + 1 else j)) (rowA (ntA A r u) j) := by
  intro i hi
  unfold nxU at hj
  by_cases h6 : u = 6
  · subst h6
    simp only [nxU, ntA, rowA, va_cpy, if_true] at *
    by_cases h5 : j = 5
    · rw [if_pos (by omega), if_pos (by omega)]; exact congrArg r (by omega)
    · rw [if_neg (show ¬ (j : Int) + 1 = 6 by omega), if_neg (show ¬ (295 ≤ 59 * j + i ∧ 59 * j + i < 295 + 59) by omega), if_pos (by omega)]; exact congrArg A (by omega)
  · rw [if_neg h6] at hj
    simp only [nxU, ntA, rowA, va_cpy, if_neg h6]
    by_cases h5 : (j : Int) = u
    · rw [if_pos (by omega), if_pos (by omega)]; exact congrArg r (by omega)
    · rw [if_neg (by omega), if_neg (by omega)]; rfl
theorem pastRel.add {M M1 M' : Mm} {p : Nat} {u : Int} {A r : Nat → Int} (h : pastRel M p u A) (ho : OkR r) (h1 : off4 (p + 2 + 4 * (((M p 1).toNat + (M p 2).toNat) % 6)) M M1) (h2 : stRel M1 (p + 2 + 4 * (((M p 1).toNat + (M p 2).toNat) % 6)) r)
    (e0 : ∀ a : Nat, a ≠ p → M' a = M1 a) (e1 : M' p 1 = if u = 6 then (M p 1 + 1) % 6 else M p 1) (e2 : M' p 2 = nxU u) : pastRel M' p (nxU u) (ntA A r u) := by
  obtain ⟨g1, g2, g3, g4⟩ := h
  have st : ∀ (k : Nat) (q : Nat → Int), p < k → stRel M1 k q → stRel M' k q := fun k q hk hq => hq.frame (e0 _ (by omega)) (e0 _ (by omega)) (e0 _ (by omega)) (e0 _ (by omega))
  refine ⟨e2, by unfold nxU; split <;> omega, by rw [e1]; split <;> omega, fun j hj => ?_⟩
  have hrow := rowA_nt (A := A) (r := r) g2 hj
  have key : OkR (if (j : Int) + 1 = nxU u then r else rowA A (if u = 6 then j + 1 else j)) ∧ stRel M' (p + 2 + 4 * (((M' p 1).toNat + j) % 6)) (if (j : Int) + 1 = nxU u then r else rowA A (if u = 6 then j + 1 else j)) := by
    by_cases hl : (j : Int) + 1 = nxU u
    · rw [if_pos hl]
      refine ⟨ho, ?_⟩
      have : ((M' p 1).toNat + j) % 6 = ((M p 1).toNat + (M p 2).toNat) % 6 := by
        rw [e1]; unfold nxU at hl
        by_cases h6 : u = 6
        · rw [if_pos h6] at *; omega
        · rw [if_neg h6] at *; omega
      rw [this]
      exact st _ _ (by omega) h2
    · rw [if_neg hl]
      have hj2 : ((if u = 6 then j + 1 else j : Nat) : Int) < u := by
        unfold nxU at hl hj
        by_cases h6 : u = 6
        · rw [if_pos h6] at *; omega
        · rw [if_neg h6] at *; omega
      have hq : ((M' p 1).toNat + j) % 6 = ((M p 1).toNat + (if u = 6 then j + 1 else j)) % 6 := by
        rw [e1]
        by_cases h6 : u = 6
        · rw [if_pos h6, if_pos h6]; omega
        · rw [if_neg h6, if_neg h6]
      rw [hq]
      refine ⟨(g4 _ hj2).1, st _ _ (by omega) (((g4 _ hj2).2).off h1 ?_)⟩
      have hj3 : u = 6 → 1 ≤ (if u = 6 then j + 1 else j) := fun q => by rw [if_pos q]; omega
      generalize (if u = 6 then j + 1 else j) = jj at *
      omega
  exact ⟨key.1.congr hrow, key.2.congr key.1 hrow⟩
theorem offR.of4 {p k : Nat} {M M' : Mm} (h : off4 k M M') (h1 : p ≤ k) (h2 : k + 3 ≤ p + 25) : offR p (p + 25) M M' := fun a ha => h a (by omega)
theorem offR.up {lo hi a j : Nat} {z : Int} {M M' : Mm} (h : offR lo hi M M') (ha : lo ≤ a ∧ a ≤ hi) : offR lo hi M (up2 M' a j z) := fun b hb => by rw [up2_c (by omega)]; exact h b hb

set_option maxRecDepth 20000 in
theorem C_padd (Γ : GC) (M : Mm) (p k : Nat) (hp : Pa p) (hk : St k) (hne : k + 3 < p ∨ p + 25 < k) (h1 : 0 ≤ M p 1 ∧ M p 1 < 6) (h2 : 0 ≤ M p 2 ∧ M p 2 ≤ 6) : Ct Γ uX2_add [rf Γ p, rf Γ k] M (fun _ M' => offR p (p + 25) M M' ∧ ∀ u A r, pastRel M p u A → OkR r → stRel M k r → pastRel M' p (nxU u) (ntA A r u)) := by
  refine Ct.of (by decide) (Nat.le_of_ble_eq_true rfl) ?_
  show AW Γ uX2_add 0 [(0, rf Γ p), (1, rf Γ k)] [] M _
  refine AW.aload_n dX2_add_0 0 rfl rfl ?_
  refine AW.getR dX2_add_1 fl_X2_11 hp.1 rfl ?_
  refine AW.aload_n dX2_add_4 0 rfl rfl ?_
  refine AW.getI dX2_add_5 fl_X2_17 hp.1 rfl ?_
  refine AW.aload_n dX2_add_8 0 rfl rfl ?_
  refine AW.getI dX2_add_9 fl_X2_21 hp.1 rfl ?_
  refine AW.iadd dX2_add_12 ?_
  refine AW.bipush (z := (6)) dX2_add_13 (by decide) ?_
  refine AW.irem dX2_add_15 (by omega) (by omega) ?_
  refine AW.aald2 (r := p + 2 + 4 * (((M p 1).toNat + (M p 2).toNat) % 6)) dX2_add_16 hp.2.1 (by omega) (by simp; omega) (Nat.le_of_ble_eq_true rfl) (by rw [show ((M p 1 + M p 2) % 6).toNat = ((M p 1).toNat + (M p 2).toNat) % 6 by omega]; exact pa_at p _ (by omega)) ?_
  refine AW.aload_n dX2_add_17 1 rfl rfl ?_
  refine AW.callV1v (C_become Γ M _ k (hp.2.2 (((M p 1).toNat + (M p 2).toNat) % 6) (by omega)) hk (by omega)) dX2_add_18 mc_X2_25 (hp.2.2 (((M p 1).toNat + (M p 2).toNat) % 6) (by omega)).1 (fun _ => rfl) ⟨Nat.le_of_ble_eq_true rfl, Nat.le_of_ble_eq_true rfl⟩ (Nat.le_of_ble_eq_true rfl) (fun z18 M18 h18 => ?_)
  obtain ⟨f18, r18⟩ := h18
  have q1 : M18 p = M p := f18 _ (by omega)
  refine AW.aload_n dX2_add_21 0 rfl rfl ?_
  refine AW.getI dX2_add_22 fl_X2_21 hp.1 rfl ?_
  rw [q1]
  refine AW.bipush (z := (6)) dX2_add_25 (by decide) ?_
  refine AW.icmp_ge 43 dX2_add_27 (by decide) (by omega) (by omega) (fun c27 => ?_) (fun c27 => ?_)
  · refine AW.aload_n dX2_add_43 0 rfl rfl ?_
    refine AW.aload_n dX2_add_44 0 rfl rfl ?_
    refine AW.getI dX2_add_45 fl_X2_17 hp.1 rfl ?_
    rw [q1]
    refine AW.iconst dX2_add_48 ?_
    refine AW.iadd dX2_add_49 ?_
    refine AW.bipush (z := (6)) dX2_add_50 (by decide) ?_
    refine AW.irem dX2_add_52 (by omega) (by omega) ?_
    refine AW.putI dX2_add_53 fp_X2_17 hp.1 rfl ?_
    exact AW.vret rfl dX2_add_56 ⟨(offR.of4 f18 (by omega) (by omega)).up (by omega), fun u A r h ho hs => h.add ho f18 (r18 r ho hs) (fun a ha => up2_c ha) (by have := h.1; rw [up2_e, q1]; first | (rw [if_pos ⟨rfl, rfl⟩, if_pos (by omega)]; done) | (rw [if_neg (by simp), if_neg (by omega)]; done)) (by have := h.1; rw [up2_e, q1]; unfold nxU; first | (rw [if_pos ⟨rfl, rfl⟩, if_neg (by omega)]; omega) | (rw [if_neg (by simp), if_pos (by omega)]; omega))⟩
  · refine AW.aload_n dX2_add_30 0 rfl rfl ?_
    refine AW.dup dX2_add_31 rfl ?_
    refine AW.getI dX2_add_32 fl_X2_21 hp.1 rfl ?_
    rw [q1]
    refine AW.iconst dX2_add_35 ?_
    refine AW.iadd dX2_add_36 ?_
    refine AW.putI dX2_add_37 fp_X2_21 hp.1 rfl ?_
    refine AW.goto 56 dX2_add_40 (by decide) ?_
    exact AW.vret rfl dX2_add_56 ⟨(offR.of4 f18 (by omega) (by omega)).up (by omega), fun u A r h ho hs => h.add ho f18 (r18 r ho hs) (fun a ha => up2_c ha) (by have := h.1; rw [up2_e, q1]; first | (rw [if_pos ⟨rfl, rfl⟩, if_pos (by omega)]; done) | (rw [if_neg (by simp), if_neg (by omega)]; done)) (by have := h.1; rw [up2_e, q1]; unfold nxU; first | (rw [if_pos ⟨rfl, rfl⟩, if_neg (by omega)]; omega) | (rw [if_neg (by simp), if_pos (by omega)]; omega))⟩

set_option maxRecDepth 20000 in
theorem C_ptake (Γ : GC) (M : Mm) (p k : Nat) (hp : Pa p) (hk : St k) (hne : k + 3 < p ∨ p + 25 < k) (h1 : 0 ≤ M p 1 ∧ M p 1 < 6) (h2 : 0 ≤ M p 2 ∧ M p 2 ≤ 6) : Ct Γ uX2_takeLatest [rf Γ p, rf Γ k] M (fun z M' => z = bI (decide (0 < M p 2)) ∧ ((M p 2 = 0 ∧ M' = M) ∨ (0 < M p 2 ∧ (∀ a : Nat, (a < k ∨ k + 3 < a) → a ≠ p → M' a = M a) ∧ M' p 1 = M p 1 ∧ M' p 2 = M p 2 - 1 ∧ ∀ u A, pastRel M p u A → stRel M' k (rowA A (u - 1).toNat)))) := by
  refine Ct.of (by decide) (Nat.le_of_ble_eq_true rfl) ?_
  show AW Γ uX2_takeLatest 0 [(0, rf Γ p), (1, rf Γ k)] [] M _
  refine AW.aload_n dX2_takeLatest_0 0 rfl rfl ?_
  refine AW.getI dX2_takeLatest_1 fl_X2_21 hp.1 rfl ?_
  refine AW.if_ne 9 dX2_takeLatest_4 (by decide) (by omega) (fun c4 => ?_) (fun c4 => ?_)
  · refine AW.aload_n dX2_takeLatest_9 0 rfl rfl ?_
    refine AW.dup dX2_takeLatest_10 rfl ?_
    refine AW.getI dX2_takeLatest_11 fl_X2_21 hp.1 rfl ?_
    refine AW.iconst dX2_takeLatest_14 ?_
    refine AW.isub dX2_takeLatest_15 ?_
    refine AW.putI dX2_takeLatest_16 fp_X2_21 hp.1 rfl ?_
    refine AW.aload_n dX2_takeLatest_19 1 rfl rfl ?_
    refine AW.aload_n dX2_takeLatest_20 0 rfl rfl ?_
    refine AW.getR dX2_takeLatest_21 fl_X2_11 hp.1 rfl ?_
    refine AW.aload_n dX2_takeLatest_24 0 rfl rfl ?_
    refine AW.getI dX2_takeLatest_25 fl_X2_17 hp.1 rfl ?_
    rw [up2_i (by decide)]
    refine AW.aload_n dX2_takeLatest_28 0 rfl rfl ?_
    refine AW.getI dX2_takeLatest_29 fl_X2_21 hp.1 rfl ?_
    rw [up2_s]
    refine AW.iadd dX2_takeLatest_32 ?_
    refine AW.bipush (z := (6)) dX2_takeLatest_33 (by decide) ?_
    refine AW.irem dX2_takeLatest_35 (by omega) (by omega) ?_
    refine AW.aald2 (r := p + 2 + 4 * (((M p 1).toNat + (M p 2 - 1).toNat) % 6)) dX2_takeLatest_36 hp.2.1 (by omega) (by simp; omega) (Nat.le_of_ble_eq_true rfl) (by rw [show ((M p 1 + (M p 2 - 1)) % 6).toNat = ((M p 1).toNat + (M p 2 - 1).toNat) % 6 by omega]; exact pa_at p _ (by omega)) ?_
    refine AW.callV1v (C_become Γ _ k _ hk (hp.2.2 (((M p 1).toNat + (M p 2 - 1).toNat) % 6) (by omega)) (by omega)) dX2_takeLatest_37 mc_X2_25 hk.1 (fun _ => rfl) ⟨Nat.le_of_ble_eq_true rfl, Nat.le_of_ble_eq_true rfl⟩ (Nat.le_of_ble_eq_true rfl) (fun z37 M37 h37 => ?_)
    obtain ⟨f37, r37⟩ := h37
    refine AW.iconst dX2_takeLatest_40 ?_
    exact AW.zret rfl dX2_takeLatest_41 (Or.inr rfl) ⟨by rw [bI_t (by omega)], Or.inr ⟨by omega, fun a ha hb => by rw [f37 a (by omega), up2_c hb], by rw [f37 p (by omega), up2_i (by decide)], by rw [f37 p (by omega), up2_s], fun u A h => by
  have q1 := h.1
  obtain ⟨q2, q3⟩ := h.2.2.2 (u - 1).toNat (by omega)
  refine r37 _ q2 ?_
  rw [show (M p 2 - 1).toNat = (u - 1).toNat by omega]
  exact q3.frame (up2_c (by omega)) (up2_c (by omega)) (up2_c (by omega)) (up2_c (by omega))⟩⟩
  · refine AW.iconst dX2_takeLatest_7 ?_
    exact AW.zret rfl dX2_takeLatest_8 (Or.inl rfl) ⟨by rw [bI_f (by omega)], Or.inl ⟨c4, rfl⟩⟩

set_option maxRecDepth 20000 in
theorem pbecome_loop (Γ : GC) (M : Mm) (p p2 : Nat) (hp : Pa p) (hp2 : Pa p2) (hne : p + 25 < p2 ∨ p2 + 25 < p) : ∀ (n i : Nat) (x : Int) (N : Mm), x = i → i ≤ 6 → (∀ a : Nat, (a < p + 2 ∨ p + 25 < a) → N a = M a) → (∀ q : Nat, q < i → ∀ r, OkR r → stRel M (p2 + 2 + 4 * q) r → stRel N (p + 2 + 4 * q) r) → 6 - i < n → AW Γ uX2_become 2 [(2, vi x), (0, rf Γ p), (1, rf Γ p2)] [] N (fun _ M' => offR p (p + 25) M M' ∧ ∀ u A, pastRel M p2 u A → pastRel M' p u A) := by
  intro n
  induction n with
  | zero => intro i x N g0 g1 g2 g3 gm; omega
  | succ n ih =>
    intro i x N g0 g1 g2 g3 gm
    refine AW.iload_n dX2_become_2 0 rfl rfl ?_
    refine AW.bipush (z := (6)) dX2_become_3 (by decide) ?_
    refine AW.icmp_ge 29 dX2_become_5 (by decide) (by omega) (by omega) (fun c5 => ?_) (fun c5 => ?_)
    · refine AW.aload_n dX2_become_29 1 rfl rfl ?_
      refine AW.aload_n dX2_become_30 2 rfl rfl ?_
      refine AW.getI dX2_become_31 fl_X2_17 hp2.1 rfl ?_
      rw [g2 p2 (by omega)]
      refine AW.putI dX2_become_34 fp_X2_17 hp.1 rfl ?_
      refine AW.aload_n dX2_become_37 1 rfl rfl ?_
      refine AW.aload_n dX2_become_38 2 rfl rfl ?_
      refine AW.getI dX2_become_39 fl_X2_21 hp2.1 rfl ?_
      rw [up2_c (by omega), g2 p2 (by omega)]
      refine AW.putI dX2_become_42 fp_X2_21 hp.1 rfl ?_
      exact AW.vret rfl dX2_become_45 ⟨((show offR p (p + 25) M N from fun a ha => g2 a (by omega)).up (by omega)).up (by omega), fun u A h => by
  obtain ⟨q1, q2, q3, q4⟩ := h
  refine ⟨by rw [up2_s]; exact q1, q2, by rw [up2_i (by decide), up2_s]; exact q3, fun j hj => ⟨(q4 j hj).1, ?_⟩⟩
  rw [up2_i (by decide), up2_s]
  exact (g3 _ (by omega) _ (q4 j hj).1 (q4 j hj).2).frame (by rw [up2_c (by omega), up2_c (by omega)]) (by rw [up2_c (by omega), up2_c (by omega)]) (by rw [up2_c (by omega), up2_c (by omega)]) (by rw [up2_c (by omega), up2_c (by omega)])⟩
    · refine AW.aload_n dX2_become_8 1 rfl rfl ?_
      refine AW.getR dX2_become_9 fl_X2_11 hp.1 rfl ?_
      refine AW.iload_n dX2_become_12 0 rfl rfl ?_
      refine AW.aald2 (r := p + 2 + 4 * i) dX2_become_13 hp.2.1 (by omega) (by simp; omega) (Nat.le_of_ble_eq_true rfl) (by rw [show x.toNat = i by omega]; exact pa_at p _ (by omega)) ?_
      refine AW.aload_n dX2_become_14 2 rfl rfl ?_
      refine AW.getR dX2_become_15 fl_X2_11 hp2.1 rfl ?_
      refine AW.iload_n dX2_become_18 0 rfl rfl ?_
      refine AW.aald2 (r := p2 + 2 + 4 * i) dX2_become_19 hp2.2.1 (by omega) (by simp; omega) (Nat.le_of_ble_eq_true rfl) (by rw [show x.toNat = i by omega]; exact pa_at p2 _ (by omega)) ?_
      refine AW.callV1v (C_become Γ _ _ _ (hp.2.2 i (by omega)) (hp2.2.2 i (by omega)) (by omega)) dX2_become_20 mc_X2_25 (hp.2.2 i (by omega)).1 (fun _ => rfl) ⟨Nat.le_of_ble_eq_true rfl, Nat.le_of_ble_eq_true rfl⟩ (Nat.le_of_ble_eq_true rfl) (fun z20 M20 h20 => ?_)
      obtain ⟨f20, r20⟩ := h20
      obtain ⟨x23, ex23⟩ : ∃ z : Int, x + 1 = z := ⟨_, rfl⟩
      refine AW.iinc [(2, vi x23), (0, rf Γ p), (1, rf Γ p2)] dX2_become_23 0 rfl (by decide) x23 ex23 rfl ?_
      refine AW.goto 2 dX2_become_26 (by decide) ?_
      refine AW.sub [0, 1, 2] rfl ?_
      exact ih (i + 1) x23 M20 (by omega) (by omega) (fun a ha => by rw [f20 a (by omega)]; exact g2 a (by omega)) (fun q hq r ho hs => by
        rcases Nat.lt_or_ge q i with h | h
        · exact (g3 q h r ho hs).off f20 (by omega)
        · have hqi : q = i := by omega
          subst hqi
          exact r20 r ho (hs.frame (g2 _ (by omega)) (g2 _ (by omega)) (g2 _ (by omega)) (g2 _ (by omega)))) (by omega)

set_option maxRecDepth 20000 in
theorem C_pbecome (Γ : GC) (M : Mm) (p p2 : Nat) (hp : Pa p) (hp2 : Pa p2) (hne : p + 25 < p2 ∨ p2 + 25 < p) : Ct Γ uX2_become [rf Γ p, rf Γ p2] M (fun _ M' => offR p (p + 25) M M' ∧ ∀ u A, pastRel M p2 u A → pastRel M' p u A) := by
  refine Ct.of (by decide) (Nat.le_of_ble_eq_true rfl) ?_
  show AW Γ uX2_become 0 [(0, rf Γ p), (1, rf Γ p2)] [] M _
  refine AW.iconst dX2_become_0 ?_
  refine AW.top (fun x1 ex1 => ?_)
  refine AW.istore_n [(2, vi x1), (0, rf Γ p), (1, rf Γ p2)] dX2_become_1 rfl (by decide) rfl ?_
  refine AW.sub [0, 1, 2] rfl ?_
  exact pbecome_loop Γ M p p2 hp hp2 hne 7 0 x1 M (by omega) (by omega) (fun a _ => rfl) (fun q hq => by omega) (by omega)
