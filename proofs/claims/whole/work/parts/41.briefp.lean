/-! SHORT, pure: ways of signs -/
def sgD (g s : Nat) : Int := if s = 0 then tl g else tg g
theorem sgD_d (g s : Nat) : D8 (sgD g s) := by unfold sgD; split; exact tl_b _; exact tg_b _
def lD (p g s : Nat) : Int := if p = 0 then 0 else sgD g s
def rD (p g s : Nat) : Int := if p = 0 then 0 else sgD g (1 - s)
theorem lD_d (p g s : Nat) : D8 (lD p g s) := by unfold lD; split; exact ⟨by decide, by decide⟩; exact sgD_d _ _
theorem rD_d (p g s : Nat) : D8 (rD p g s) := by unfold rD; split; exact ⟨by decide, by decide⟩; exact sgD_d _ _
def efD (r : Nat → Int) (a b c d : Int) : Int := r 2 * stepsP a c + r 3 * stepsP b d
theorem efD_b {r : Nat → Int} (ho : OkR r) {a b c d : Int} (ha : D8 a) (hb : D8 b) (hc : D8 c) (hd : D8 d) : 0 ≤ efD r a b c d ∧ efD r a b c d ≤ 32 := by
  have h1 := stepsP_b ha hc; have h2 := stepsP_b hb hd
  have h3 := ho.2.2.1; have h4 := ho.2.2.2.1
  unfold efD
  have m1 : 0 ≤ r 2 * stepsP a c := Int.mul_nonneg (by omega) h1.1
  have m2 : 0 ≤ r 3 * stepsP b d := Int.mul_nonneg (by omega) h2.1
  have m3 : r 2 * stepsP a c ≤ 4 * 4 := Int.mul_le_mul (by omega) h1.2 h1.1 (by omega)
  have m4 : r 3 * stepsP b d ≤ 4 * 4 := Int.mul_le_mul (by omega) h2.2 h2.1 (by omega)
  omega
/-- from two directions to a sign at a side -/
def efT (r : Nat → Int) (a b : Int) (g s : Nat) : Int := efD r a b (sgD g s) (sgD g (1 - s))
theorem efT_b {r : Nat → Int} (ho : OkR r) {a b : Int} (ha : D8 a) (hb : D8 b) (g s : Nat) : 0 ≤ efT r a b g s ∧ efT r a b g s ≤ 32 := efD_b ho ha hb (sgD_d _ _) (sgD_d _ _)
def stdP (r : Nat → Int) (k p : Nat) : Prop := (p : Int) + r (17 + 7 * k) ≤ r 0 ∧ ∀ i : Nat, (i : Int) < r (17 + 7 * k) → r (5 + (p + i)) = r (18 + 7 * k + i)
def Edg (r : Nat → Int) (p g' s' κ n g s : Nat) (e c : Int) : Prop := ((p : Int) < r 0 ∧ s < 2) ∧ ((κ = 0 ∧ n = p + 1 ∧ g = (r (5 + p)).toNat ∧ e = efT r (lD p g' s') (rD p g' s') g s ∧ c = 1) ∨ ∃ f : Nat, κ = g + 1 ∧ (g : Int) < r 1 ∧ stdP r g p ∧ f < 2 ∧ n = p + (r (17 + 7 * g)).toNat ∧ e = efT r (lD p g' s') (rD p g' s') 26 f + efT r (sgD 26 f) (sgD 26 (1 - f)) g s ∧ c = 2)
def Pt (r : Nat → Int) : Nat → Nat → Nat → Nat → Int → Int → Prop
  | 0, n, g, s, E, S => n = 0 ∧ g = 0 ∧ s = 0 ∧ E = 0 ∧ S = 0
  | d + 1, n, g, s, E, S => ∃ (p g' s' κ : Nat) (e c E' S' : Int), Pt r d p g' s' E' S' ∧ Edg r p g' s' κ n g s e c ∧ E = E' + e ∧ S = S' + c
def Pth (r : Nat → Int) (n g s : Nat) (E S : Int) : Prop := ∃ d : Nat, Pt r d n g s E S
/-- the last leg begins ahead of m, or at m and is of a kind below q -/
def PB (r : Nat → Int) (m q n κ g s : Nat) (E S : Int) : Prop := (n = 0 ∧ κ = 0 ∧ g = 0 ∧ s = 0 ∧ E = 0 ∧ S = 0) ∨ ∃ (p g' s' : Nat) (e c E' S' : Int), (p < m ∨ (p = m ∧ κ < q)) ∧ Pth r p g' s' E' S' ∧ Edg r p g' s' κ n g s e c ∧ E = E' + e ∧ S = S' + c
theorem Edg_n {r : Nat → Int} (ho : OkR r) {p g' s' κ n g s : Nat} {e c : Int} (h : Edg r p g' s' κ n g s e c) : p < n ∧ (n : Int) ≤ r 0 ∧ g < 27 ∧ s < 2 ∧ (0 ≤ e ∧ e ≤ 64 * (n - p)) ∧ (0 ≤ c ∧ c ≤ 2 * (n - p)) ∧ (κ : Int) ≤ r 1 := by
  obtain ⟨⟨h1, h2⟩, h⟩ := h
  have e1 := fun g s => efT_b ho (lD_d p g' s') (rD_d p g' s') g s
  rcases h with ⟨a1, a2, a3, a4, a5⟩ | ⟨f, a1, a2, a3, a4, a5, a6, a7⟩
  · have := ho.2.2.2.2.2.1 p h1
    have := e1 g s
    have := ho.2.1
    omega
  · have hl := (ho.2.2.2.2.2.2 g a2).1
    have x1 := e1 26 f
    have x2 := efT_b ho (sgD_d 26 f) (sgD_d 26 (1 - f)) g s
    have := a3.1
    have := ho.2.1
    omega
theorem Pt_b {r : Nat → Int} (ho : OkR r) : ∀ (d n g s : Nat) (E S : Int), Pt r d n g s E S → (0 ≤ E ∧ E ≤ 64 * n) ∧ (0 ≤ S ∧ S ≤ 2 * n) ∧ (n : Int) ≤ r 0 ∧ g < 27 ∧ s < 2
  | 0, n, g, s, E, S, h => by have := ho.1; simp only [Pt] at h; omega
  | d + 1, n, g, s, E, S, h => by
    obtain ⟨p, g', s', κ, e, c, E', S', h1, h2, h3, h4⟩ := h
    have ih := Pt_b ho d p g' s' E' S' h1
    have he := Edg_n ho h2
    omega
theorem Pth_b {r : Nat → Int} (ho : OkR r) {n g s : Nat} {E S : Int} (h : Pth r n g s E S) : (0 ≤ E ∧ E ≤ 64 * n) ∧ (0 ≤ S ∧ S ≤ 2 * n) ∧ (n : Int) ≤ r 0 ∧ g < 27 ∧ s < 2 := by
  obtain ⟨d, h⟩ := h; exact Pt_b ho d n g s E S h
theorem Pth_0 (r : Nat → Int) : Pth r 0 0 0 0 0 := ⟨0, rfl, rfl, rfl, rfl, rfl⟩
theorem PB_Pth {r : Nat → Int} {m q n κ g s : Nat} {E S : Int} (h : PB r m q n κ g s E S) : Pth r n g s E S := by
  rcases h with ⟨a1, a2, a3, a4, a5, a6⟩ | ⟨p, g', s', e, c, E', S', h0, ⟨d, h1⟩, h2, h3, h4⟩
  · subst a1; subst a3; subst a4; subst a5; subst a6; exact Pth_0 r
  · exact ⟨d + 1, p, g', s', κ, e, c, E', S', h1, h2, h3, h4⟩
theorem Pth_PB {r : Nat → Int} (ho : OkR r) {n g s : Nat} {E S : Int} (h : Pth r n g s E S) {m : Nat} (hm : n ≤ m) (q : Nat) : ∃ κ : Nat, (κ : Int) ≤ r 1 ∧ PB r m q n κ g s E S := by
  obtain ⟨d, h⟩ := h
  cases d with
  | zero => exact ⟨0, by have := ho.2.1; omega, Or.inl ⟨h.1, rfl, h.2.1, h.2.2.1, h.2.2.2.1, h.2.2.2.2⟩⟩
  | succ d =>
    obtain ⟨p, g', s', κ, e, c, E', S', h1, h2, h3, h4⟩ := h
    have hn := Edg_n ho h2
    exact ⟨κ, by omega, Or.inr ⟨p, g', s', e, c, E', S', Or.inl (by omega), ⟨d, h1⟩, h2, h3, h4⟩⟩
theorem PB_g {r : Nat → Int} (ho : OkR r) {m q m2 q2 n κ g g2 s s2 : Nat} {E S E2 S2 : Int} (h : PB r m q n κ g s E S) (h2 : PB r m2 q2 n κ g2 s2 E2 S2) : g = g2 := by
  rcases h with ⟨a1, a2, a3, _⟩ | ⟨p, g', s', e, c, E', S', _, _, b, _⟩ <;> rcases h2 with ⟨c1, c2, c3, _⟩ | ⟨p2, g2', s2', e2, c2, E2', S2', _, _, d, _⟩
  · omega
  · have := Edg_n ho d; omega
  · have := Edg_n ho b; omega
  · rcases b.2 with ⟨b1, b2, b3, _⟩ | ⟨f, b1, _⟩ <;> rcases d.2 with ⟨d1, d2, d3, _⟩ | ⟨f2, d1, _⟩
    · rw [b3, d3, show p = p2 by omega]
    · omega
    · omega
    · omega
theorem PB_b {r : Nat → Int} (ho : OkR r) {m q n κ g s : Nat} {E S : Int} (h : PB r m q n κ g s E S) : (κ : Int) ≤ r 1 ∧ n ≤ 12 := by
  have hp := Pth_b ho (PB_Pth h)
  have := ho.1; have := ho.2.1
  refine ⟨?_, by omega⟩
  rcases h with ⟨a1, a2, _⟩ | ⟨p, g', s', e, c, E', S', _, _, b, _⟩
  · omega
  · have := Edg_n ho b; omega
theorem PB_up {r : Nat → Int} {m q q' n κ g s : Nat} {E S : Int} (h : PB r m q n κ g s E S) (hq : q ≤ q') : PB r m q' n κ g s E S := by
  rcases h with h | ⟨p, g', s', e, c, E', S', h0, h⟩
  · exact Or.inl h
  · exact Or.inr ⟨p, g', s', e, c, E', S', by omega, h⟩
theorem PB_next {r : Nat → Int} (ho : OkR r) {m n κ g s : Nat} {E S : Int} : PB r (m + 1) 0 n κ g s E S ↔ PB r m ((r 1).toNat + 1) n κ g s E S := by
  constructor
  · rintro (h | ⟨p, g', s', e, c, E', S', h0, h1, h2, h3⟩)
    · exact Or.inl h
    · have := Edg_n ho h2
      exact Or.inr ⟨p, g', s', e, c, E', S', by omega, h1, h2, h3⟩
  · rintro (h | ⟨p, g', s', e, c, E', S', h0, h1, h2, h3⟩)
    · exact Or.inl h
    · exact Or.inr ⟨p, g', s', e, c, E', S', by omega, h1, h2, h3⟩
/-- a leg of kind q from m, or one that was there before -/
theorem PB_split {r : Nat → Int} {m q n κ g s : Nat} {E S : Int} (h : PB r m (q + 1) n κ g s E S) : PB r m q n κ g s E S ∨ (κ = q ∧ ∃ (g' s' : Nat) (e c E' S' : Int), Pth r m g' s' E' S' ∧ Edg r m g' s' κ n g s e c ∧ E = E' + e ∧ S = S' + c) := by
  rcases h with h | ⟨p, g', s', e, c, E', S', h0, h1, h2, h3⟩
  · exact Or.inl (Or.inl h)
  · by_cases hq : p < m ∨ (p = m ∧ κ < q)
    · exact Or.inl (Or.inr ⟨p, g', s', e, c, E', S', hq, h1, h2, h3⟩)
    · have hp : p = m := by omega
      subst hp
      exact Or.inr ⟨by omega, g', s', e, c, E', S', h1, h2, h3⟩
theorem PB_new {r : Nat → Int} {m n κ g s g' s' : Nat} {e c E' S' : Int} (h1 : Pth r m g' s' E' S') (h2 : Edg r m g' s' κ n g s e c) : PB r m (κ + 1) n κ g s (E' + e) (S' + c) :=
  Or.inr ⟨m, g', s', e, c, E', S', Or.inr ⟨rfl, by omega⟩, h1, h2, rfl, rfl⟩
theorem Pth_ex {r : Nat → Int} : ∀ n : Nat, (n : Int) ≤ r 0 → ∃ (g s : Nat) (E S : Int), Pth r n g s E S
  | 0, _ => ⟨0, 0, 0, 0, Pth_0 r⟩
  | n + 1, h => by
    obtain ⟨g, s, E, S, d, hp⟩ := Pth_ex (r := r) n (by omega)
    exact ⟨_, 0, _, _, d + 1, n, g, s, 0, _, _, E, S, hp, ⟨⟨by omega, by omega⟩, Or.inl ⟨rfl, rfl, rfl, rfl, rfl⟩⟩, rfl, rfl⟩
/-- the least of all ways, effort first -/
def mnP (u : Int) (r : Nat → Int) (E S : Int) : Prop := (∃ g s : Nat, Pth r (r 0).toNat g s E S) ∧ ∀ (g s : Nat) (E' S' : Int), Pth r (r 0).toNat g s E' S' → u * E + S ≤ u * E' + S'
theorem mnP_uniq {r : Nat → Int} (ho : OkR r) {E S E' S' : Int} (h : mnP 32 r E S) (h' : mnP 100 r E' S') : E = E' ∧ S = S' := by
  obtain ⟨⟨g, s, a⟩, b⟩ := h
  obtain ⟨⟨g', s', a'⟩, b'⟩ := h'
  have x1 := b g' s' E' S' a'
  have x2 := b' g s E S a
  have y1 := Pth_b ho a; have y2 := Pth_b ho a'
  have := ho.1
  omega
/-- what is answered -/
def briefS (u : Int) (r : Nat → Int) (c z : Int) : Prop := if 0 ≤ c ∧ c ≤ 1 then ∃ E S : Int, mnP u r E S ∧ z = (if c = 0 then E else S) else z = -1
theorem briefS_uniq {r : Nat → Int} (ho : OkR r) {c z y : Int} (h : briefS 32 r c z) (h' : briefS 100 r c y) : z = y := by
  unfold briefS at *
  by_cases q : 0 ≤ c ∧ c ≤ 1
  · rw [if_pos q] at h h'
    obtain ⟨E, S, a, b⟩ := h
    obtain ⟨E', S', a', b'⟩ := h'
    have := mnP_uniq ho a a'
    rw [b, b', this.1, this.2]
  · rw [if_neg q] at h h'; omega
