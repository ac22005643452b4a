/-! STILL, pure -/
def bitS (S i : Nat) : Nat := S / 2 ^ i % 2
theorem bitS_2 (S i : Nat) : bitS S i < 2 := Nat.mod_lt _ (by decide)
def loW (r : Nat → Int) (k : Nat) : Nat → Int := fun i => tl (r (18 + 7 * k + i)).toNat
def hiW (r : Nat → Int) (k S : Nat) : Nat → Int := fun i => if bitS S i = 1 then (tg (r (18 + 7 * k + i)).toNat + 1) % 8 else tg (r (18 + 7 * k + i)).toNat
theorem loW_d (r : Nat → Int) (k : Nat) (m : Int) : D8s (loW r k) m := fun _ _ => tl_b _
theorem hiW_d (r : Nat → Int) (k S : Nat) (m : Int) : D8s (hiW r k S) m := fun i _ => by
  have := tg_b (r (18 + 7 * k + i)).toNat
  unfold hiW; split <;> constructor <;> omega
def dS (r : Nat → Int) (k S w : Nat) : Int := dsF (loW r k) (hiW r k S) r w (r (17 + 7 * k)).toNat
def tdF (r : Nat → Int) (k S : Nat) : Nat → Int
  | 0 => 1
  | w + 1 => if ¬ w = k ∧ r (17 + 7 * w) = r (17 + 7 * k) ∧ dS r k S w ≤ dS r k S k then 0 else tdF r k S w
theorem tdF_01 (r : Nat → Int) (k S : Nat) : ∀ w : Nat, tdF r k S w = 0 ∨ tdF r k S w = 1
  | 0 => Or.inr rfl
  | w + 1 => by simp only [tdF]; split
                · exact Or.inl rfl
                · exact tdF_01 r k S w
theorem tdF_0 {r : Nat → Int} {k S w : Nat} (h : ¬ w = k ∧ r (17 + 7 * w) = r (17 + 7 * k) ∧ dS r k S w ≤ dS r k S k) : ∀ n : Nat, w < n → tdF r k S n = 0
  | 0, hn => by omega
  | n + 1, hn => by
    simp only [tdF]
    by_cases q : w = n
    · subst q; rw [if_pos h]
    · rw [tdF_0 h n (by omega)]; split <;> rfl
theorem tdF_1 {r : Nat → Int} {k S : Nat} : ∀ n : Nat, (tdF r k S n = 1 ↔ ∀ w : Nat, w < n → ¬ w = k → r (17 + 7 * w) = r (17 + 7 * k) → dS r k S k < dS r k S w)
  | 0 => by simp [tdF]
  | n + 1 => by
    have ih := tdF_1 (r := r) (k := k) (S := S) n
    simp only [tdF]
    by_cases q : ¬ n = k ∧ r (17 + 7 * n) = r (17 + 7 * k) ∧ dS r k S n ≤ dS r k S k
    · rw [if_pos q]
      constructor
      · intro h; omega
      · intro h; have := h n (by omega) q.1 q.2.1; omega
    · rw [if_neg q, ih]
      constructor
      · intro h w hw h1 h2
        by_cases e : w = n
        · subst e
          rcases Int.lt_or_le (dS r k S k) (dS r k S w) with c | c
          · exact c
          · exact absurd ⟨h1, h2, c⟩ q
        · exact h w (by omega) h1 h2
      · intro h w hw; exact h w (by omega)
theorem nrF_spec (D r : Nat → Int) (m : Int) : ∀ n : Nat, ((nrF D r m n).1 = -4 ∧ ∀ w : Nat, w < n → ¬ r (17 + 7 * w) = m) ∨ ∃ v : Nat, v < n ∧ (nrF D r m n).1 = v ∧ r (17 + 7 * v) = m ∧ (nrF D r m n).2.1 = D v ∧ (∀ w : Nat, w < n → r (17 + 7 * w) = m → D v ≤ D w) ∧ (((nrF D r m n).2.2 = 1 ∧ ∀ w : Nat, w < n → r (17 + 7 * w) = m → ¬ w = v → D v < D w) ∨ ((nrF D r m n).2.2 = 0 ∧ ∃ w : Nat, w < n ∧ r (17 + 7 * w) = m ∧ ¬ w = v ∧ D w = D v))
  | 0 => Or.inl ⟨rfl, fun w hw => by omega⟩
  | n + 1 => by
    have ih := nrF_spec D r m n
    simp only [nrF]
    by_cases q : r (17 + 7 * n) = m
    · rw [if_pos q]
      rcases ih with ⟨i1, i2⟩ | ⟨v, i1, i2, i3, i4, i5, i6⟩
      · rw [if_pos (Or.inl i1)]
        refine Or.inr ⟨n, by omega, rfl, q, rfl, fun w hw hm => ?_, Or.inl ⟨rfl, fun w hw hm hne => ?_⟩⟩
        · by_cases e : w = n
          · rw [e]; exact Int.le_refl _
          · exact absurd hm (i2 w (by omega))
        · exact absurd hm (i2 w (by omega))
      · by_cases q2 : D n < D v
        · rw [if_pos (Or.inr (by rw [i4]; exact q2))]
          refine Or.inr ⟨n, by omega, rfl, q, rfl, fun w hw hm => ?_, Or.inl ⟨rfl, fun w hw hm hne => ?_⟩⟩
          · by_cases e : w = n
            · rw [e]; exact Int.le_refl _
            · have := i5 w (by omega) hm; omega
          · have := i5 w (by omega) hm; omega
        · rw [if_neg (by rw [i2, i4]; omega)]
          by_cases q3 : D n = D v
          · rw [if_pos (by rw [i4]; exact q3)]
            refine Or.inr ⟨v, by omega, i2, i3, i4, fun w hw hm => ?_, Or.inr ⟨rfl, n, by omega, q, by omega, q3⟩⟩
            by_cases e : w = n
            · rw [e, q3]; exact Int.le_refl _
            · exact i5 w (by omega) hm
          · rw [if_neg (by rw [i4]; exact q3)]
            refine Or.inr ⟨v, by omega, i2, i3, i4, fun w hw hm => ?_, ?_⟩
            · by_cases e : w = n
              · rw [e]; omega
              · exact i5 w (by omega) hm
            · rcases i6 with ⟨j1, j2⟩ | ⟨j1, w, j2, j3, j4, j5⟩
              · refine Or.inl ⟨j1, fun w hw hm hne => ?_⟩
                by_cases e : w = n
                · rw [e]; omega
                · exact j2 w (by omega) hm hne
              · exact Or.inr ⟨j1, w, by omega, j3, j4, j5⟩
    · rw [if_neg q]
      rcases ih with ⟨i1, i2⟩ | ⟨v, i1, i2, i3, i4, i5, i6⟩
      · refine Or.inl ⟨i1, fun w hw hm => ?_⟩
        by_cases e : w = n
        · rw [e] at hm; exact q hm
        · exact i2 w (by omega) hm
      · refine Or.inr ⟨v, by omega, i2, i3, i4, fun w hw hm => ?_, ?_⟩
        · by_cases e : w = n
          · rw [e] at hm; exact absurd hm q
          · exact i5 w (by omega) hm
        · rcases i6 with ⟨j1, j2⟩ | ⟨j1, w, j2, j3, j4, j5⟩
          · refine Or.inl ⟨j1, fun w hw hm hne => ?_⟩
            by_cases e : w = n
            · rw [e] at hm; exact absurd hm q
            · exact j2 w (by omega) hm hne
          · exact Or.inr ⟨j1, w, by omega, j3, j4, j5⟩
theorem near_td {r : Nat → Int} {k : Nat} (S : Nat) (hk : (k : Int) < r 1) : ((nearF (loW r k) (hiW r k S) r (r (17 + 7 * k))).1 = k ∧ (nearF (loW r k) (hiW r k S) r (r (17 + 7 * k))).2.2 = 1) ↔ tdF r k S (r 1).toNat = 1 := by
  rw [tdF_1]
  have hs := nrF_spec (fun w => dS r k S w) r (r (17 + 7 * k)) (r 1).toNat
  have he : nearF (loW r k) (hiW r k S) r (r (17 + 7 * k)) = nrF (fun w => dS r k S w) r (r (17 + 7 * k)) (r 1).toNat := rfl
  rw [he]
  rcases hs with ⟨i1, i2⟩ | ⟨v, i1, i2, i3, i4, i5, i6⟩
  · exact absurd rfl (i2 k (by omega))
  · constructor
    · rintro ⟨a, b⟩
      have hv : v = k := by omega
      subst hv
      rcases i6 with ⟨j1, j2⟩ | ⟨j1, _⟩
      · intro w hw h1 h2; exact j2 w hw h2 h1
      · omega
    · intro h
      have hv : v = k := by
        by_cases e : v = k
        · exact e
        · have := h v i1 e i3; have := i5 k (by omega) rfl; omega
      subst hv
      refine ⟨i2, ?_⟩
      rcases i6 with ⟨j1, j2⟩ | ⟨j1, w, j2, j3, j4, j5⟩
      · exact j1
      · have := h w j2 j4 j3; omega
def popF (S : Nat) : Nat → Nat
  | 0 => 0
  | i + 1 => popF S i + bitS S i
theorem popF_le (S : Nat) : ∀ i : Nat, popF S i ≤ i
  | 0 => Nat.le_refl _
  | i + 1 => by have := popF_le S i; have := bitS_2 S i; simp only [popF]; omega
def wtF (c : Int) (S : Nat) : Nat → Int
  | 0 => 1
  | i + 1 => wtF c S i * (if bitS S i = 1 then c else 10 - c)
theorem wtF_pop (c : Int) (S : Nat) : ∀ i : Nat, wtF c S i = c ^ popF S i * (10 - c) ^ (i - popF S i)
  | 0 => by simp [wtF, popF]
  | i + 1 => by
    have hl := popF_le S i
    have h2 := bitS_2 S i
    simp only [wtF, popF]
    rw [wtF_pop c S i]
    by_cases q : bitS S i = 1
    · rw [if_pos q, q, Int.pow_succ, show i + 1 - (popF S i + 1) = i - popF S i by omega]
      rw [Int.mul_assoc, Int.mul_assoc, Int.mul_comm ((10 - c) ^ (i - popF S i)) c]
    · rw [if_neg q, show bitS S i = 0 by omega, Nat.add_zero, show i + 1 - popF S i = (i - popF S i) + 1 by omega, Int.pow_succ, Int.mul_assoc]
theorem pop6 : ∀ L : Fin 7, ∀ S : Fin 64, S.val < 2 ^ L.val → popF S.val 6 = popF S.val L.val := by decide +kernel
theorem pop_eq {L S : Nat} (hL : L ≤ 6) (hS : S < 2 ^ L) : popF S 6 = popF S L :=
  pop6 ⟨L, by omega⟩ ⟨S, Nat.lt_of_lt_of_le hS (Nat.le_trans (Nat.pow_le_pow_right (by decide) hL) (by decide))⟩ hS
def sumF (f : Nat → Int) : Nat → Int
  | 0 => 0
  | n + 1 => sumF f n + f n
theorem sumF_add (f g : Nat → Int) : ∀ n : Nat, sumF (fun j => f j + g j) n = sumF f n + sumF g n
  | 0 => rfl
  | n + 1 => by simp only [sumF]; rw [sumF_add f g n]; omega
theorem sumF_z (f : Nat → Int) : ∀ n : Nat, (∀ j : Nat, j < n → f j = 0) → sumF f n = 0
  | 0, _ => rfl
  | n + 1, h => by simp only [sumF]; rw [sumF_z f n (fun j hj => h j (by omega)), h n (by omega)]; rfl
theorem sumF_one (f : Nat → Int) (p : Nat) : ∀ n : Nat, p < n → (∀ j : Nat, ¬ j = p → f j = 0) → sumF f n = f p
  | 0, h, _ => by omega
  | n + 1, h, hz => by
    simp only [sumF]
    by_cases q : p = n
    · subst q; rw [sumF_z f p (fun j hj => hz j (by omega))]; omega
    · rw [sumF_one f p n (by omega) hz, hz n (by omega)]; omega
theorem sumF_congr {f g : Nat → Int} : ∀ n : Nat, (∀ j : Nat, j < n → f j = g j) → sumF f n = sumF g n
  | 0, _ => rfl
  | n + 1, h => by simp only [sumF]; rw [sumF_congr n (fun j hj => h j (by omega)), h n (by omega)]
/-- in how many of the first N sets with j slips the word is told -/
def tdC (r : Nat → Int) (k j : Nat) : Nat → Int
  | 0 => 0
  | S + 1 => tdC r k j S + (if tdF r k S (r 1).toNat = 1 ∧ popF S 6 = j then 1 else 0)
theorem tdC_b (r : Nat → Int) (k j : Nat) : ∀ S : Nat, 0 ≤ tdC r k j S ∧ tdC r k j S ≤ S
  | 0 => by simp [tdC]
  | S + 1 => by have := tdC_b r k j S; simp only [tdC]; split <;> omega
/-- above, as the reference has it -/
def abF (r : Nat → Int) (k : Nat) (c : Int) : Nat → Int
  | 0 => 0
  | S + 1 => abF r k c S + (if tdF r k S (r 1).toNat = 1 then wtF c S (r (17 + 7 * k)).toNat else 0)
theorem abF_sum (r : Nat → Int) (k : Nat) (c : Int) (hL : 1 ≤ r (17 + 7 * k) ∧ r (17 + 7 * k) ≤ 6) : ∀ N : Nat, N ≤ 2 ^ (r (17 + 7 * k)).toNat → sumF (fun j => tdC r k j N * c ^ j * (10 - c) ^ ((r (17 + 7 * k)).toNat - j)) ((r (17 + 7 * k)).toNat + 1) = abF r k c N
  | 0, _ => by
    simp only [abF]
    exact sumF_z _ _ (fun j _ => by simp [tdC])
  | N + 1, h => by
    have ih := abF_sum r k c hL N (by omega)
    simp only [abF]
    rw [← ih]
    have hp := popF_le N (r (17 + 7 * k)).toNat
    have he := pop_eq (L := (r (17 + 7 * k)).toNat) (S := N) (by omega) (by omega)
    have : (if tdF r k N (r 1).toNat = 1 then wtF c N (r (17 + 7 * k)).toNat else 0) = sumF (fun j => (if tdF r k N (r 1).toNat = 1 ∧ popF N 6 = j then 1 else 0) * c ^ j * (10 - c) ^ ((r (17 + 7 * k)).toNat - j)) ((r (17 + 7 * k)).toNat + 1) := by
      rw [sumF_one _ (popF N 6) _ (by omega) (fun j hj => by rw [if_neg (fun q => hj q.2.symm)]; simp)]
      by_cases q : tdF r k N (r 1).toNat = 1
      · rw [if_pos q, if_pos ⟨q, rfl⟩, wtF_pop, he, Int.one_mul]
      · rw [if_neg q, if_neg (fun x => q x.1)]; simp
    rw [this, ← sumF_add]
    exact sumF_congr _ (fun j _ => by simp only [tdC]; rw [Int.add_mul, Int.add_mul])
theorem pow_b {c : Int} (hc : 0 ≤ c ∧ c ≤ 10) : ∀ i : Nat, 0 ≤ c ^ i ∧ c ^ i ≤ 10 ^ i
  | 0 => by simp
  | i + 1 => by
    have := pow_b hc i
    rw [Int.pow_succ, Int.pow_succ]
    exact ⟨Int.mul_nonneg this.1 hc.1, Int.mul_le_mul this.2 hc.2 hc.1 (by omega)⟩
theorem ten6 (i : Nat) (h : i ≤ 6) : (1 : Int) ≤ 10 ^ i ∧ (10 : Int) ^ i ≤ 1000000 := by
  rcases (show i = 0 ∨ i = 1 ∨ i = 2 ∨ i = 3 ∨ i = 4 ∨ i = 5 ∨ i = 6 by omega) with rfl | rfl | rfl | rfl | rfl | rfl | rfl <;> decide
theorem wtF_b {c : Int} (hc : 0 ≤ c ∧ c ≤ 10) (S : Nat) : ∀ i : Nat, 0 ≤ wtF c S i ∧ wtF c S i ≤ 10 ^ i
  | 0 => by simp [wtF]
  | i + 1 => by
    have := wtF_b hc S i
    simp only [wtF]
    rw [Int.pow_succ]
    split
    · exact ⟨Int.mul_nonneg this.1 hc.1, Int.mul_le_mul this.2 hc.2 hc.1 (by omega)⟩
    · exact ⟨Int.mul_nonneg this.1 (by omega), Int.mul_le_mul this.2 (by omega) (by omega) (by omega)⟩
theorem abF_b {r : Nat → Int} {k : Nat} {c : Int} (hc : 0 ≤ c ∧ c ≤ 10) (hL : 1 ≤ r (17 + 7 * k) ∧ r (17 + 7 * k) ≤ 6) : ∀ N : Nat, 0 ≤ abF r k c N ∧ abF r k c N ≤ 1000000 * N
  | 0 => by simp [abF]
  | N + 1 => by
    have := abF_b hc hL N
    have h1 := wtF_b hc N (r (17 + 7 * k)).toNat
    have h2 := ten6 (r (17 + 7 * k)).toNat (by omega)
    simp only [abF]
    split <;> omega
/-! what divides both -/
def redF (p : Nat) : Nat → Nat → Nat → Nat × Nat
  | 0, a, b => (a, b)
  | t + 1, a, b => if a % p = 0 then redF p t (a / p) (b / p) else (a, b)
theorem redF_spec (p : Nat) (hp : 0 < p) : ∀ (t a b : Nat), p ^ t ∣ b → ∃ s : Nat, s ≤ t ∧ a = p ^ s * (redF p t a b).1 ∧ b = p ^ s * (redF p t a b).2 ∧ (s = t ∨ ¬ (redF p t a b).1 % p = 0)
  | 0, a, b, _ => ⟨0, Nat.le_refl _, by simp [redF], by simp [redF], Or.inl rfl⟩
  | t + 1, a, b, h => by
    simp only [redF]
    by_cases q : a % p = 0
    · rw [if_pos q]
      obtain ⟨d, hd⟩ := h
      have hb : b / p = p ^ t * d := by rw [hd, Nat.pow_succ, Nat.mul_assoc, Nat.mul_comm p d, ← Nat.mul_assoc]; exact Nat.mul_div_cancel _ hp
      obtain ⟨s, i1, i2, i3, i4⟩ := redF_spec p hp t (a / p) (b / p) ⟨d, hb⟩
      refine ⟨s + 1, by omega, ?_, ?_, ?_⟩
      · rw [Nat.pow_succ, Nat.mul_assoc, Nat.mul_comm p, ← Nat.mul_assoc, ← i2]; exact (Nat.div_mul_cancel (Nat.dvd_of_mod_eq_zero q)).symm
      · rw [Nat.pow_succ, Nat.mul_assoc, Nat.mul_comm p, ← Nat.mul_assoc, ← i3, hb, hd, Nat.pow_succ, Nat.mul_assoc, Nat.mul_assoc, Nat.mul_comm d p]
      · rcases i4 with i4 | i4
        · exact Or.inl (by omega)
        · exact Or.inr i4
    · rw [if_neg q]; exact ⟨0, by omega, by simp, by simp, Or.inr q⟩
theorem cop2 {a : Nat} (h : ¬ a % 2 = 0) : Nat.gcd a 2 = 1 := by
  rw [Nat.gcd_comm, Nat.gcd_rec, show a % 2 = 1 by omega]; decide +kernel
theorem cop5 {a : Nat} (h : ¬ a % 5 = 0) : Nat.gcd a 5 = 1 := by
  rw [Nat.gcd_comm, Nat.gcd_rec]
  rcases (show a % 5 = 1 ∨ a % 5 = 2 ∨ a % 5 = 3 ∨ a % 5 = 4 by omega) with q | q | q | q <;> rw [q] <;> decide +kernel
theorem red_gcd (L a : Nat) : (redF 5 L (redF 2 L a (10 ^ L)).1 (redF 2 L a (10 ^ L)).2) = (a / Nat.gcd a (10 ^ L), 10 ^ L / Nat.gcd a (10 ^ L)) := by
  have h10 : (10 : Nat) ^ L = 2 ^ L * 5 ^ L := by rw [← Nat.mul_pow]
  obtain ⟨s, a1, a2, a3, a4⟩ := redF_spec 2 (by decide) L a (10 ^ L) ⟨5 ^ L, h10⟩
  generalize hx : (redF 2 L a (10 ^ L)).1 = x at *
  generalize hy : (redF 2 L a (10 ^ L)).2 = y at *
  have hy2 : y = 2 ^ (L - s) * 5 ^ L := by
    have : 2 ^ s * y = 2 ^ s * (2 ^ (L - s) * 5 ^ L) := by
      rw [← a3, h10, ← Nat.mul_assoc, ← Nat.pow_add, show s + (L - s) = L by omega]
    exact Nat.eq_of_mul_eq_mul_left (Nat.two_pow_pos s) this
  obtain ⟨u, b1, b2, b3, b4⟩ := redF_spec 5 (by decide) L x y ⟨2 ^ (L - s), by rw [hy2, Nat.mul_comm]⟩
  generalize hv : redF 5 L x y = v at *
  have h5p : 0 < 5 ^ u := Nat.pow_pos (by decide)
  have hv2 : v.2 = 2 ^ (L - s) * 5 ^ (L - u) := by
    have : 5 ^ u * v.2 = 5 ^ u * (2 ^ (L - s) * 5 ^ (L - u)) := by
      rw [← b3, hy2, Nat.mul_left_comm, ← Nat.pow_add, show u + (L - u) = L by omega]
    exact Nat.eq_of_mul_eq_mul_left h5p this
  have hc : Nat.gcd v.1 v.2 = 1 := by
    rw [hv2]
    refine Nat.Coprime.mul_right ?_ ?_
    · rcases a4 with a4 | a4
      · rw [show L - s = 0 by omega, Nat.pow_zero]; exact Nat.gcd_one_right _
      · refine Nat.Coprime.pow_right _ (cop2 (fun q => a4 ?_))
        rw [b2]; rw [Nat.mul_mod, q]; simp
    · rcases b4 with b4 | b4
      · rw [show L - u = 0 by omega, Nat.pow_zero]; exact Nat.gcd_one_right _
      · exact Nat.Coprime.pow_right _ (cop5 b4)
  have ha : a = 2 ^ s * 5 ^ u * v.1 := by rw [a2, b2, Nat.mul_assoc]
  have hb : 10 ^ L = 2 ^ s * 5 ^ u * v.2 := by rw [a3, b3, Nat.mul_assoc]
  have hg : Nat.gcd a (10 ^ L) = 2 ^ s * 5 ^ u := by rw [hb, ha, Nat.gcd_mul_left, hc, Nat.mul_one]
  have hpos : 0 < 2 ^ s * 5 ^ u := Nat.mul_pos (Nat.two_pow_pos s) h5p
  rw [hg, hb]
  conv => rhs; rw [ha]
  rw [Nat.mul_div_cancel_left _ hpos, Nat.mul_div_cancel_left _ hpos]
/-- what is answered -/
def stillS (r : Nat → Int) (k c w : Int) : Int := if ((0 ≤ k ∧ k < r 1) ∧ (0 ≤ c ∧ c ≤ 10)) ∧ (0 ≤ w ∧ w ≤ 1) then (if w = 0 then (((abF r k.toNat c (2 ^ (r (17 + 7 * k.toNat)).toNat)).toNat / Nat.gcd (abF r k.toNat c (2 ^ (r (17 + 7 * k.toNat)).toNat)).toNat (10 ^ (r (17 + 7 * k.toNat)).toNat) : Nat) : Int) else ((10 ^ (r (17 + 7 * k.toNat)).toNat / Nat.gcd (abF r k.toNat c (2 ^ (r (17 + 7 * k.toNat)).toNat)).toNat (10 ^ (r (17 + 7 * k.toNat)).toNat) : Nat) : Int)) else -1
