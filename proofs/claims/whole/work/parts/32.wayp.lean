/-! THE WAY, as the reference finds it: all ways, one behind the other; both are the same -/
def bitN (n k i : Nat) : Nat := k / 2 ^ (n - 1 - i) % 2
def bsF (n k : Nat) : Nat → Nat := fun p => if p = 0 then 0 else bitN n k (p - 1)
theorem bsF_2 (n k p : Nat) : bsF n k p < 2 := by unfold bsF bitN; split <;> omega
def effF (r : Nat → Int) (n k : Nat) : Int := r 2 * stF r (bsF n k) n + r 3 * stF r (fun p => 1 - bsF n k p) n
def lgF (r : Nat → Int) (f : Nat → Nat) : Nat → Int
  | 0 => 0
  | p + 1 => lgF r f p + legP r p (f p) (f (p + 1))
theorem lgF_st (r : Nat → Int) (f : Nat → Nat) : ∀ p : Nat, r 2 * stF r f p + r 3 * stF r (fun q => 1 - f q) p = lgF r f p
  | 0 => by simp [stF, lgF]
  | p + 1 => by
    have ih := lgF_st r f p
    simp only [stF, lgF, legP]
    rw [← ih, Int.mul_add, Int.mul_add]
    omega
def CF (r : Nat → Int) (n : Nat) : Nat → Nat → Nat → Int
  | 0, _, _ => 0
  | m + 1, s, k => legP r (n - (m + 1)) s (k / 2 ^ m % 2) + CF r n m (k / 2 ^ m % 2) (k % 2 ^ m)
theorem mod_top (k m : Nat) : (k % 2 ^ (m + 1)) / 2 ^ m % 2 = k / 2 ^ m % 2 ∧ (k % 2 ^ (m + 1)) % 2 ^ m = k % 2 ^ m := by
  have hp : 0 < 2 ^ m := Nat.two_pow_pos m
  rw [Nat.mod_pow_succ]
  have h1 : k % 2 ^ m < 2 ^ m := Nat.mod_lt _ hp
  constructor
  · rw [Nat.add_mul_div_left _ _ hp, Nat.div_eq_of_lt h1, Nat.zero_add, Nat.mod_mod]
  · rw [Nat.add_mul_mod_self_left, Nat.mod_mod]
theorem CF_lg (r : Nat → Int) (n k : Nat) : ∀ m : Nat, m ≤ n → lgF r (bsF n k) n = lgF r (bsF n k) (n - m) + CF r n m (bsF n k (n - m)) (k % 2 ^ m)
  | 0, _ => by simp [CF]
  | m + 1, h => by
    rw [CF_lg r n k m (by omega)]
    rw [show n - m = (n - (m + 1)) + 1 by omega]
    simp only [lgF, CF]
    rw [(mod_top k m).1, (mod_top k m).2]
    have hb : bsF n k (n - (m + 1) + 1) = k / 2 ^ m % 2 := by
      unfold bsF bitN
      rw [if_neg (by omega), show n - 1 - (n - (m + 1) + 1 - 1) = m by omega]
    rw [hb]
    omega
theorem effF_CF (r : Nat → Int) (n k : Nat) (hk : k < 2 ^ n) : effF r n k = CF r n n 0 k := by
  unfold effF
  rw [lgF_st, CF_lg r n k n (Nat.le_refl n), Nat.sub_self, Nat.mod_eq_of_lt hk]
  simp [lgF, bsF]
/-- the least of a row, how many are so, which is the first -/
def scF (c : Nat → Int) : Nat → Int × Int × Nat
  | 0 => (-1, 0, 0)
  | k + 1 => if (scF c k).1 < 0 ∨ c k < (scF c k).1 then (c k, 1, k) else if c k = (scF c k).1 then ((scF c k).1, (scF c k).2.1 + 1, (scF c k).2.2) else scF c k
theorem scF_succ (c : Nat → Int) (k : Nat) : scF c (k + 1) = if (scF c k).1 < 0 ∨ c k < (scF c k).1 then (c k, 1, k) else if c k = (scF c k).1 then ((scF c k).1, (scF c k).2.1 + 1, (scF c k).2.2) else scF c k := rfl
theorem scF_congr {c d : Nat → Int} : ∀ n : Nat, (∀ k : Nat, k < n → c k = d k) → scF c n = scF d n
  | 0, _ => rfl
  | n + 1, h => by simp only [scF]; rw [scF_congr n (fun k hk => h k (by omega)), h n (by omega)]
theorem scF_pos {c : Nat → Int} (hc : ∀ k : Nat, 0 ≤ c k) : ∀ n : Nat, 0 < n → 0 ≤ (scF c n).1
  | n + 1, _ => by
    have := hc n
    simp only [scF]
    by_cases h1 : (scF c n).1 < 0 ∨ c n < (scF c n).1
    · rw [if_pos h1]; exact this
    · rw [if_neg h1]
      by_cases h2 : c n = (scF c n).1
      · rw [if_pos h2]; dsimp only; omega
      · rw [if_neg h2]; omega
theorem scF_shift {c : Nat → Int} (x : Int) (hx : 0 ≤ x) (hc : ∀ k : Nat, 0 ≤ c k) : ∀ n : Nat, 0 < n → scF (fun k => x + c k) n = (x + (scF c n).1, (scF c n).2.1, (scF c n).2.2)
  | 1, _ => by simp [scF]
  | n + 2, _ => by
    have ih := scF_shift x hx hc (n + 1) (by omega)
    have hp := scF_pos hc (n + 1) (by omega)
    rw [show scF (fun k => x + c k) (n + 2) = (if (scF (fun k => x + c k) (n + 1)).1 < 0 ∨ x + c (n + 1) < (scF (fun k => x + c k) (n + 1)).1 then (x + c (n + 1), 1, n + 1) else if x + c (n + 1) = (scF (fun k => x + c k) (n + 1)).1 then ((scF (fun k => x + c k) (n + 1)).1, (scF (fun k => x + c k) (n + 1)).2.1 + 1, (scF (fun k => x + c k) (n + 1)).2.2) else scF (fun k => x + c k) (n + 1)) from rfl]
    rw [show scF c (n + 2) = (if (scF c (n + 1)).1 < 0 ∨ c (n + 1) < (scF c (n + 1)).1 then (c (n + 1), 1, n + 1) else if c (n + 1) = (scF c (n + 1)).1 then ((scF c (n + 1)).1, (scF c (n + 1)).2.1 + 1, (scF c (n + 1)).2.2) else scF c (n + 1)) from rfl]
    rw [ih]
    dsimp only
    by_cases h1 : c (n + 1) < (scF c (n + 1)).1
    · rw [if_pos (by omega), if_pos (by omega)]
    · by_cases h2 : c (n + 1) = (scF c (n + 1)).1
      · rw [if_neg (by omega), if_pos (by omega), if_neg (by omega), if_pos h2]
      · rw [if_neg (by omega), if_neg (by omega), if_neg (by omega), if_neg h2]
def cmb (a b : Int × Int × Nat) (n : Nat) : Int × Int × Nat := if b.1 < 0 ∨ a.1 < b.1 then a else if a.1 = b.1 then (a.1, a.2.1 + b.2.1, a.2.2) else (b.1, b.2.1, n + b.2.2)
theorem scF_app {c d : Nat → Int} (hc : ∀ k : Nat, 0 ≤ c k) (hd : ∀ k : Nat, 0 ≤ d k) (n1 : Nat) (h1 : 0 < n1) : ∀ n2 : Nat, scF (fun k => if k < n1 then c k else d (k - n1)) (n1 + n2) = cmb (scF c n1) (scF d n2) n1
  | 0 => by
    rw [scF_congr (d := c) (n1 + 0) (fun k hk => by rw [if_pos (by omega)])]
    unfold cmb; rw [if_pos (Or.inl (by simp [scF]))]; rfl
  | n2 + 1 => by
    have ih := scF_app hc hd n1 h1 n2
    have p1 := scF_pos hc n1 h1
    have hdk := hd n2
    have p2 : n2 = 0 ∨ 0 ≤ (scF d n2).1 := by
      rcases Nat.eq_zero_or_pos n2 with h | h
      · exact Or.inl h
      · exact Or.inr (scF_pos hd n2 h)
    rw [show n1 + (n2 + 1) = (n1 + n2) + 1 by omega]
    have hv : (fun k => if k < n1 then c k else d (k - n1)) (n1 + n2) = d n2 := by
      dsimp only; rw [if_neg (show ¬ n1 + n2 < n1 by omega), show n1 + n2 - n1 = n2 by omega]
    generalize (fun k => if k < n1 then c k else d (k - n1)) = f at ih hv ⊢
    rw [scF_succ f, scF_succ d, ih, hv]
    have z0 : n2 = 0 → scF d n2 = (-1, 0, 0) := fun h => by subst h; rfl
    generalize scF c n1 = A at *
    generalize hB : scF d n2 = B at *
    generalize d n2 = e at *
    obtain ⟨a1, a2, a3⟩ := A
    obtain ⟨b1, b2, b3⟩ := B
    unfold cmb
    dsimp only at *
    by_cases q1 : b1 < 0
    · have hn2 : n2 = 0 := by omega
      have zz := z0 hn2
      simp only [Prod.mk.injEq] at zz
      obtain ⟨rfl, rfl, rfl⟩ := zz
      subst hn2
      simp only [Int.reduceNeg, Int.reduceLT, true_or, if_true]
      by_cases q2 : e < a1
      · rw [if_pos (by omega), if_neg (by omega), if_neg (by omega)]
      · by_cases q3 : e = a1
        · rw [if_neg (by omega), if_pos (by omega), if_neg (by omega), if_pos (by omega)]
        · rw [if_neg (by omega), if_neg (by omega), if_pos (by omega)]
    · by_cases q2 : a1 < b1
      · rw [if_pos (Or.inr q2)]
        by_cases q3 : e < b1
        · rw [if_pos (show b1 < 0 ∨ e < b1 from Or.inr q3)]
          by_cases q4 : e < a1
          · rw [if_pos (by omega), if_neg (by omega), if_neg (by omega)]
          · by_cases q5 : e = a1
            · rw [if_neg (by omega), if_pos q5, if_neg (by omega), if_pos (by omega)]
            · rw [if_neg (by omega), if_neg q5, if_pos (by omega)]
        · rw [if_neg (show ¬ (b1 < 0 ∨ e < b1) by omega), if_neg (show ¬ (a1 < 0 ∨ e < a1) by omega), if_neg (show ¬ e = a1 by omega)]
          by_cases q4 : e = b1
          · rw [if_pos q4, if_pos (by (try dsimp only); omega)]
          · rw [if_neg q4, if_pos (by (try dsimp only); omega)]
      · rw [if_neg (show ¬ (b1 < 0 ∨ a1 < b1) by omega)]
        by_cases q6 : a1 = b1
        · rw [if_pos q6]
          by_cases q3 : e < b1
          · rw [if_pos (show b1 < 0 ∨ e < b1 from Or.inr q3), if_pos (show a1 < 0 ∨ e < a1 by omega), if_neg (by (try dsimp only); omega), if_neg (by (try dsimp only); omega)]
          · rw [if_neg (show ¬ (b1 < 0 ∨ e < b1) by omega), if_neg (show ¬ (a1 < 0 ∨ e < a1) by omega)]
            by_cases q4 : e = b1
            · rw [if_pos q4, if_pos (show e = a1 by omega), if_neg (by (try dsimp only); omega), if_pos (by (try dsimp only); omega)]
              dsimp only; rw [Int.add_assoc]
            · rw [if_neg q4, if_neg (show ¬ e = a1 by omega), if_neg (by (try dsimp only); omega), if_pos (by (try dsimp only); omega)]
        · rw [if_neg q6]
          dsimp only
          by_cases q3 : e < b1
          · rw [if_pos (show b1 < 0 ∨ e < b1 from Or.inr q3), if_pos (show b1 < 0 ∨ e < b1 from Or.inr q3), if_neg (show ¬ (_ ∨ _) by (try dsimp only); omega), if_neg (show ¬ _ = _ by (try dsimp only); omega)]
          · rw [if_neg (show ¬ (b1 < 0 ∨ e < b1) by omega), if_neg (show ¬ (b1 < 0 ∨ e < b1) by omega)]
            by_cases q4 : e = b1
            · rw [if_pos q4, if_pos q4, if_neg (show ¬ (_ ∨ _) by (try dsimp only); omega), if_neg (show ¬ _ = _ by (try dsimp only); omega)]
            · rw [if_neg q4, if_neg q4, if_neg (show ¬ (_ ∨ _) by (try dsimp only); omega), if_neg (show ¬ _ = _ by (try dsimp only); omega)]
def KF (r : Nat → Int) (n : Nat) : Nat → Nat → Nat
  | 0, _ => 0
  | m + 1, s => if legP r (n - (m + 1)) s 0 + EF r n m 0 ≤ legP r (n - (m + 1)) s 1 + EF r n m 1 then KF r n m 0 else 2 ^ m + KF r n m 1
theorem KF_lt (r : Nat → Int) (n : Nat) : ∀ m s : Nat, KF r n m s < 2 ^ m
  | 0, _ => by simp [KF]
  | m + 1, s => by
    have h0 := KF_lt r n m 0; have h1 := KF_lt r n m 1
    simp only [KF]; rw [Nat.pow_succ]; split <;> omega
theorem CF_b {r : Nat → Int} (ho : OkR r) (n : Nat) : ∀ m s k : Nat, 0 ≤ CF r n m s k
  | 0, _, _ => by simp [CF]
  | m + 1, s, k => by have := CF_b ho n m (k / 2 ^ m % 2) (k % 2 ^ m); have := legP_b ho (n - (m + 1)) s (k / 2 ^ m % 2); simp only [CF]; omega
theorem scF_CF {r : Nat → Int} (ho : OkR r) (n : Nat) : ∀ m s : Nat, scF (CF r n m s) (2 ^ m) = (EF r n m s, WF r n m s, KF r n m s)
  | 0, s => by simp [scF, CF, EF, WF, KF]
  | m + 1, s => by
    have hp : 0 < 2 ^ m := Nat.two_pow_pos m
    have i0 := scF_CF ho n m 0; have i1 := scF_CF ho n m 1
    have l0 := legP_b ho (n - (m + 1)) s 0; have l1 := legP_b ho (n - (m + 1)) s 1
    have e0 := EF_b ho n m 0; have e1 := EF_b ho n m 1
    rw [show 2 ^ (m + 1) = 2 ^ m + 2 ^ m by rw [Nat.pow_succ]; omega]
    rw [scF_congr (d := fun k => if k < 2 ^ m then (fun q => legP r (n - (m + 1)) s 0 + CF r n m 0 q) k else (fun q => legP r (n - (m + 1)) s 1 + CF r n m 1 q) (k - 2 ^ m)) _ (fun k hk => ?_)]
    · rw [scF_app (c := fun q => legP r (n - (m + 1)) s 0 + CF r n m 0 q) (d := fun q => legP r (n - (m + 1)) s 1 + CF r n m 1 q) (fun k => by have := CF_b ho n m 0 k; (try dsimp only); omega) (fun k => by have := CF_b ho n m 1 k; (try dsimp only); omega) _ hp]
      rw [scF_shift _ l0.1 (CF_b ho n m 0) _ hp, scF_shift _ l1.1 (CF_b ho n m 1) _ hp, i0, i1]
      unfold cmb
      dsimp only
      simp only [EF, WF, KF]
      by_cases q1 : legP r (n - (m + 1)) s 0 + EF r n m 0 < legP r (n - (m + 1)) s 1 + EF r n m 1
      · rw [if_pos (Or.inr q1), if_pos (show _ ≤ _ by omega), if_neg (show ¬ _ ≤ _ by omega), if_pos (show _ ≤ _ by omega), Int.add_zero, Int.min_eq_left (by omega)]
      · rw [if_neg (show ¬ (_ ∨ _) by omega)]
        by_cases q2 : legP r (n - (m + 1)) s 0 + EF r n m 0 = legP r (n - (m + 1)) s 1 + EF r n m 1
        · rw [if_pos q2, if_pos (show _ ≤ _ by omega), if_pos (show _ ≤ _ by omega), if_pos (show _ ≤ _ by omega), Int.min_eq_left (by omega)]
        · rw [if_neg q2, if_neg (show ¬ _ ≤ _ by omega), if_pos (show _ ≤ _ by omega), if_neg (show ¬ _ ≤ _ by omega), Int.zero_add, Int.min_eq_right (by omega)]
    · dsimp only
      by_cases q : k < 2 ^ m
      · rw [if_pos q]; simp only [CF]; rw [Nat.div_eq_of_lt q, Nat.mod_eq_of_lt q]
      · rw [if_neg q]; simp only [CF]
        have hd : k / 2 ^ m = 1 := by
          apply Nat.div_eq_of_lt_le <;> omega
        rw [hd, show k % 2 ^ m = k - 2 ^ m from by rw [Nat.mod_eq_sub_mod (by omega), Nat.mod_eq_of_lt (by omega)]]
theorem KF_bits {r : Nat → Int} (n : Nat) : ∀ d m : Nat, d + m = n → KF r n n 0 % 2 ^ m = KF r n m (sdF r n d)
  | 0, m, h => by
    have : m = n := by omega
    subst this
    rw [Nat.mod_eq_of_lt (KF_lt r m m 0)]; rfl
  | d + 1, m, h => by
    have ih := KF_bits (r := r) n d (m + 1) (by omega)
    have hp : 0 < 2 ^ m := Nat.two_pow_pos m
    rw [← (mod_top (KF r n n 0) m).2, ih]
    have he : EF r n (m + 1) (sdF r n d) = min (legP r d (sdF r n d) 0 + EF r n m 0) (legP r d (sdF r n d) 1 + EF r n m 1) := by simp only [EF]; rw [show n - (m + 1) = d by omega]
    simp only [KF, sdF]
    rw [show n - (m + 1) = d by omega, show n - (d + 1) = m by omega, show n - d = m + 1 by omega]
    have k0 := KF_lt r n m 0; have k1 := KF_lt r n m 1
    by_cases q : legP r d (sdF r n d) 0 + EF r n m 0 ≤ legP r d (sdF r n d) 1 + EF r n m 1
    · rw [if_pos q, if_pos (by rw [he]; omega), Nat.mod_eq_of_lt k0]
    · rw [if_neg q, if_neg (by rw [he]; omega), Nat.add_mod_left, Nat.mod_eq_of_lt k1]
theorem bsF_sd {r : Nat → Int} (n : Nat) : ∀ p : Nat, p ≤ n → bsF n (KF r n n 0) p = sdF r n p
  | 0, _ => by simp [bsF, sdF]
  | p + 1, h => by
    have hb := KF_bits (r := r) n p (n - p) (by omega)
    have hp : 0 < 2 ^ (n - (p + 1)) := Nat.two_pow_pos _
    unfold bsF bitN
    rw [if_neg (by omega), show n - 1 - (p + 1 - 1) = n - (p + 1) by omega, ← (mod_top (KF r n n 0) (n - (p + 1))).1, show n - (p + 1) + 1 = n - p by omega, hb]
    rw [show n - p = n - (p + 1) + 1 by omega]
    have he : EF r n (n - p) (sdF r n p) = min (legP r p (sdF r n p) 0 + EF r n (n - (p + 1)) 0) (legP r p (sdF r n p) 1 + EF r n (n - (p + 1)) 1) := by
      rw [show n - p = n - (p + 1) + 1 by omega]; simp only [EF]; rw [show n - (n - (p + 1) + 1) = p by omega]
    simp only [KF, sdF]
    rw [show n - (n - (p + 1) + 1) = p by omega]
    have k0 := KF_lt r n (n - (p + 1)) 0; have k1 := KF_lt r n (n - (p + 1)) 1
    by_cases q : legP r p (sdF r n p) 0 + EF r n (n - (p + 1)) 0 ≤ legP r p (sdF r n p) 1 + EF r n (n - (p + 1)) 1
    · rw [if_pos q, if_pos (by rw [he]; omega), Nat.div_eq_of_lt k0]
    · rw [if_neg q, if_neg (by rw [he]; omega), Nat.add_div_left _ hp, Nat.div_eq_of_lt k1]
theorem stF_congr (r : Nat → Int) {f g : Nat → Nat} : ∀ n : Nat, (∀ p : Nat, p ≤ n → f p = g p) → stF r f n = stF r g n
  | 0, _ => rfl
  | n + 1, h => by simp only [stF]; rw [stF_congr r n (fun p hp => h p (by omega)), h n (by omega), h (n + 1) (by omega)]
