/-! Math.min, Math.max -/
section AWmath
variable {Γ : GC} {μ : MI} {pc : Nat} {L : List (Nat × Value)} {st : List Value} {M : Mm} {Q : Int → Mm → Prop}
theorem AW.mmin {idx : Nat} {a b : Int} (hd : decode (mb μ) pc = .ok (.invokestatic idx, 3)) (hM : MS (my μ).cls idx uJ9_min_7cf53 2) (ha : -2147483648 ≤ a ∧ a < 2147483648) (hb : -2147483648 ≤ b ∧ b < 2147483648) (hf : 1 ≤ mf μ) (hw : (st.map fun v => v.category).sum + 13 ≤ mo μ) (kk : AW Γ μ (pc + 3) L (vi (min a b) :: st) M Q) : AW Γ μ pc L (vi b :: vi a :: st) M Q := by
  intro p e s m args below meth c H locs ls C hP hS hl
  obtain ⟨h1, h2, h3, h4, h5⟩ := hM
  refine va_mmin C.1 C.2.1 (C.2.2.2.1.trans hl.1.symm) C.own (C.ts _ h1) (C.ts _ h2) (C.ts _ h3) (C.ts _ h4) hf hw (Nat.le_refl 0) (Nat.le_refl 0) hd ?_
  have e9 : (if Int32.ofInt b < Int32.ofInt a then Int32.ofInt b else Int32.ofInt a) = Int32.ofInt (min a b) := by
    simp only [i32_lt hb ha]
    split
    · congr 1; omega
    · congr 1; omega
  rw [e9]
  exact kk p e s m args below meth c H locs ls C hP hS hl
theorem AW.mmax {idx : Nat} {a b : Int} (hd : decode (mb μ) pc = .ok (.invokestatic idx, 3)) (hM : MS (my μ).cls idx uJ9_max_7cf53 2) (ha : -2147483648 ≤ a ∧ a < 2147483648) (hb : -2147483648 ≤ b ∧ b < 2147483648) (hf : 1 ≤ mf μ) (hw : (st.map fun v => v.category).sum + 13 ≤ mo μ) (kk : AW Γ μ (pc + 3) L (vi (max a b) :: st) M Q) : AW Γ μ pc L (vi b :: vi a :: st) M Q := by
  intro p e s m args below meth c H locs ls C hP hS hl
  obtain ⟨h1, h2, h3, h4, h5⟩ := hM
  refine va_mmax C.1 C.2.1 (C.2.2.2.1.trans hl.1.symm) C.own (C.ts _ h1) (C.ts _ h2) (C.ts _ h3) (C.ts _ h4) hf hw (Nat.le_refl 0) (Nat.le_refl 0) hd ?_
  have e9 : (if Int32.ofInt a < Int32.ofInt b then Int32.ofInt b else Int32.ofInt a) = Int32.ofInt (max a b) := by
    simp only [i32_lt ha hb]
    split
    · congr 1; omega
    · congr 1; omega
  rw [e9]
  exact kk p e s m args below meth c H locs ls C hP hS hl
end AWmath
