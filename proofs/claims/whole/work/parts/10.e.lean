/-! array rows with the place as a natural number -/
section AWidx
variable {Γ : GC} {μ : MI} {pc : Nat} {L : List (Nat × Value)} {st : List Value} {M : Mm} {Q : Int → Mm → Prop}
theorem AW.ialdN (j : Nat) {n k : Nat} {i : Int} {fs : List (Option Nat)} (hd : decode (mb μ) pc = .ok (.iaload, 1)) (hs : sh k = (1, n, fs)) (hj : i = (j : Int)) (h1 : j < n) (hn : n < 2147483648) (kk : AW Γ μ (pc + 1) L (vi (M k j) :: st) M Q) : AW Γ μ pc L (vi i :: rf Γ k :: st) M Q := by
  subst hj
  exact AW.iald hd hs (Int.natCast_nonneg j) (by omega) hn (by rw [Int.toNat_natCast]; exact kk)
theorem AW.iastN (j : Nat) {n k : Nat} {i z : Int} {fs : List (Option Nat)} (hd : decode (mb μ) pc = .ok (.iastore, 1)) (hs : sh k = (1, n, fs)) (hj : i = (j : Int)) (h1 : j < n) (hn : n < 2147483648) (kk : AW Γ μ (pc + 1) L st (up2 M k j z) Q) : AW Γ μ pc L (vi z :: vi i :: rf Γ k :: st) M Q := by
  subst hj
  exact AW.iast hd hs (Int.natCast_nonneg j) (by omega) hn (by rw [Int.toNat_natCast]; exact kk)
theorem AW.laldN (j : Nat) {n k : Nat} {i : Int} {fs : List (Option Nat)} (hd : decode (mb μ) pc = .ok (.laload, 1)) (hs : sh k = (2, n, fs)) (hj : i = (j : Int)) (h1 : j < n) (hn : n < 2147483648) (kk : AW Γ μ (pc + 1) L (vl (M k j) :: st) M Q) : AW Γ μ pc L (vi i :: rf Γ k :: st) M Q := by
  subst hj
  exact AW.lald hd hs (Int.natCast_nonneg j) (by omega) hn (by rw [Int.toNat_natCast]; exact kk)
theorem AW.lastN (j : Nat) {n k : Nat} {i z : Int} {fs : List (Option Nat)} (hd : decode (mb μ) pc = .ok (.lastore, 1)) (hs : sh k = (2, n, fs)) (hj : i = (j : Int)) (h1 : j < n) (hn : n < 2147483648) (kk : AW Γ μ (pc + 1) L st (up2 M k j z) Q) : AW Γ μ pc L (vl z :: vi i :: rf Γ k :: st) M Q := by
  subst hj
  exact AW.last hd hs (Int.natCast_nonneg j) (by omega) hn (by rw [Int.toNat_natCast]; exact kk)
theorem AW.taldLN (j : Nat) {i : Int} (hd : decode (mb μ) pc = .ok (.iaload, 1)) (hj : i = (j : Int)) (h1 : j < 27) (kk : AW Γ μ (pc + 1) L (vi (tl j) :: st) M Q) : AW Γ μ pc L (vi i :: .ref (gtL Γ) :: st) M Q := by
  subst hj
  exact AW.taldL hd (Int.natCast_nonneg j) (by omega) (by rw [Int.toNat_natCast]; exact kk)
theorem AW.taldGN (j : Nat) {i : Int} (hd : decode (mb μ) pc = .ok (.iaload, 1)) (hj : i = (j : Int)) (h1 : j < 27) (kk : AW Γ μ (pc + 1) L (vi (tg j) :: st) M Q) : AW Γ μ pc L (vi i :: .ref (gtG Γ) :: st) M Q := by
  subst hj
  exact AW.taldG hd (Int.natCast_nonneg j) (by omega) (by rw [Int.toNat_natCast]; exact kk)
/-- the memory, under another name that is the same -/
theorem AW.toM {M' : Mm} (h : M = M') (k : AW Γ μ pc L st M' Q) : AW Γ μ pc L st M Q := h ▸ k
end AWidx
