/-! the cells as the makers leave them -/
def m0z : Nat → Int := fun _ => 0
def m0st : Nat → Int := fun j => ([0, 0, 0, 0, 0, 1, 1, 1] : List Int).getD j 0
def m0si : Nat → Int := fun j => ([0, 0, 0, -4, 0, 0] : List Int).getD j 0
def m0od : Nat → Int := fun j => ([0, 0, 0, 0, 1] : List Int).getD j 0
def m0mo : Nat → Int := fun j => ([0, 0, 0, 0, 0, 0, 0, 0, 0, 0, 0, 0, 0, 0, 0, 0, 0, 0, 0, 0, 0, -1, 0, 0, 0, 0] : List Int).getD j 0
def m0T : List (Nat → Int) := [m0z, m0st, m0z, m0z, m0z, m0z, m0z, m0st, m0z, m0z, m0z, m0st, m0z, m0z, m0z, m0st, m0z, m0z, m0z, m0st, m0z, m0z, m0z, m0st, m0z, m0z, m0z, m0st, m0z, m0z, m0z, m0st, m0z, m0z, m0z, m0z, m0z, m0st, m0z, m0z, m0z, m0st, m0z, m0z, m0z, m0st, m0z, m0z, m0z, m0st, m0z, m0z, m0z, m0st, m0z, m0z, m0z, m0st, m0z, m0z, m0z, m0st, m0z, m0z, m0z, m0z, m0z, m0z, m0z, m0z, m0z, m0z, m0z, m0z, m0z, m0z, m0si, m0z, m0z, m0od, m0z, m0z, m0z, m0z, m0z, m0z, m0z, m0z, m0z, m0z, m0z, m0z, m0z, m0z, m0mo, sgF, nwF, m0z, m0z, m0z, m0z, m0z, m0z, m0z, m0z, laF, m0z, m0z, m0z]
def m0 : Mm := fun k => m0T.getD k m0z
def adT (h : Nat) (b : Nat → Nat) (a : Nat → Nat → Nat) (g : Nat) (x : Nat → Nat) : List Nat := [h, b 1, a 1 1, a 1 2, a 1 3, b 2, a 2 1, a 2 2, a 2 3, a 2 4, a 2 5, a 2 6, a 2 7, a 2 8, a 2 9, a 2 10, a 2 11, a 2 12, a 2 13, a 2 14, a 2 15, a 2 16, a 2 17, a 2 18, a 2 19, a 2 20, a 2 21, a 2 22, a 2 23, a 2 24, a 2 25, b 3, a 3 1, a 3 2, a 3 3, b 4, a 4 1, a 4 2, a 4 3, a 4 4, a 4 5, a 4 6, a 4 7, a 4 8, a 4 9, a 4 10, a 4 11, a 4 12, a 4 13, a 4 14, a 4 15, a 4 16, a 4 17, a 4 18, a 4 19, a 4 20, a 4 21, a 4 22, a 4 23, a 4 24, a 4 25, b 5, a 5 1, a 5 2, a 5 3, b 6, a 6 1, a 6 2, a 6 3, a 6 4, a 6 5, b 7, a 7 1, a 7 2, a 7 3, a 7 4, b 8, a 8 1, a 8 2, b 9, a 9 1, a 9 2, a 9 3, b 10, a 10 1, b 11, b 12, a 12 1, b 13, a 13 1, b 14, a 14 1, b 15, a 15 1, g, x 1, x 2, x 3, x 4, x 5, x 6, x 7, x 8, x 9, x 10, x 11, x 12, x 13, x 14]
def adF (h : Nat) (b : Nat → Nat) (a : Nat → Nat → Nat) (g : Nat) (x : Nat → Nat) : Nat → Nat := fun k => (adT h b a g x).getD k 0
def mkE2 (Γ : GC) (q : Sh) (f : Nat → Int) : va_E := match q with
  | (0, ci, fs) => .inr (ci, mkF (gad Γ) f 0 fs)
  | (1, n, _) => .inl (gC Γ 0, n, .inl (fun j => Int32.ofInt (f j)))
  | (2, n, _) => .inl (gC Γ 1, n, .inr (.inl (fun j => Int64.ofInt (f j))))
  | (_, t, fs) => .inl (gC Γ t, fs.length, .inr (.inr (.inr (.inr (fun j => (fs.map (fun q => q.map (gad Γ))).getD j none)))))
theorem getD_mapq (ad : Nat → Nat) (fs : List (Option Nat)) : (fun j => (fs.getD j none).map ad) = fun j => (fs.map (fun q => q.map ad)).getD j none := by
  funext j
  simp only [List.getD_eq_getElem?_getD, List.getElem?_map]
  cases fs[j]? <;> rfl
theorem mkE_2 (Γ : GC) (q : Sh) (f : Nat → Int) : mkE Γ q f = mkE2 Γ q f := by
  unfold mkE mkE2
  split
  · rfl
  · rfl
  · rfl
  · simp only [getD_mapq]
theorem cells_2 (Γ : GC) (M : Mm) : cells Γ M = (List.range NC).map (fun k => (gad Γ k, mkE2 Γ (sh k) (M k))) := by
  unfold cells; simp only [mkE_2]
theorem range_cut : List.range NC = [0] ++ (((((((((((([] ++ [1, 2, 3, 4]) ++ [5, 6, 7, 8, 9, 10, 11, 12, 13, 14, 15, 16, 17, 18, 19, 20, 21, 22, 23, 24, 25, 26, 27, 28, 29, 30]) ++ [31, 32, 33, 34]) ++ [35, 36, 37, 38, 39, 40, 41, 42, 43, 44, 45, 46, 47, 48, 49, 50, 51, 52, 53, 54, 55, 56, 57, 58, 59, 60]) ++ [61, 62, 63, 64]) ++ [65, 66, 67, 68, 69, 70]) ++ [71, 72, 73, 74, 75]) ++ [76, 77, 78]) ++ [79, 80, 81, 82]) ++ [83, 84]) ++ [85]) ++ ((([86, 87] ++ [88, 89]) ++ [90, 91]) ++ [92, 93])) ++ [94, 95, 96, 97, 98, 99, 100, 101, 102, 103, 104, 105, 106, 107, 108] := by decide
set_option maxRecDepth 20000 in
theorem ch_0 (l : Launch) (B : Nat) (D : va_G) (C : Nat → ClassId) (tL tG h : Nat) (b : Nat → Nat) (a : Nat → Nat → Nat) (g : Nat) (x : Nat → Nat) : ([0] : List Nat).map (fun k => (gad (l, B, D, C, tL, tG, adF h b a g x) k, mkE2 (l, B, D, C, tL, tG, adF h b a g x) (sh k) (m0 k))) = [(h, .inr (8, [.ref (b 1), .ref (b 2), .ref (b 3), .ref (b 4), vi 0, .ref (b 5), .ref (b 6), .ref (b 7), .ref (b 8), .ref (b 9), .ref (b 10), .ref (b 11)]))] := rfl
set_option maxRecDepth 20000 in
theorem ch_1 (l : Launch) (B : Nat) (D : va_G) (C : Nat → ClassId) (tL tG h : Nat) (b : Nat → Nat) (a : Nat → Nat → Nat) (g : Nat) (x : Nat → Nat) : ([1, 2, 3, 4] : List Nat).map (fun k => (gad (l, B, D, C, tL, tG, adF h b a g x) k, mkE2 (l, B, D, C, tL, tG, adF h b a g x) (sh k) (m0 k))) = wL5 C (b 1) (a 1) := rfl
set_option maxRecDepth 20000 in
theorem ch_5 (l : Launch) (B : Nat) (D : va_G) (C : Nat → ClassId) (tL tG h : Nat) (b : Nat → Nat) (a : Nat → Nat → Nat) (g : Nat) (x : Nat → Nat) : ([5, 6, 7, 8, 9, 10, 11, 12, 13, 14, 15, 16, 17, 18, 19, 20, 21, 22, 23, 24, 25, 26, 27, 28, 29, 30] : List Nat).map (fun k => (gad (l, B, D, C, tL, tG, adF h b a g x) k, mkE2 (l, B, D, C, tL, tG, adF h b a g x) (sh k) (m0 k))) = wL2 C (b 2) (a 2) := rfl
set_option maxRecDepth 20000 in
theorem ch_31 (l : Launch) (B : Nat) (D : va_G) (C : Nat → ClassId) (tL tG h : Nat) (b : Nat → Nat) (a : Nat → Nat → Nat) (g : Nat) (x : Nat → Nat) : ([31, 32, 33, 34] : List Nat).map (fun k => (gad (l, B, D, C, tL, tG, adF h b a g x) k, mkE2 (l, B, D, C, tL, tG, adF h b a g x) (sh k) (m0 k))) = wL5 C (b 3) (a 3) := rfl
set_option maxRecDepth 20000 in
theorem ch_35 (l : Launch) (B : Nat) (D : va_G) (C : Nat → ClassId) (tL tG h : Nat) (b : Nat → Nat) (a : Nat → Nat → Nat) (g : Nat) (x : Nat → Nat) : ([35, 36, 37, 38, 39, 40, 41, 42, 43, 44, 45, 46, 47, 48, 49, 50, 51, 52, 53, 54, 55, 56, 57, 58, 59, 60] : List Nat).map (fun k => (gad (l, B, D, C, tL, tG, adF h b a g x) k, mkE2 (l, B, D, C, tL, tG, adF h b a g x) (sh k) (m0 k))) = wL2 C (b 4) (a 4) := rfl
set_option maxRecDepth 20000 in
theorem ch_61 (l : Launch) (B : Nat) (D : va_G) (C : Nat → ClassId) (tL tG h : Nat) (b : Nat → Nat) (a : Nat → Nat → Nat) (g : Nat) (x : Nat → Nat) : ([61, 62, 63, 64] : List Nat).map (fun k => (gad (l, B, D, C, tL, tG, adF h b a g x) k, mkE2 (l, B, D, C, tL, tG, adF h b a g x) (sh k) (m0 k))) = wL5 C (b 5) (a 5) := rfl
set_option maxRecDepth 20000 in
theorem ch_65 (l : Launch) (B : Nat) (D : va_G) (C : Nat → ClassId) (tL tG h : Nat) (b : Nat → Nat) (a : Nat → Nat → Nat) (g : Nat) (x : Nat → Nat) : ([65, 66, 67, 68, 69, 70] : List Nat).map (fun k => (gad (l, B, D, C, tL, tG, adF h b a g x) k, mkE2 (l, B, D, C, tL, tG, adF h b a g x) (sh k) (m0 k))) = wL7 C (b 6) (a 6) := rfl
set_option maxRecDepth 20000 in
theorem ch_71 (l : Launch) (B : Nat) (D : va_G) (C : Nat → ClassId) (tL tG h : Nat) (b : Nat → Nat) (a : Nat → Nat → Nat) (g : Nat) (x : Nat → Nat) : ([71, 72, 73, 74, 75] : List Nat).map (fun k => (gad (l, B, D, C, tL, tG, adF h b a g x) k, mkE2 (l, B, D, C, tL, tG, adF h b a g x) (sh k) (m0 k))) = wL3 C (b 7) (a 7) := rfl
set_option maxRecDepth 20000 in
theorem ch_76 (l : Launch) (B : Nat) (D : va_G) (C : Nat → ClassId) (tL tG h : Nat) (b : Nat → Nat) (a : Nat → Nat → Nat) (g : Nat) (x : Nat → Nat) : ([76, 77, 78] : List Nat).map (fun k => (gad (l, B, D, C, tL, tG, adF h b a g x) k, mkE2 (l, B, D, C, tL, tG, adF h b a g x) (sh k) (m0 k))) = wL4 C (b 8) (a 8) := rfl
set_option maxRecDepth 20000 in
theorem ch_79 (l : Launch) (B : Nat) (D : va_G) (C : Nat → ClassId) (tL tG h : Nat) (b : Nat → Nat) (a : Nat → Nat → Nat) (g : Nat) (x : Nat → Nat) : ([79, 80, 81, 82] : List Nat).map (fun k => (gad (l, B, D, C, tL, tG, adF h b a g x) k, mkE2 (l, B, D, C, tL, tG, adF h b a g x) (sh k) (m0 k))) = wL0 C (b 9) (a 9) := rfl
set_option maxRecDepth 20000 in
theorem ch_83 (l : Launch) (B : Nat) (D : va_G) (C : Nat → ClassId) (tL tG h : Nat) (b : Nat → Nat) (a : Nat → Nat → Nat) (g : Nat) (x : Nat → Nat) : ([83, 84] : List Nat).map (fun k => (gad (l, B, D, C, tL, tG, adF h b a g x) k, mkE2 (l, B, D, C, tL, tG, adF h b a g x) (sh k) (m0 k))) = wL6 C (b 10) (a 10) := rfl
set_option maxRecDepth 20000 in
theorem ch_86 (l : Launch) (B : Nat) (D : va_G) (C : Nat → ClassId) (tL tG h : Nat) (b : Nat → Nat) (a : Nat → Nat → Nat) (g : Nat) (x : Nat → Nat) : ([86, 87] : List Nat).map (fun k => (gad (l, B, D, C, tL, tG, adF h b a g x) k, mkE2 (l, B, D, C, tL, tG, adF h b a g x) (sh k) (m0 k))) = wL1 C (b 12) (a 12) := rfl
set_option maxRecDepth 20000 in
theorem ch_88 (l : Launch) (B : Nat) (D : va_G) (C : Nat → ClassId) (tL tG h : Nat) (b : Nat → Nat) (a : Nat → Nat → Nat) (g : Nat) (x : Nat → Nat) : ([88, 89] : List Nat).map (fun k => (gad (l, B, D, C, tL, tG, adF h b a g x) k, mkE2 (l, B, D, C, tL, tG, adF h b a g x) (sh k) (m0 k))) = wL1 C (b 13) (a 13) := rfl
set_option maxRecDepth 20000 in
theorem ch_90 (l : Launch) (B : Nat) (D : va_G) (C : Nat → ClassId) (tL tG h : Nat) (b : Nat → Nat) (a : Nat → Nat → Nat) (g : Nat) (x : Nat → Nat) : ([90, 91] : List Nat).map (fun k => (gad (l, B, D, C, tL, tG, adF h b a g x) k, mkE2 (l, B, D, C, tL, tG, adF h b a g x) (sh k) (m0 k))) = wL1 C (b 14) (a 14) := rfl
set_option maxRecDepth 20000 in
theorem ch_92 (l : Launch) (B : Nat) (D : va_G) (C : Nat → ClassId) (tL tG h : Nat) (b : Nat → Nat) (a : Nat → Nat → Nat) (g : Nat) (x : Nat → Nat) : ([92, 93] : List Nat).map (fun k => (gad (l, B, D, C, tL, tG, adF h b a g x) k, mkE2 (l, B, D, C, tL, tG, adF h b a g x) (sh k) (m0 k))) = wL1 C (b 15) (a 15) := rfl
set_option maxRecDepth 20000 in
theorem ch_85 (l : Launch) (B : Nat) (D : va_G) (C : Nat → ClassId) (tL tG h : Nat) (b : Nat → Nat) (a : Nat → Nat → Nat) (g : Nat) (x : Nat → Nat) : ([85] : List Nat).map (fun k => (gad (l, B, D, C, tL, tG, adF h b a g x) k, mkE2 (l, B, D, C, tL, tG, adF h b a g x) (sh k) (m0 k))) = [(b 11, .inl (C 3, 4, .inr (.inr (.inr (.inr (fun j => ([some (b 12), some (b 13), some (b 14), some (b 15)] : List (Option Nat)).getD j none))))))] := rfl
set_option maxRecDepth 20000 in
theorem ch_94 (l : Launch) (B : Nat) (D : va_G) (C : Nat → ClassId) (tL tG h : Nat) (b : Nat → Nat) (a : Nat → Nat → Nat) (g : Nat) (x : Nat → Nat) : ([94, 95, 96, 97, 98, 99, 100, 101, 102, 103, 104, 105, 106, 107, 108] : List Nat).map (fun k => (gad (l, B, D, C, tL, tG, adF h b a g x) k, mkE2 (l, B, D, C, tL, tG, adF h b a g x) (sh k) (m0 k))) = wL9 C g x := rfl
theorem cells_m0 (l : Launch) (B : Nat) (D : va_G) (C : Nat → ClassId) (tL tG h : Nat) (b : Nat → Nat) (a : Nat → Nat → Nat) (g : Nat) (x : Nat → Nat) : cells (l, B, D, C, tL, tG, adF h b a g x) m0 = wL8 C h b a ++ wL9 C g x := by
  rw [cells_2, range_cut]
  simp only [List.map_append, ch_0, ch_1, ch_5, ch_31, ch_35, ch_61, ch_65, ch_71, ch_76, ch_79, ch_83, ch_85, ch_86, ch_88, ch_90, ch_92, ch_94]
  rfl
theorem inv_m0 : Inv m0 := by
  refine ⟨⟨⟨rfl, rfl, rfl, rfl, rfl, fun i hi => ?_, fun w hw => ?_⟩, ⟨by decide, by decide, by decide, by decide, by decide, fun i hi => ?_, fun w hw => ?_⟩⟩, ⟨rfl, by decide, by decide, fun j hj => ?_⟩, Or.inl ⟨rfl, rfl⟩, ⟨rfl, by decide, fun j hj => ?_⟩, ⟨fun s hs => ?_, fun s hs => ?_⟩, fun j hj => ?_, rfl, rfl⟩
  · have : m0 96 0 = 0 := rfl
    omega
  · have : m0 96 1 = 0 := rfl
    omega
  · have : m0 96 0 = 0 := rfl
    omega
  · have : m0 96 1 = 0 := rfl
    omega
  · have : m0 94 18 = 0 := rfl
    omega
  · have : m0 94 14 = 0 := rfl
    omega
  · rcases (show s = 0 ∨ s = 1 ∨ s = 2 ∨ s = 3 by omega) with rfl | rfl | rfl | rfl <;> exact Or.inr ⟨rfl, rfl⟩
  · rcases (show s = 0 ∨ s = 1 ∨ s = 2 ∨ s = 3 by omega) with rfl | rfl | rfl | rfl <;> decide
  · revert j
    decide
