/-! the class's deeds that may be undone -/
theorem st1 : St 1 := ⟨rfl, rfl, rfl, rfl⟩
theorem st31 : St 31 := ⟨rfl, rfl, rfl, rfl⟩
theorem st61 : St 61 := ⟨rfl, rfl, rfl, rfl⟩
theorem pa5 : Pa 5 := ⟨rfl, rfl, fun q hq => by rcases (show q = 0 ∨ q = 1 ∨ q = 2 ∨ q = 3 ∨ q = 4 ∨ q = 5 by omega) with rfl | rfl | rfl | rfl | rfl | rfl <;> exact ⟨rfl, rfl, rfl, rfl⟩⟩
theorem pa35 : Pa 35 := ⟨rfl, rfl, fun q hq => by rcases (show q = 0 ∨ q = 1 ∨ q = 2 ∨ q = 3 ∨ q = 4 ∨ q = 5 by omega) with rfl | rfl | rfl | rfl | rfl | rfl <;> exact ⟨rfl, rfl, rfl, rfl⟩⟩
def xP (M M' : Mm) (z : Int) (r' : Nat → Int) (u : Int) (A r : Nat → Int) : Prop := stRel M' 1 r' ∧ pastRel M' 5 (if 0 ≤ z then nxU u else u) (if 0 ≤ z then ntA A r u else A) ∧ ∀ a : Nat, (a < 1 ∨ (30 < a ∧ a < 61) ∨ 64 < a) → M' a = M a

theorem C_kid (Γ : GC) (M : Mm) (v : Int) (hv : R32 v) (h1 : 0 ≤ M 5 1 ∧ M 5 1 < 6) (h2 : 0 ≤ M 5 2 ∧ M 5 2 ≤ 6) : Ct Γ uX8_knownIfDone [rf Γ 0, vi v] M (fun z M' => z = v ∧ offR 5 30 M M' ∧ (v < 0 → M' = M) ∧ (0 ≤ v → ∀ u A r, pastRel M 5 u A → OkR r → stRel M 61 r → pastRel M' 5 (nxU u) (ntA A r u))) := by
  refine Ct.of (by decide) (Nat.le_of_ble_eq_true rfl) ?_
  show AW Γ uX8_knownIfDone 0 [(0, rf Γ 0), (1, vi v)] [] M _
  refine AW.iload_n dX8_knownIfDone_0 1 rfl rfl ?_
  refine AW.if_lt 15 dX8_knownIfDone_1 (by decide) (by omega) (fun c1 => ?_) (fun c1 => ?_)
  · refine AW.iload_n dX8_knownIfDone_15 1 rfl rfl ?_
    exact AW.iret rfl dX8_knownIfDone_16 ⟨rfl, fun a _ => rfl, fun _ => rfl, fun q => absurd q (by omega)⟩
  · refine AW.aload_n dX8_knownIfDone_4 0 rfl rfl ?_
    refine AW.getR dX8_knownIfDone_5 fl_X8_19 (show sh 0 = (0, 8, [some 1, some 5, some 31, some 35, none, some 61, some 65, some 71, some 76, some 79, some 83, some 85]) from rfl) rfl ?_
    refine AW.aload_n dX8_knownIfDone_8 0 rfl rfl ?_
    refine AW.getR dX8_knownIfDone_9 fl_X8_33 (show sh 0 = (0, 8, [some 1, some 5, some 31, some 35, none, some 61, some 65, some 71, some 76, some 79, some 83, some 85]) from rfl) rfl ?_
    refine AW.callV1v (C_padd Γ M 5 61 pa5 st61 (by decide) h1 h2) dX8_knownIfDone_12 mc_X8_236 (show sh 5 = (0, 2, [some 6, none, none]) from rfl) (fun _ => rfl) ⟨Nat.le_of_ble_eq_true rfl, Nat.le_of_ble_eq_true rfl⟩ (Nat.le_of_ble_eq_true rfl) (fun z12 M12 h12 => ?_)
    obtain ⟨f12, r12⟩ := h12
    refine AW.iload_n dX8_knownIfDone_15 1 rfl rfl ?_
    exact AW.iret rfl dX8_knownIfDone_16 ⟨rfl, f12, fun q => absurd q (by omega), fun _ => r12⟩

theorem xP_of {M M1 M2 M3 : Mm} {z u : Int} {r r' A : Nat → Int} (ho : OkR r) (hp : pastRel M 5 u A) (f1 : off4 61 M M1) (f2 : off4 1 M1 M2) (s61 : stRel M1 61 r) (s1 : stRel M2 1 r') (f3 : offR 5 30 M2 M3) (n3 : z < 0 → M3 = M2) (y3 : 0 ≤ z → ∀ u A r, pastRel M2 5 u A → OkR r → stRel M2 61 r → pastRel M3 5 (nxU u) (ntA A r u)) : xP M M3 z r' u A r := by
  have hp2 : pastRel M2 5 u A := hp.frame (fun a h1 h2 => by rw [f2 a (by omega), f1 a (by omega)])
  have s61' : stRel M2 61 r := s61.off f2 (by omega)
  refine ⟨s1.frame (f3 _ (by omega)) (f3 _ (by omega)) (f3 _ (by omega)) (f3 _ (by omega)), ?_, fun a ha => by rw [f3 a (by omega), f2 a (by omega), f1 a (by omega)]⟩
  by_cases hz : 0 ≤ z
  · rw [if_pos hz, if_pos hz]; exact y3 hz u A r hp2 ho s61'
  · rw [if_neg hz, if_neg hz, n3 (by omega)]; exact hp2

set_option maxRecDepth 20000 in
theorem C_say (Γ : GC) (M : Mm) (r A : Nat → Int) (u : Int) (ho : OkR r) (hr : stRel M 1 r) (hp : pastRel M 5 u A) (c : Int) (hc : R32 c) : Ct Γ uX8_say [rf Γ 0, vi c] M (fun z M' => z = sayZ r c ∧ xP M M' (sayZ r c) (sayR r c) u A r) := by
  refine Ct.of (by decide) (Nat.le_of_ble_eq_true rfl) ?_
  show AW Γ uX8_say 0 [(0, rf Γ 0), (1, vi c)] [] M _
  refine AW.aload_n dX8_say_0 0 rfl rfl ?_
  refine AW.getR dX8_say_1 fl_X8_33 (show sh 0 = (0, 8, [some 1, some 5, some 31, some 35, none, some 61, some 65, some 71, some 76, some 79, some 83, some 85]) from rfl) rfl ?_
  refine AW.aload_n dX8_say_4 0 rfl rfl ?_
  refine AW.getR dX8_say_5 fl_X8_10 (show sh 0 = (0, 8, [some 1, some 5, some 31, some 35, none, some 61, some 65, some 71, some 76, some 79, some 83, some 85]) from rfl) rfl ?_
  refine AW.callV1v (C_become Γ M 61 1 st61 st1 (by decide)) dX8_say_8 mc_X8_108 (show sh 61 = (0, 5, [some 62, none, some 63, some 64, none, none, none, none]) from rfl) (fun _ => rfl) ⟨Nat.le_of_ble_eq_true rfl, Nat.le_of_ble_eq_true rfl⟩ (Nat.le_of_ble_eq_true rfl) (fun z8 M8 h8 => ?_)
  obtain ⟨f8, r8⟩ := h8
  have s8 : stRel M8 1 r := hr.off f8 (by omega)
  refine AW.aload_n dX8_say_11 0 rfl rfl ?_
  refine AW.aload_n dX8_say_12 0 rfl rfl ?_
  refine AW.getR dX8_say_13 fl_X8_10 (show sh 0 = (0, 8, [some 1, some 5, some 31, some 35, none, some 61, some 65, some 71, some 76, some 79, some 83, some 85]) from rfl) rfl ?_
  refine AW.iload_n dX8_say_16 1 rfl rfl ?_
  refine AW.callV1i (C_addLetter Γ _ 1 st1 r ho s8 _ hc) dX8_say_17 mc_X8_112 (show sh 1 = (0, 5, [some 2, none, some 3, some 4, none, none, none, none]) from rfl) (fun _ => rfl) ⟨Nat.le_of_ble_eq_true rfl, Nat.le_of_ble_eq_true rfl⟩ (Nat.le_of_ble_eq_true rfl) (fun z17 M17 h17 => ?_)
  obtain ⟨e17, f17, s17⟩ := h17
  have q17 : M17 5 = M 5 := by rw [f17 5 (by omega), f8 5 (by omega)]
  refine AW.callV1i (C_kid Γ _ _ (by rw [e17]; exact sayZ_r ho c) (by rw [q17]; exact hp.2.2.1) (by rw [q17, hp.1]; exact hp.2.1)) dX8_say_20 mc_X8_115 (show sh 0 = (0, 8, [some 1, some 5, some 31, some 35, none, some 61, some 65, some 71, some 76, some 79, some 83, some 85]) from rfl) (fun _ => rfl) ⟨Nat.le_of_ble_eq_true rfl, Nat.le_of_ble_eq_true rfl⟩ (Nat.le_of_ble_eq_true rfl) (fun z20 M20 h20 => ?_)
  obtain ⟨e20, f20, n20, y20⟩ := h20
  subst e20
  exact AW.iret rfl dX8_say_23 ⟨e17, by rw [← e17]; exact xP_of ho hp f8 f17 (r8 r ho hr) s17 f20 n20 y20⟩

set_option maxRecDepth 20000 in
theorem C_back (Γ : GC) (M : Mm) (r A : Nat → Int) (u : Int) (ho : OkR r) (hr : stRel M 1 r) (hp : pastRel M 5 u A)  : Ct Γ uX8_back [rf Γ 0] M (fun z M' => z = backZ r ∧ xP M M' (backZ r) (backR r) u A r) := by
  refine Ct.of (by decide) (Nat.le_of_ble_eq_true rfl) ?_
  show AW Γ uX8_back 0 [(0, rf Γ 0)] [] M _
  refine AW.aload_n dX8_back_0 0 rfl rfl ?_
  refine AW.getR dX8_back_1 fl_X8_33 (show sh 0 = (0, 8, [some 1, some 5, some 31, some 35, none, some 61, some 65, some 71, some 76, some 79, some 83, some 85]) from rfl) rfl ?_
  refine AW.aload_n dX8_back_4 0 rfl rfl ?_
  refine AW.getR dX8_back_5 fl_X8_10 (show sh 0 = (0, 8, [some 1, some 5, some 31, some 35, none, some 61, some 65, some 71, some 76, some 79, some 83, some 85]) from rfl) rfl ?_
  refine AW.callV1v (C_become Γ M 61 1 st61 st1 (by decide)) dX8_back_8 mc_X8_108 (show sh 61 = (0, 5, [some 62, none, some 63, some 64, none, none, none, none]) from rfl) (fun _ => rfl) ⟨Nat.le_of_ble_eq_true rfl, Nat.le_of_ble_eq_true rfl⟩ (Nat.le_of_ble_eq_true rfl) (fun z8 M8 h8 => ?_)
  obtain ⟨f8, r8⟩ := h8
  have s8 : stRel M8 1 r := hr.off f8 (by omega)
  refine AW.aload_n dX8_back_11 0 rfl rfl ?_
  refine AW.aload_n dX8_back_12 0 rfl rfl ?_
  refine AW.getR dX8_back_13 fl_X8_10 (show sh 0 = (0, 8, [some 1, some 5, some 31, some 35, none, some 61, some 65, some 71, some 76, some 79, some 83, some 85]) from rfl) rfl ?_
  refine AW.callV0i (C_takeLetter Γ _ 1 st1 r ho s8 ) dX8_back_16 mc_X8_118 (show sh 1 = (0, 5, [some 2, none, some 3, some 4, none, none, none, none]) from rfl) (fun _ => rfl) ⟨Nat.le_of_ble_eq_true rfl, Nat.le_of_ble_eq_true rfl⟩ (Nat.le_of_ble_eq_true rfl) (fun z16 M16 h16 => ?_)
  obtain ⟨e16, f16, s16⟩ := h16
  have q16 : M16 5 = M 5 := by rw [f16 5 (by omega), f8 5 (by omega)]
  refine AW.callV1i (C_kid Γ _ _ (by rw [e16]; exact backZ_r ho ) (by rw [q16]; exact hp.2.2.1) (by rw [q16, hp.1]; exact hp.2.1)) dX8_back_19 mc_X8_115 (show sh 0 = (0, 8, [some 1, some 5, some 31, some 35, none, some 61, some 65, some 71, some 76, some 79, some 83, some 85]) from rfl) (fun _ => rfl) ⟨Nat.le_of_ble_eq_true rfl, Nat.le_of_ble_eq_true rfl⟩ (Nat.le_of_ble_eq_true rfl) (fun z19 M19 h19 => ?_)
  obtain ⟨e19, f19, n19, y19⟩ := h19
  subst e19
  exact AW.iret rfl dX8_back_22 ⟨e16, by rw [← e16]; exact xP_of ho hp f8 f16 (r8 r ho hr) s16 f19 n19 y19⟩

set_option maxRecDepth 20000 in
theorem C_keep (Γ : GC) (M : Mm) (r A : Nat → Int) (u : Int) (ho : OkR r) (hr : stRel M 1 r) (hp : pastRel M 5 u A)  : Ct Γ uX8_keep [rf Γ 0] M (fun z M' => z = keepZ r ∧ xP M M' (keepZ r) (keepR r) u A r) := by
  refine Ct.of (by decide) (Nat.le_of_ble_eq_true rfl) ?_
  show AW Γ uX8_keep 0 [(0, rf Γ 0)] [] M _
  refine AW.aload_n dX8_keep_0 0 rfl rfl ?_
  refine AW.getR dX8_keep_1 fl_X8_33 (show sh 0 = (0, 8, [some 1, some 5, some 31, some 35, none, some 61, some 65, some 71, some 76, some 79, some 83, some 85]) from rfl) rfl ?_
  refine AW.aload_n dX8_keep_4 0 rfl rfl ?_
  refine AW.getR dX8_keep_5 fl_X8_10 (show sh 0 = (0, 8, [some 1, some 5, some 31, some 35, none, some 61, some 65, some 71, some 76, some 79, some 83, some 85]) from rfl) rfl ?_
  refine AW.callV1v (C_become Γ M 61 1 st61 st1 (by decide)) dX8_keep_8 mc_X8_108 (show sh 61 = (0, 5, [some 62, none, some 63, some 64, none, none, none, none]) from rfl) (fun _ => rfl) ⟨Nat.le_of_ble_eq_true rfl, Nat.le_of_ble_eq_true rfl⟩ (Nat.le_of_ble_eq_true rfl) (fun z8 M8 h8 => ?_)
  obtain ⟨f8, r8⟩ := h8
  have s8 : stRel M8 1 r := hr.off f8 (by omega)
  refine AW.aload_n dX8_keep_11 0 rfl rfl ?_
  refine AW.aload_n dX8_keep_12 0 rfl rfl ?_
  refine AW.getR dX8_keep_13 fl_X8_10 (show sh 0 = (0, 8, [some 1, some 5, some 31, some 35, none, some 61, some 65, some 71, some 76, some 79, some 83, some 85]) from rfl) rfl ?_
  refine AW.callV0i (C_addWord Γ _ 1 st1 r ho s8 ) dX8_keep_16 mc_X8_122 (show sh 1 = (0, 5, [some 2, none, some 3, some 4, none, none, none, none]) from rfl) (fun _ => rfl) ⟨Nat.le_of_ble_eq_true rfl, Nat.le_of_ble_eq_true rfl⟩ (Nat.le_of_ble_eq_true rfl) (fun z16 M16 h16 => ?_)
  obtain ⟨e16, f16, s16⟩ := h16
  have q16 : M16 5 = M 5 := by rw [f16 5 (by omega), f8 5 (by omega)]
  refine AW.callV1i (C_kid Γ _ _ (by rw [e16]; exact keepZ_r ho ) (by rw [q16]; exact hp.2.2.1) (by rw [q16, hp.1]; exact hp.2.1)) dX8_keep_19 mc_X8_115 (show sh 0 = (0, 8, [some 1, some 5, some 31, some 35, none, some 61, some 65, some 71, some 76, some 79, some 83, some 85]) from rfl) (fun _ => rfl) ⟨Nat.le_of_ble_eq_true rfl, Nat.le_of_ble_eq_true rfl⟩ (Nat.le_of_ble_eq_true rfl) (fun z19 M19 h19 => ?_)
  obtain ⟨e19, f19, n19, y19⟩ := h19
  subst e19
  exact AW.iret rfl dX8_keep_22 ⟨e16, by rw [← e16]; exact xP_of ho hp f8 f16 (r8 r ho hr) s16 f19 n19 y19⟩

set_option maxRecDepth 20000 in
theorem C_lose (Γ : GC) (M : Mm) (r A : Nat → Int) (u : Int) (ho : OkR r) (hr : stRel M 1 r) (hp : pastRel M 5 u A) (c : Int) (hc : R32 c) : Ct Γ uX8_lose [rf Γ 0, vi c] M (fun z M' => z = loseZ r c ∧ xP M M' (loseZ r c) (loseR r c) u A r) := by
  refine Ct.of (by decide) (Nat.le_of_ble_eq_true rfl) ?_
  show AW Γ uX8_lose 0 [(0, rf Γ 0), (1, vi c)] [] M _
  refine AW.aload_n dX8_lose_0 0 rfl rfl ?_
  refine AW.getR dX8_lose_1 fl_X8_33 (show sh 0 = (0, 8, [some 1, some 5, some 31, some 35, none, some 61, some 65, some 71, some 76, some 79, some 83, some 85]) from rfl) rfl ?_
  refine AW.aload_n dX8_lose_4 0 rfl rfl ?_
  refine AW.getR dX8_lose_5 fl_X8_10 (show sh 0 = (0, 8, [some 1, some 5, some 31, some 35, none, some 61, some 65, some 71, some 76, some 79, some 83, some 85]) from rfl) rfl ?_
  refine AW.callV1v (C_become Γ M 61 1 st61 st1 (by decide)) dX8_lose_8 mc_X8_108 (show sh 61 = (0, 5, [some 62, none, some 63, some 64, none, none, none, none]) from rfl) (fun _ => rfl) ⟨Nat.le_of_ble_eq_true rfl, Nat.le_of_ble_eq_true rfl⟩ (Nat.le_of_ble_eq_true rfl) (fun z8 M8 h8 => ?_)
  obtain ⟨f8, r8⟩ := h8
  have s8 : stRel M8 1 r := hr.off f8 (by omega)
  refine AW.aload_n dX8_lose_11 0 rfl rfl ?_
  refine AW.aload_n dX8_lose_12 0 rfl rfl ?_
  refine AW.getR dX8_lose_13 fl_X8_10 (show sh 0 = (0, 8, [some 1, some 5, some 31, some 35, none, some 61, some 65, some 71, some 76, some 79, some 83, some 85]) from rfl) rfl ?_
  refine AW.iload_n dX8_lose_16 1 rfl rfl ?_
  refine AW.callV1i (C_removeWord Γ _ 1 st1 r ho s8 _ hc) dX8_lose_17 mc_X8_125 (show sh 1 = (0, 5, [some 2, none, some 3, some 4, none, none, none, none]) from rfl) (fun _ => rfl) ⟨Nat.le_of_ble_eq_true rfl, Nat.le_of_ble_eq_true rfl⟩ (Nat.le_of_ble_eq_true rfl) (fun z17 M17 h17 => ?_)
  obtain ⟨e17, f17, s17⟩ := h17
  have q17 : M17 5 = M 5 := by rw [f17 5 (by omega), f8 5 (by omega)]
  refine AW.callV1i (C_kid Γ _ _ (by rw [e17]; exact loseZ_r ho c) (by rw [q17]; exact hp.2.2.1) (by rw [q17, hp.1]; exact hp.2.1)) dX8_lose_20 mc_X8_115 (show sh 0 = (0, 8, [some 1, some 5, some 31, some 35, none, some 61, some 65, some 71, some 76, some 79, some 83, some 85]) from rfl) (fun _ => rfl) ⟨Nat.le_of_ble_eq_true rfl, Nat.le_of_ble_eq_true rfl⟩ (Nat.le_of_ble_eq_true rfl) (fun z20 M20 h20 => ?_)
  obtain ⟨e20, f20, n20, y20⟩ := h20
  subst e20
  exact AW.iret rfl dX8_lose_23 ⟨e17, by rw [← e17]; exact xP_of ho hp f8 f17 (r8 r ho hr) s17 f20 n20 y20⟩

set_option maxRecDepth 20000 in
theorem C_call (Γ : GC) (M : Mm) (r A : Nat → Int) (u : Int) (ho : OkR r) (hr : stRel M 1 r) (hp : pastRel M 5 u A) (c : Int) (hc : R32 c) : Ct Γ uX8_call [rf Γ 0, vi c] M (fun z M' => z = callZ r c ∧ xP M M' (callZ r c) (callR r c) u A r) := by
  refine Ct.of (by decide) (Nat.le_of_ble_eq_true rfl) ?_
  show AW Γ uX8_call 0 [(0, rf Γ 0), (1, vi c)] [] M _
  refine AW.aload_n dX8_call_0 0 rfl rfl ?_
  refine AW.getR dX8_call_1 fl_X8_33 (show sh 0 = (0, 8, [some 1, some 5, some 31, some 35, none, some 61, some 65, some 71, some 76, some 79, some 83, some 85]) from rfl) rfl ?_
  refine AW.aload_n dX8_call_4 0 rfl rfl ?_
  refine AW.getR dX8_call_5 fl_X8_10 (show sh 0 = (0, 8, [some 1, some 5, some 31, some 35, none, some 61, some 65, some 71, some 76, some 79, some 83, some 85]) from rfl) rfl ?_
  refine AW.callV1v (C_become Γ M 61 1 st61 st1 (by decide)) dX8_call_8 mc_X8_108 (show sh 61 = (0, 5, [some 62, none, some 63, some 64, none, none, none, none]) from rfl) (fun _ => rfl) ⟨Nat.le_of_ble_eq_true rfl, Nat.le_of_ble_eq_true rfl⟩ (Nat.le_of_ble_eq_true rfl) (fun z8 M8 h8 => ?_)
  obtain ⟨f8, r8⟩ := h8
  have s8 : stRel M8 1 r := hr.off f8 (by omega)
  refine AW.aload_n dX8_call_11 0 rfl rfl ?_
  refine AW.aload_n dX8_call_12 0 rfl rfl ?_
  refine AW.getR dX8_call_13 fl_X8_10 (show sh 0 = (0, 8, [some 1, some 5, some 31, some 35, none, some 61, some 65, some 71, some 76, some 79, some 83, some 85]) from rfl) rfl ?_
  refine AW.iload_n dX8_call_16 1 rfl rfl ?_
  refine AW.callV1i (C_addLettersOf Γ _ 1 st1 r ho s8 _ hc) dX8_call_17 mc_X8_128 (show sh 1 = (0, 5, [some 2, none, some 3, some 4, none, none, none, none]) from rfl) (fun _ => rfl) ⟨Nat.le_of_ble_eq_true rfl, Nat.le_of_ble_eq_true rfl⟩ (Nat.le_of_ble_eq_true rfl) (fun z17 M17 h17 => ?_)
  obtain ⟨e17, f17, s17⟩ := h17
  have q17 : M17 5 = M 5 := by rw [f17 5 (by omega), f8 5 (by omega)]
  refine AW.callV1i (C_kid Γ _ _ (by rw [e17]; exact callZ_r ho c) (by rw [q17]; exact hp.2.2.1) (by rw [q17, hp.1]; exact hp.2.1)) dX8_call_20 mc_X8_115 (show sh 0 = (0, 8, [some 1, some 5, some 31, some 35, none, some 61, some 65, some 71, some 76, some 79, some 83, some 85]) from rfl) (fun _ => rfl) ⟨Nat.le_of_ble_eq_true rfl, Nat.le_of_ble_eq_true rfl⟩ (Nat.le_of_ble_eq_true rfl) (fun z20 M20 h20 => ?_)
  obtain ⟨e20, f20, n20, y20⟩ := h20
  subst e20
  exact AW.iret rfl dX8_call_23 ⟨e17, by rw [← e17]; exact xP_of ho hp f8 f17 (r8 r ho hr) s17 f20 n20 y20⟩

set_option maxRecDepth 20000 in
theorem C_tell (Γ : GC) (M : Mm) (r A : Nat → Int) (u : Int) (ho : OkR r) (hr : stRel M 1 r) (hp : pastRel M 5 u A) (c v : Int) (hc : R32 c) (hv : R32 v) : Ct Γ uX8_tell [rf Γ 0, vi c, vi v] M (fun z M' => z = tellZ r c v ∧ xP M M' (tellZ r c v) (tellR r c v) u A r) := by
  refine Ct.of (by decide) (Nat.le_of_ble_eq_true rfl) ?_
  show AW Γ uX8_tell 0 [(0, rf Γ 0), (1, vi c), (2, vi v)] [] M _
  refine AW.aload_n dX8_tell_0 0 rfl rfl ?_
  refine AW.getR dX8_tell_1 fl_X8_33 (show sh 0 = (0, 8, [some 1, some 5, some 31, some 35, none, some 61, some 65, some 71, some 76, some 79, some 83, some 85]) from rfl) rfl ?_
  refine AW.aload_n dX8_tell_4 0 rfl rfl ?_
  refine AW.getR dX8_tell_5 fl_X8_10 (show sh 0 = (0, 8, [some 1, some 5, some 31, some 35, none, some 61, some 65, some 71, some 76, some 79, some 83, some 85]) from rfl) rfl ?_
  refine AW.callV1v (C_become Γ M 61 1 st61 st1 (by decide)) dX8_tell_8 mc_X8_108 (show sh 61 = (0, 5, [some 62, none, some 63, some 64, none, none, none, none]) from rfl) (fun _ => rfl) ⟨Nat.le_of_ble_eq_true rfl, Nat.le_of_ble_eq_true rfl⟩ (Nat.le_of_ble_eq_true rfl) (fun z8 M8 h8 => ?_)
  obtain ⟨f8, r8⟩ := h8
  have s8 : stRel M8 1 r := hr.off f8 (by omega)
  refine AW.aload_n dX8_tell_11 0 rfl rfl ?_
  refine AW.aload_n dX8_tell_12 0 rfl rfl ?_
  refine AW.getR dX8_tell_13 fl_X8_10 (show sh 0 = (0, 8, [some 1, some 5, some 31, some 35, none, some 61, some 65, some 71, some 76, some 79, some 83, some 85]) from rfl) rfl ?_
  refine AW.iload_n dX8_tell_16 1 rfl rfl ?_
  refine AW.iload_n dX8_tell_17 2 rfl rfl ?_
  refine AW.callV2i (C_setCost Γ _ 1 st1 r ho s8 _ _ hc hv) dX8_tell_18 mc_X8_131 (show sh 1 = (0, 5, [some 2, none, some 3, some 4, none, none, none, none]) from rfl) (fun _ => rfl) ⟨Nat.le_of_ble_eq_true rfl, Nat.le_of_ble_eq_true rfl⟩ (Nat.le_of_ble_eq_true rfl) (fun z18 M18 h18 => ?_)
  obtain ⟨e18, f18, s18⟩ := h18
  have q18 : M18 5 = M 5 := by rw [f18 5 (by omega), f8 5 (by omega)]
  refine AW.callV1i (C_kid Γ _ _ (by rw [e18]; exact tellZ_r ho c v) (by rw [q18]; exact hp.2.2.1) (by rw [q18, hp.1]; exact hp.2.1)) dX8_tell_21 mc_X8_115 (show sh 0 = (0, 8, [some 1, some 5, some 31, some 35, none, some 61, some 65, some 71, some 76, some 79, some 83, some 85]) from rfl) (fun _ => rfl) ⟨Nat.le_of_ble_eq_true rfl, Nat.le_of_ble_eq_true rfl⟩ (Nat.le_of_ble_eq_true rfl) (fun z21 M21 h21 => ?_)
  obtain ⟨e21, f21, n21, y21⟩ := h21
  subst e21
  exact AW.iret rfl dX8_tell_24 ⟨e18, by rw [← e18]; exact xP_of ho hp f8 f18 (r8 r ho hr) s18 f21 n21 y21⟩
