/-! the start: classes, the two static arrays, the two makers -/
theorem tb_in {w : Cond} (h : w ∈ tb) : w ∈ lw_tbl := (List.mem_filter.mp h).1
theorem nest_in {w : Cond} (h : w ∈ nestW) : w ∈ lw_tbl := (List.mem_filter.mp h).1
theorem start_K {s : State} {A : Array Value} (hts : ∀ w ∈ lw_tbl, w.before A s = true) : ∃ (D : va_G) (C : Nat → ClassId), Kx D C s := by
  have htb : ∀ w ∈ tb, w.before A s = true := fun w h => hts w (tb_in h)
  obtain ⟨c0, i0, k0⟩ := u_known (C := RX0) (T := TX0) (N := 5) (n := 5) htb inT0 (htb _ is_X0)
  obtain ⟨c1, i1, k1⟩ := u_known (C := RX1) (T := TX1) (N := 4) (n := 4) htb inT1 (htb _ is_X1)
  obtain ⟨c2, i2, k2⟩ := u_known (C := RX2) (T := TX2) (N := 3) (n := 3) htb inT2 (htb _ is_X2)
  obtain ⟨c3, i3, k3⟩ := u_known (C := RX3) (T := TX3) (N := 5) (n := 5) htb inT3 (htb _ is_X3)
  obtain ⟨c4, i4, k4⟩ := u_known (C := RX4) (T := TX4) (N := 6) (n := 6) htb inT4 (htb _ is_X4)
  obtain ⟨c5, i5, k5⟩ := u_known (C := RX5) (T := TX5) (N := 8) (n := 8) htb inT5 (htb _ is_X5)
  obtain ⟨c6, i6, k6⟩ := u_known (C := RX6) (T := TX6) (N := 2) (n := 2) htb inT6 (htb _ is_X6)
  obtain ⟨c7, i7, k7⟩ := u_known (C := RX7) (T := TX7) (N := 6) (n := 6) htb inT7 (htb _ is_X7)
  obtain ⟨c8, i8, k8⟩ := u_known (C := RX8) (T := TX8) (N := 12) (n := 12) htb inT8 (htb _ is_X8)
  obtain ⟨c9, i9, k9⟩ := u_known (C := RX9) (T := TX9) (N := 26) (n := 26) htb inT9 (htb _ is_X9)
  obtain ⟨cI, kI, pI, a1, a2, a3⟩ := Cond.arrayClass_spec (htb _ wI)
  obtain ⟨cJ, kJ, pJ, b1, b2, b3⟩ := Cond.arrayClass_spec (htb _ wJ)
  have oS : (Cond.arrayOver (.object "ArmSignals$Station")).before A s = true := hts _ (List.mem_of_getElem? (i := 133) (by decide +kernel))
  have oP : (Cond.arrayOver (.object "ArmSignals$Paper")).before A s = true := hts _ (List.mem_of_getElem? (i := 260) (by decide +kernel))
  obtain ⟨pS, cS, kS, d1, d2, d3, d4, d5⟩ := Cond.arrayOver_spec oS
  obtain ⟨pP, cP, kP, e1, e2, e3, e4, e5⟩ := Cond.arrayOver_spec oP
  refine ⟨(fun k => match k with | 1 => c1 | 2 => c2 | 3 => c3 | 4 => c4 | 5 => c5 | 6 => c6 | 7 => c7 | 8 => c8 | 9 => c9 | _ => c0, fun k => match k with | 1 => i1 | 2 => i2 | 3 => i3 | 4 => i4 | 5 => i5 | 6 => i6 | 7 => i7 | 8 => i8 | 9 => i9 | _ => i0), fun k => match k with | 0 => cI | 1 => cJ | 2 => cS | _ => cP, ⟨fun k q hq => ?_, fun k q hq => ?_⟩, va_AO.of oS, va_AO.of oP⟩
  · match k, hq with
    | 0, hq => cases hq; exact k0
    | 1, hq => cases hq; exact k1
    | 2, hq => cases hq; exact k2
    | 3, hq => cases hq; exact k3
    | 4, hq => cases hq; exact k4
    | 5, hq => cases hq; exact k5
    | 6, hq => cases hq; exact k6
    | 7, hq => cases hq; exact k7
    | 8, hq => cases hq; exact k8
    | 9, hq => cases hq; exact k9
    | k + 10, hq => simp at hq
  · match k, hq with
    | 0, hq => cases hq; exact ⟨fun n z => ⟨fun k h => (by cases h), kI, a2, pI, a3⟩, a1⟩
    | 1, hq => cases hq; exact ⟨fun n z => ⟨fun k h => (by cases h), kJ, b2, pJ, b3⟩, b1⟩
    | 2, hq => cases hq; exact ⟨fun n z => ⟨fun k h => (by cases h), kS, d3, pS, d4⟩, kS, pS, d3, d4, d1, d5⟩
    | 3, hq => cases hq; exact ⟨fun n z => ⟨fun k h => (by cases h), kP, e3, pP, e4⟩, kP, pP, e3, e4, e1, e5⟩
    | k + 4, hq => simp at hq
theorem start_eL : ∀ j : Nat, j < 27 → Cond.eq (.elem (.static "ArmSignals" "LESSER" "[I") (.int (Int32.ofNat j))) (.int (Int32.ofInt (tl j))) ∈ flatC (Jvm.Cond.and given_1 narrow_1) := by decide +kernel
theorem start_L {s : State} {A : Array Value} (hts : ∀ w ∈ lw_tbl, w.before A s = true) (hgv : (Jvm.Cond.and given_1 narrow_1).before A s = true) : ∃ t : Nat, va_Z "ArmSignals" "LESSER" "[I" (.ref t) (fun q => s.heap.size ≤ q) s s.heap ∧ va_T .int t 27 (fun j => vi (tl j)) (fun q => s.heap.size ≤ q) s s.heap := by
  have hs := flat_of_before _ hgv
  have hA : ∀ a : Nat, a < s.heap.size → ¬ (fun q => s.heap.size ≤ q) a := fun a h => Nat.not_le.mpr h
  obtain ⟨t, h1, h2⟩ := va_Tof (f := fun j => vi (tl j)) (N := 27) (by decide) (hs (Cond.arrayOf (.static "ArmSignals" "LESSER" "[I") .int) (by decide +kernel)) (va_eqt (hs (Cond.eq (.length (.static "ArmSignals" "LESSER" "[I")) (.int 27)) (by decide +kernel))) (fun j hj => va_eqt (hs _ (start_eL j hj))) hA
  exact ⟨t, va_Zof (hts _ (List.mem_of_getElem? (i := 330) (by decide +kernel))) (hts (.initialized "ArmSignals") (List.mem_of_getElem? (i := 52) (by decide +kernel))) h1 hA, h2⟩
theorem start_eG : ∀ j : Nat, j < 27 → Cond.eq (.elem (.static "ArmSignals" "GREATER" "[I") (.int (Int32.ofNat j))) (.int (Int32.ofInt (tg j))) ∈ flatC (Jvm.Cond.and given_1 narrow_1) := by decide +kernel
theorem start_G {s : State} {A : Array Value} (hts : ∀ w ∈ lw_tbl, w.before A s = true) (hgv : (Jvm.Cond.and given_1 narrow_1).before A s = true) : ∃ t : Nat, va_Z "ArmSignals" "GREATER" "[I" (.ref t) (fun q => s.heap.size ≤ q) s s.heap ∧ va_T .int t 27 (fun j => vi (tg j)) (fun q => s.heap.size ≤ q) s s.heap := by
  have hs := flat_of_before _ hgv
  have hA : ∀ a : Nat, a < s.heap.size → ¬ (fun q => s.heap.size ≤ q) a := fun a h => Nat.not_le.mpr h
  obtain ⟨t, h1, h2⟩ := va_Tof (f := fun j => vi (tg j)) (N := 27) (by decide) (hs (Cond.arrayOf (.static "ArmSignals" "GREATER" "[I") .int) (by decide +kernel)) (va_eqt (hs (Cond.eq (.length (.static "ArmSignals" "GREATER" "[I")) (.int 27)) (by decide +kernel))) (fun j hj => va_eqt (hs _ (start_eG j hj))) hA
  exact ⟨t, va_Zof (hts _ (List.mem_of_getElem? (i := 332) (by decide +kernel))) (hts (.initialized "ArmSignals") (List.mem_of_getElem? (i := 52) (by decide +kernel))) h1 hA, h2⟩
section Lmake
variable {p : Program} {l : Launch} {e : Env} {s : State} {m : MethodId} {args : Array Value} {below : List Frame} {meth : Method} {c : Code} {H : Heap} {locs : List Loc} {Qw : State → Prop} {ls : Array Slot} {pc cc ss : Nat} {L : List (Nat × Value)} {st : List Value} {D : va_G} {C : Nat → ClassId} {ws : va_W} {A : Nat → Prop}
theorem L_new {idx ci N : Nat} {fs : List Value} (hx : p.tables.exec = Jvm.exec) (hb : c.code = code) (hown : s.vm.findClass "ArmSignalsLaw" = some m.cls) (hts : ∀ w ∈ tb, w.before args s = true) (hK : Kx D C s) (hP : va_P D cls10 ws H) (hD : va_D A ws) (hS : va_S A s.heap H locs) (hA : ∀ q, s.heap.size ≤ q → A q) (hd : decode code pc = .ok (.new idx, 3)) (hN : NW "ArmSignalsLaw" idx ci N fs) (hc : cc + 1 ≤ 600000) (hs : ss + N ≤ 7302250) (k : ∀ (q : Nat) (H1 : Heap), va_P D cls10 (ws ++ [(q, .inr (ci, fs))]) H1 → va_D A (ws ++ [(q, .inr (ci, fs))]) → va_S A s.heap H1 locs → W p l e room_1 s m args below meth c H1 locs (cc + 1) (ss + N) Qw (F0 m (pc + 3) ls (.ref q :: st))) : W p l e room_1 s m args below meth c H locs cc ss Qw (F0 m pc ls st) := by
  obtain ⟨Cn, T, ty, h1, h2, h3, h4, h5, h6, h7⟩ := hN
  exact va_new (ci := ci) (fs := fs) hx hb hts h5 ty h6 hown (hts _ h2) (hts _ h3) (hts _ h4) hK.1 hP hD hS hA h1 h7 hc hs hd (fun q H1 hP1 hD1 hS1 => k q H1 hP1 hD1 hS1)
theorem L_make {μ' : MI} {R' : Room} {Q' : va_W → Prop} {idx q : Nat} {e0 : va_E} (hx : p.tables.exec = Jvm.exec) (hb : c.code = code) (hml : c.maxLocals = 4) (hown : s.vm.findClass "ArmSignalsLaw" = some m.cls) (hts : ∀ w ∈ tb, w.before args s = true) (hK : Kx D C s) (hP : va_P D cls10 (ws ++ [(q, e0)]) H) (hD : va_D A (ws ++ [(q, e0)])) (hS : va_S A s.heap H locs) (hA : ∀ q, s.heap.size ≤ q → A q) (hl : lv_has ls 4 L) (hC : Cb l D C μ' R' q e0 Q') (hd : decode code pc = .ok (.invokespecial idx, 3)) (hM : IC "ArmSignalsLaw" idx μ') (hR : R'.frames + 1 ≤ 9 ∧ 8 + (mn μ' + 11) + R'.locals ≤ 332) (hcap : cc + R'.cells ≤ 600000 ∧ ss + R'.slots ≤ 7302250) (hw : (st.map fun v => v.category).sum ≤ 8) (k : ∀ (w1 : va_W) (H1 : Heap) (locs1 : List Loc), Q' w1 → va_P D cls10 (ws ++ w1) H1 → va_D A (ws ++ w1) → va_S A s.heap H1 locs1 → W p l e room_1 s m args below meth c H1 locs1 (cc + R'.cells) (ss + R'.slots) Qw (F0 m (pc + 3) ls st)) : W p l e room_1 s m args below meth c H locs cc ss Qw (F0 m pc ls (.ref q :: st)) := by
  obtain ⟨h1, h2, h3, h4, h5, h6, h7⟩ := hM
  have hPc : va_P D cls10 [(q, e0)] H := fun k x hx => by
    have hk0 : k = 0 := by
      have := (List.getElem?_eq_some_iff.mp hx).1
      simp at this; omega
    subst hk0
    exact hP ws.length x (by simpa using hx)
  have hFc : ∀ a, va_A [(q, e0)] H.size a → A a := va_free (wc := [(q, e0)]) hD hS hA [ws.length] (by simp)
  have hg := tb_good h4
  have cw := cwI (R := room_1) (s := s) (args := args) (own := "ArmSignalsLaw") (index := idx) (y := my μ') (bytes := mb μ') (maxL := mn μ') (ws := mw μ') (ws' := tb) (rm := R') (mc := R'.cells) (ms := R'.slots) 0 hts hg (by show Cond.code (my μ') (mb μ') (mn μ') (mr μ') :: tb = _; rw [h6]) rfl rfl (hts _ h3) (hts _ h1) (hts _ h2) h5 h7 hR
  refine va_callv (va_runI (As := []) (rest := st) ⟨hx, hb, hml, hown, hts⟩ (hC H.size) cw ⟨fun a U g mk qq => ?_, fun U hU hW => ⟨rfl, by rw [hU], by rw [hU]; exact hPc, Kx.moved hW.alike hK⟩⟩ rfl rfl hl.1 rfl (lv_room hw) hd hcap) hS (fun a _ h => hFc a h) hFc (fun w1 t H1 locs1 ht hvm hq hB hz1 hk1 hS1 => ?_)
  · obtain ⟨q0, q1, qP, qK⟩ := qq
    exact ⟨q0, q1, qP, Kx.moved (u := U) (U := U.calling g mk a) (Vm.Alike.refl U.vm) qK⟩
  · obtain ⟨hP1, hD1⟩ := hB
    rw [ht] at hP1
    obtain ⟨hP2, hD2⟩ := join1 hP hD hk1 hFc hP1 hD1
    exact k w1 H1 locs1 hq hP2 hD2 hS1
end Lmake
theorem gok_of {Γ : GC} {M : Mm} (hD : va_D (gA Γ) (cells Γ M)) : gok Γ :=
  ⟨fun i j hi hj h => hD.1 i j _ _ (cells_at Γ M hi) (cells_at Γ M hj) h, fun i hi => hD.2 i _ (cells_at Γ M hi)⟩
