/-! makers: links -/
theorem BW.aastM {l : Launch} {D : va_G} {C : Nat → ClassId} {μ : MI} {R : Room} {Q : va_W → Prop} {pc : Nat} {L : List (Nat × Value)} {st : List Value} {A B : va_W} {cc ss : Nat} {a n v : Nat} {i : Int} {vs : List Value} {f : Nat → Option Nat} (hd : decode (mb μ) pc = .ok (.aastore, 1)) (j : Nat) (hv : B[j]? = some (v, .inr (1, vs))) (h0 : 0 ≤ i) (h1 : i < n) (hn : n < 2147483648) (k : BW l D C μ R Q (pc + 1) L st ((A ++ [(a, .inl (C 3, n, .inr (.inr (.inr (.inr (va_up f i.toNat (some v)))))))]) ++ B) cc ss) : BW l D C μ R Q pc L (.ref v :: vi i :: .ref a :: st) ((A ++ [(a, .inl (C 3, n, .inr (.inr (.inr (.inr f)))))]) ++ B) cc ss := by
  refine BW.aastP (f := f) (n := n) (vs := vs) hd A.length (A.length + 1 + j) (by simp) ?_ h0 h1 hn ?_
  · rw [List.getElem?_append_right (by simp <;> omega)]
    simpa using hv
  · refine BW.eqw ?_ k
    simp [List.set_append]

theorem wI : Cond.arrayClass .int ∈ tb := tb_of 125 (by decide +kernel) rfl
theorem wJ : Cond.arrayClass .long ∈ tb := tb_of 284 (by decide +kernel) rfl
def uX0_init : MI := (yX0_init, cX0_init, 1, none, 0, 0)
def uX1_init : MI := (yX1_init, cX1_init, 1, none, 0, 0)
def uX2_init : MI := (yX2_init, cX2_init, 2, none, 0, 0)
def uX3_init : MI := (yX3_init, cX3_init, 1, none, 0, 0)
def uX4_init : MI := (yX4_init, cX4_init, 1, none, 0, 0)
def uX5_init : MI := (yX5_init, cX5_init, 1, none, 0, 0)
def uX6_init : MI := (yX6_init, cX6_init, 1, none, 0, 0)
def uX7_init : MI := (yX7_init, cX7_init, 1, none, 0, 0)
def uX8_init : MI := (yX8_init, cX8_init, 2, none, 0, 0)
def uX9_init : MI := (yX9_init, cX9_init, 2, none, 0, 0)
theorem oi_X0 : OI RX0 3 := ⟨tb_of 226 (by decide +kernel) rfl, tb_of 72 (by decide +kernel) rfl, tb_of 73 (by decide +kernel) rfl⟩
theorem ip_X0_9 : FF RX0 9 0 0 (.array .int) := ⟨RX0, TX0, 5, rfl, by decide, tb_of 227 (by decide +kernel) rfl, inT0, rfl, ⟨tyX0, tyX0_ok⟩, nmX0, rfl, by decide +kernel, rfl⟩
theorem ip_X0_15 : FF RX0 15 0 1 (.array .int) := ⟨RX0, TX0, 5, rfl, by decide, tb_of 228 (by decide +kernel) rfl, inT0, rfl, ⟨tyX0, tyX0_ok⟩, nmX0, rfl, by decide +kernel, rfl⟩
theorem ip_X0_18 : FF RX0 18 0 2 (.array .int) := ⟨RX0, TX0, 5, rfl, by decide, tb_of 229 (by decide +kernel) rfl, inT0, rfl, ⟨tyX0, tyX0_ok⟩, nmX0, rfl, by decide +kernel, rfl⟩
theorem ip_X0_21 : FP RX0 21 0 3 .int := ⟨RX0, TX0, 5, rfl, by decide, tb_of 230 (by decide +kernel) rfl, inT0, rfl, ⟨tyX0, tyX0_ok⟩, nmX0, rfl, by decide +kernel⟩
theorem ip_X0_25 : FP RX0 25 0 4 .int := ⟨RX0, TX0, 5, rfl, by decide, tb_of 232 (by decide +kernel) rfl, inT0, rfl, ⟨tyX0, tyX0_ok⟩, nmX0, rfl, by decide +kernel⟩
theorem oi_X1 : OI RX1 3 := ⟨tb_of 265 (by decide +kernel) rfl, tb_of 72 (by decide +kernel) rfl, tb_of 73 (by decide +kernel) rfl⟩
theorem ip_X1_9 : FP RX1 9 1 0 .boolean := ⟨RX1, TX1, 4, rfl, by decide, tb_of 266 (by decide +kernel) rfl, inT1, rfl, ⟨tyX1, tyX1_ok⟩, nmX1, rfl, by decide +kernel⟩
theorem ip_X1_15 : FP RX1 15 1 1 .int := ⟨RX1, TX1, 4, rfl, by decide, tb_of 268 (by decide +kernel) rfl, inT1, rfl, ⟨tyX1, tyX1_ok⟩, nmX1, rfl, by decide +kernel⟩
theorem ip_X1_19 : FP RX1 19 1 2 .int := ⟨RX1, TX1, 4, rfl, by decide, tb_of 270 (by decide +kernel) rfl, inT1, rfl, ⟨tyX1, tyX1_ok⟩, nmX1, rfl, by decide +kernel⟩
theorem ip_X1_22 : FF RX1 22 1 3 (.array .long) := ⟨RX1, TX1, 4, rfl, by decide, tb_of 272 (by decide +kernel) rfl, inT1, rfl, ⟨tyX1, tyX1_ok⟩, nmX1, rfl, by decide +kernel, rfl⟩
theorem oi_X2 : OI RX2 3 := ⟨tb_of 131 (by decide +kernel) rfl, tb_of 72 (by decide +kernel) rfl, tb_of 73 (by decide +kernel) rfl⟩
theorem cl_X2_9 : Cond.classLink RX2 9 "ArmSignals$Station" ∈ tb := tb_of 132 (by decide +kernel) rfl
theorem ip_X2_11 : FF RX2 11 2 0 (.array (.object "ArmSignals$Station")) := ⟨RX2, TX2, 3, rfl, by decide, tb_of 135 (by decide +kernel) rfl, inT2, rfl, ⟨tyX2, tyX2_ok⟩, nmX2, rfl, by decide +kernel, rfl⟩
theorem ip_X2_17 : FP RX2 17 2 1 .int := ⟨RX2, TX2, 3, rfl, by decide, tb_of 136 (by decide +kernel) rfl, inT2, rfl, ⟨tyX2, tyX2_ok⟩, nmX2, rfl, by decide +kernel⟩
theorem ip_X2_21 : FP RX2 21 2 2 .int := ⟨RX2, TX2, 3, rfl, by decide, tb_of 137 (by decide +kernel) rfl, inT2, rfl, ⟨tyX2, tyX2_ok⟩, nmX2, rfl, by decide +kernel⟩
theorem ig_X2_11 : FL RX2 11 2 0 := ⟨RX2, TX2, 3, rfl, by decide, tb_of 135 (by decide +kernel) rfl, inT2, rfl⟩
theorem nw_X2_9 : NW RX2 9 5 8 [.null, vi 0, .null, .null, vi 0, vi 0, vi 0, vi 0] := ⟨RX5, TX5, tyX5, rfl, cl_X2_9, tb_of 75 (by decide +kernel) rfl, tb_of 53 (by decide +kernel) rfl, inT5, tyX5_ok, fun j hj => by rcases (show j = 0 ∨ j = 1 ∨ j = 2 ∨ j = 3 ∨ j = 4 ∨ j = 5 ∨ j = 6 ∨ j = 7 by omega) with rfl | rfl | rfl | rfl | rfl | rfl | rfl | rfl <;> rfl⟩
theorem ic_X2_24 : IC RX2 24 uX5_init := ⟨tb_of 134 (by decide +kernel) rfl, tb_of 77 (by decide +kernel) rfl, tb_of 53 (by decide +kernel) rfl, tb_of 78 (by decide +kernel) rfl, rfl, rfl, ⟨by decide +kernel, by decide +kernel, by decide +kernel⟩⟩
theorem oi_X3 : OI RX3 3 := ⟨tb_of 176 (by decide +kernel) rfl, tb_of 72 (by decide +kernel) rfl, tb_of 73 (by decide +kernel) rfl⟩
theorem ip_X3_11 : FF RX3 11 3 0 (.array .int) := ⟨RX3, TX3, 5, rfl, by decide, tb_of 177 (by decide +kernel) rfl, inT3, rfl, ⟨tyX3, tyX3_ok⟩, nmX3, rfl, by decide +kernel, rfl⟩
theorem ip_X3_15 : FF RX3 15 3 1 (.array .int) := ⟨RX3, TX3, 5, rfl, by decide, tb_of 178 (by decide +kernel) rfl, inT3, rfl, ⟨tyX3, tyX3_ok⟩, nmX3, rfl, by decide +kernel, rfl⟩
theorem ip_X3_18 : FF RX3 18 3 2 (.array .int) := ⟨RX3, TX3, 5, rfl, by decide, tb_of 179 (by decide +kernel) rfl, inT3, rfl, ⟨tyX3, tyX3_ok⟩, nmX3, rfl, by decide +kernel, rfl⟩
theorem ip_X3_21 : FF RX3 21 3 3 (.array .int) := ⟨RX3, TX3, 5, rfl, by decide, tb_of 180 (by decide +kernel) rfl, inT3, rfl, ⟨tyX3, tyX3_ok⟩, nmX3, rfl, by decide +kernel, rfl⟩
theorem ip_X3_24 : FP RX3 24 3 4 .int := ⟨RX3, TX3, 5, rfl, by decide, tb_of 181 (by decide +kernel) rfl, inT3, rfl, ⟨tyX3, tyX3_ok⟩, nmX3, rfl, by decide +kernel⟩
theorem oi_X4 : OI RX4 3 := ⟨tb_of 198 (by decide +kernel) rfl, tb_of 72 (by decide +kernel) rfl, tb_of 73 (by decide +kernel) rfl⟩
theorem ip_X4_9 : FF RX4 9 4 0 (.array .int) := ⟨RX4, TX4, 6, rfl, by decide, tb_of 199 (by decide +kernel) rfl, inT4, rfl, ⟨tyX4, tyX4_ok⟩, nmX4, rfl, by decide +kernel, rfl⟩
theorem ip_X4_15 : FF RX4 15 4 1 (.array .int) := ⟨RX4, TX4, 6, rfl, by decide, tb_of 200 (by decide +kernel) rfl, inT4, rfl, ⟨tyX4, tyX4_ok⟩, nmX4, rfl, by decide +kernel, rfl⟩
theorem ip_X4_18 : FP RX4 18 4 2 .int := ⟨RX4, TX4, 6, rfl, by decide, tb_of 201 (by decide +kernel) rfl, inT4, rfl, ⟨tyX4, tyX4_ok⟩, nmX4, rfl, by decide +kernel⟩
theorem ip_X4_22 : FP RX4 22 4 3 .int := ⟨RX4, TX4, 6, rfl, by decide, tb_of 202 (by decide +kernel) rfl, inT4, rfl, ⟨tyX4, tyX4_ok⟩, nmX4, rfl, by decide +kernel⟩
theorem ip_X4_25 : FP RX4 25 4 4 .int := ⟨RX4, TX4, 6, rfl, by decide, tb_of 204 (by decide +kernel) rfl, inT4, rfl, ⟨tyX4, tyX4_ok⟩, nmX4, rfl, by decide +kernel⟩
theorem ip_X4_28 : FP RX4 28 4 5 .boolean := ⟨RX4, TX4, 6, rfl, by decide, tb_of 206 (by decide +kernel) rfl, inT4, rfl, ⟨tyX4, tyX4_ok⟩, nmX4, rfl, by decide +kernel⟩
theorem oi_X5 : OI RX5 3 := ⟨tb_of 79 (by decide +kernel) rfl, tb_of 72 (by decide +kernel) rfl, tb_of 73 (by decide +kernel) rfl⟩
theorem ip_X5_9 : FF RX5 9 5 0 (.array .int) := ⟨RX5, TX5, 8, rfl, by decide, tb_of 80 (by decide +kernel) rfl, inT5, rfl, ⟨tyX5, tyX5_ok⟩, nmX5, rfl, by decide +kernel, rfl⟩
theorem ip_X5_15 : FP RX5 15 5 1 .int := ⟨RX5, TX5, 8, rfl, by decide, tb_of 85 (by decide +kernel) rfl, inT5, rfl, ⟨tyX5, tyX5_ok⟩, nmX5, rfl, by decide +kernel⟩
theorem ip_X5_19 : FF RX5 19 5 2 (.array .int) := ⟨RX5, TX5, 8, rfl, by decide, tb_of 90 (by decide +kernel) rfl, inT5, rfl, ⟨tyX5, tyX5_ok⟩, nmX5, rfl, by decide +kernel, rfl⟩
theorem ip_X5_22 : FF RX5 22 5 3 (.array .int) := ⟨RX5, TX5, 8, rfl, by decide, tb_of 91 (by decide +kernel) rfl, inT5, rfl, ⟨tyX5, tyX5_ok⟩, nmX5, rfl, by decide +kernel, rfl⟩
theorem ip_X5_25 : FP RX5 25 5 4 .int := ⟨RX5, TX5, 8, rfl, by decide, tb_of 96 (by decide +kernel) rfl, inT5, rfl, ⟨tyX5, tyX5_ok⟩, nmX5, rfl, by decide +kernel⟩
theorem ip_X5_28 : FP RX5 28 5 5 .int := ⟨RX5, TX5, 8, rfl, by decide, tb_of 102 (by decide +kernel) rfl, inT5, rfl, ⟨tyX5, tyX5_ok⟩, nmX5, rfl, by decide +kernel⟩
theorem ip_X5_31 : FP RX5 31 5 6 .int := ⟨RX5, TX5, 8, rfl, by decide, tb_of 104 (by decide +kernel) rfl, inT5, rfl, ⟨tyX5, tyX5_ok⟩, nmX5, rfl, by decide +kernel⟩
theorem ip_X5_34 : FP RX5 34 5 7 .int := ⟨RX5, TX5, 8, rfl, by decide, tb_of 106 (by decide +kernel) rfl, inT5, rfl, ⟨tyX5, tyX5_ok⟩, nmX5, rfl, by decide +kernel⟩
theorem oi_X6 : OI RX6 3 := ⟨tb_of 250 (by decide +kernel) rfl, tb_of 72 (by decide +kernel) rfl, tb_of 73 (by decide +kernel) rfl⟩
theorem ip_X6_9 : FF RX6 9 6 0 (.array .int) := ⟨RX6, TX6, 2, rfl, by decide, tb_of 251 (by decide +kernel) rfl, inT6, rfl, ⟨tyX6, tyX6_ok⟩, nmX6, rfl, by decide +kernel, rfl⟩
theorem ip_X6_15 : FP RX6 15 6 1 .int := ⟨RX6, TX6, 2, rfl, by decide, tb_of 252 (by decide +kernel) rfl, inT6, rfl, ⟨tyX6, tyX6_ok⟩, nmX6, rfl, by decide +kernel⟩
theorem oi_X7 : OI RX7 3 := ⟨tb_of 151 (by decide +kernel) rfl, tb_of 72 (by decide +kernel) rfl, tb_of 73 (by decide +kernel) rfl⟩
theorem ip_X7_9 : FF RX7 9 7 0 (.array .int) := ⟨RX7, TX7, 6, rfl, by decide, tb_of 152 (by decide +kernel) rfl, inT7, rfl, ⟨tyX7, tyX7_ok⟩, nmX7, rfl, by decide +kernel, rfl⟩
theorem ip_X7_15 : FF RX7 15 7 1 (.array .int) := ⟨RX7, TX7, 6, rfl, by decide, tb_of 153 (by decide +kernel) rfl, inT7, rfl, ⟨tyX7, tyX7_ok⟩, nmX7, rfl, by decide +kernel, rfl⟩
theorem ip_X7_18 : FF RX7 18 7 2 (.array .int) := ⟨RX7, TX7, 6, rfl, by decide, tb_of 154 (by decide +kernel) rfl, inT7, rfl, ⟨tyX7, tyX7_ok⟩, nmX7, rfl, by decide +kernel, rfl⟩
theorem ip_X7_21 : FF RX7 21 7 3 (.array .int) := ⟨RX7, TX7, 6, rfl, by decide, tb_of 155 (by decide +kernel) rfl, inT7, rfl, ⟨tyX7, tyX7_ok⟩, nmX7, rfl, by decide +kernel, rfl⟩
theorem ip_X7_24 : FF RX7 24 7 4 (.array .int) := ⟨RX7, TX7, 6, rfl, by decide, tb_of 156 (by decide +kernel) rfl, inT7, rfl, ⟨tyX7, tyX7_ok⟩, nmX7, rfl, by decide +kernel, rfl⟩
theorem ip_X7_27 : FP RX7 27 7 5 .int := ⟨RX7, TX7, 6, rfl, by decide, tb_of 157 (by decide +kernel) rfl, inT7, rfl, ⟨tyX7, tyX7_ok⟩, nmX7, rfl, by decide +kernel⟩
theorem oi_X8 : OI RX8 1 := ⟨tb_of 71 (by decide +kernel) rfl, tb_of 72 (by decide +kernel) rfl, tb_of 73 (by decide +kernel) rfl⟩
theorem cl_X8_7 : Cond.classLink RX8 7 "ArmSignals$Station" ∈ tb := tb_of 74 (by decide +kernel) rfl
theorem nw_X8_7 : NW RX8 7 5 8 [.null, vi 0, .null, .null, vi 0, vi 0, vi 0, vi 0] := ⟨RX5, TX5, tyX5, rfl, cl_X8_7, tb_of 75 (by decide +kernel) rfl, tb_of 53 (by decide +kernel) rfl, inT5, tyX5_ok, fun j hj => by rcases (show j = 0 ∨ j = 1 ∨ j = 2 ∨ j = 3 ∨ j = 4 ∨ j = 5 ∨ j = 6 ∨ j = 7 by omega) with rfl | rfl | rfl | rfl | rfl | rfl | rfl | rfl <;> rfl⟩
theorem ic_X8_9 : IC RX8 9 uX5_init := ⟨tb_of 76 (by decide +kernel) rfl, tb_of 77 (by decide +kernel) rfl, tb_of 53 (by decide +kernel) rfl, tb_of 78 (by decide +kernel) rfl, rfl, rfl, ⟨by decide +kernel, by decide +kernel, by decide +kernel⟩⟩
theorem ip_X8_10 : FF RX8 10 8 0 (.object "ArmSignals$Station") := ⟨RX8, TX8, 12, rfl, by decide, tb_of 285 (by decide +kernel) rfl, inT8, rfl, ⟨tyX8, tyX8_ok⟩, nmX8, rfl, by decide +kernel, rfl⟩
theorem cl_X8_16 : Cond.classLink RX8 16 "ArmSignals$Past" ∈ tb := tb_of 126 (by decide +kernel) rfl
theorem nw_X8_16 : NW RX8 16 2 3 [.null, vi 0, vi 0] := ⟨RX2, TX2, tyX2, rfl, cl_X8_16, tb_of 127 (by decide +kernel) rfl, tb_of 54 (by decide +kernel) rfl, inT2, tyX2_ok, fun j hj => by rcases (show j = 0 ∨ j = 1 ∨ j = 2 by omega) with rfl | rfl | rfl <;> rfl⟩
theorem ic_X8_18 : IC RX8 18 uX2_init := ⟨tb_of 128 (by decide +kernel) rfl, tb_of 129 (by decide +kernel) rfl, tb_of 54 (by decide +kernel) rfl, tb_of 130 (by decide +kernel) rfl, rfl, rfl, ⟨by decide +kernel, by decide +kernel, by decide +kernel⟩⟩
theorem ip_X8_19 : FF RX8 19 8 1 (.object "ArmSignals$Past") := ⟨RX8, TX8, 12, rfl, by decide, tb_of 286 (by decide +kernel) rfl, inT8, rfl, ⟨tyX8, tyX8_ok⟩, nmX8, rfl, by decide +kernel, rfl⟩
theorem ip_X8_23 : FF RX8 23 8 2 (.object "ArmSignals$Station") := ⟨RX8, TX8, 12, rfl, by decide, tb_of 287 (by decide +kernel) rfl, inT8, rfl, ⟨tyX8, tyX8_ok⟩, nmX8, rfl, by decide +kernel, rfl⟩
theorem ip_X8_26 : FF RX8 26 8 3 (.object "ArmSignals$Past") := ⟨RX8, TX8, 12, rfl, by decide, tb_of 288 (by decide +kernel) rfl, inT8, rfl, ⟨tyX8, tyX8_ok⟩, nmX8, rfl, by decide +kernel, rfl⟩
theorem ip_X8_29 : FP RX8 29 8 4 .boolean := ⟨RX8, TX8, 12, rfl, by decide, tb_of 289 (by decide +kernel) rfl, inT8, rfl, ⟨tyX8, tyX8_ok⟩, nmX8, rfl, by decide +kernel⟩
theorem ip_X8_33 : FF RX8 33 8 5 (.object "ArmSignals$Station") := ⟨RX8, TX8, 12, rfl, by decide, tb_of 290 (by decide +kernel) rfl, inT8, rfl, ⟨tyX8, tyX8_ok⟩, nmX8, rfl, by decide +kernel, rfl⟩
theorem cl_X8_36 : Cond.classLink RX8 36 "ArmSignals$Way" ∈ tb := tb_of 146 (by decide +kernel) rfl
theorem nw_X8_36 : NW RX8 36 7 6 [.null, .null, .null, .null, .null, vi 0] := ⟨RX7, TX7, tyX7, rfl, cl_X8_36, tb_of 147 (by decide +kernel) rfl, tb_of 55 (by decide +kernel) rfl, inT7, tyX7_ok, fun j hj => by rcases (show j = 0 ∨ j = 1 ∨ j = 2 ∨ j = 3 ∨ j = 4 ∨ j = 5 by omega) with rfl | rfl | rfl | rfl | rfl | rfl <;> rfl⟩
theorem ic_X8_38 : IC RX8 38 uX7_init := ⟨tb_of 148 (by decide +kernel) rfl, tb_of 149 (by decide +kernel) rfl, tb_of 55 (by decide +kernel) rfl, tb_of 150 (by decide +kernel) rfl, rfl, rfl, ⟨by decide +kernel, by decide +kernel, by decide +kernel⟩⟩
theorem ip_X8_39 : FF RX8 39 8 6 (.object "ArmSignals$Way") := ⟨RX8, TX8, 12, rfl, by decide, tb_of 291 (by decide +kernel) rfl, inT8, rfl, ⟨tyX8, tyX8_ok⟩, nmX8, rfl, by decide +kernel, rfl⟩
theorem cl_X8_43 : Cond.classLink RX8 43 "ArmSignals$Shortening" ∈ tb := tb_of 171 (by decide +kernel) rfl
theorem nw_X8_43 : NW RX8 43 3 5 [.null, .null, .null, .null, vi 0] := ⟨RX3, TX3, tyX3, rfl, cl_X8_43, tb_of 172 (by decide +kernel) rfl, tb_of 56 (by decide +kernel) rfl, inT3, tyX3_ok, fun j hj => by rcases (show j = 0 ∨ j = 1 ∨ j = 2 ∨ j = 3 ∨ j = 4 by omega) with rfl | rfl | rfl | rfl | rfl <;> rfl⟩
theorem ic_X8_45 : IC RX8 45 uX3_init := ⟨tb_of 173 (by decide +kernel) rfl, tb_of 174 (by decide +kernel) rfl, tb_of 56 (by decide +kernel) rfl, tb_of 175 (by decide +kernel) rfl, rfl, rfl, ⟨by decide +kernel, by decide +kernel, by decide +kernel⟩⟩
theorem ip_X8_46 : FF RX8 46 8 7 (.object "ArmSignals$Shortening") := ⟨RX8, TX8, 12, rfl, by decide, tb_of 292 (by decide +kernel) rfl, inT8, rfl, ⟨tyX8, tyX8_ok⟩, nmX8, rfl, by decide +kernel, rfl⟩
theorem cl_X8_50 : Cond.classLink RX8 50 "ArmSignals$Sight" ∈ tb := tb_of 193 (by decide +kernel) rfl
theorem nw_X8_50 : NW RX8 50 4 6 [.null, .null, vi 0, vi 0, vi 0, vi 0] := ⟨RX4, TX4, tyX4, rfl, cl_X8_50, tb_of 194 (by decide +kernel) rfl, tb_of 57 (by decide +kernel) rfl, inT4, tyX4_ok, fun j hj => by rcases (show j = 0 ∨ j = 1 ∨ j = 2 ∨ j = 3 ∨ j = 4 ∨ j = 5 by omega) with rfl | rfl | rfl | rfl | rfl | rfl <;> rfl⟩
theorem ic_X8_52 : IC RX8 52 uX4_init := ⟨tb_of 195 (by decide +kernel) rfl, tb_of 196 (by decide +kernel) rfl, tb_of 57 (by decide +kernel) rfl, tb_of 197 (by decide +kernel) rfl, rfl, rfl, ⟨by decide +kernel, by decide +kernel, by decide +kernel⟩⟩
theorem ip_X8_53 : FF RX8 53 8 8 (.object "ArmSignals$Sight") := ⟨RX8, TX8, 12, rfl, by decide, tb_of 293 (by decide +kernel) rfl, inT8, rfl, ⟨tyX8, tyX8_ok⟩, nmX8, rfl, by decide +kernel, rfl⟩
theorem cl_X8_57 : Cond.classLink RX8 57 "ArmSignals$Odds" ∈ tb := tb_of 221 (by decide +kernel) rfl
theorem nw_X8_57 : NW RX8 57 0 5 [.null, .null, .null, vi 0, vi 0] := ⟨RX0, TX0, tyX0, rfl, cl_X8_57, tb_of 222 (by decide +kernel) rfl, tb_of 58 (by decide +kernel) rfl, inT0, tyX0_ok, fun j hj => by rcases (show j = 0 ∨ j = 1 ∨ j = 2 ∨ j = 3 ∨ j = 4 by omega) with rfl | rfl | rfl | rfl | rfl <;> rfl⟩
theorem ic_X8_59 : IC RX8 59 uX0_init := ⟨tb_of 223 (by decide +kernel) rfl, tb_of 224 (by decide +kernel) rfl, tb_of 58 (by decide +kernel) rfl, tb_of 225 (by decide +kernel) rfl, rfl, rfl, ⟨by decide +kernel, by decide +kernel, by decide +kernel⟩⟩
theorem ip_X8_60 : FF RX8 60 8 9 (.object "ArmSignals$Odds") := ⟨RX8, TX8, 12, rfl, by decide, tb_of 294 (by decide +kernel) rfl, inT8, rfl, ⟨tyX8, tyX8_ok⟩, nmX8, rfl, by decide +kernel, rfl⟩
theorem cl_X8_64 : Cond.classLink RX8 64 "ArmSignals$Tape" ∈ tb := tb_of 245 (by decide +kernel) rfl
theorem nw_X8_64 : NW RX8 64 6 2 [.null, vi 0] := ⟨RX6, TX6, tyX6, rfl, cl_X8_64, tb_of 246 (by decide +kernel) rfl, tb_of 59 (by decide +kernel) rfl, inT6, tyX6_ok, fun j hj => by rcases (show j = 0 ∨ j = 1 by omega) with rfl | rfl <;> rfl⟩
theorem ic_X8_66 : IC RX8 66 uX6_init := ⟨tb_of 247 (by decide +kernel) rfl, tb_of 248 (by decide +kernel) rfl, tb_of 59 (by decide +kernel) rfl, tb_of 249 (by decide +kernel) rfl, rfl, rfl, ⟨by decide +kernel, by decide +kernel, by decide +kernel⟩⟩
theorem ip_X8_67 : FF RX8 67 8 10 (.object "ArmSignals$Tape") := ⟨RX8, TX8, 12, rfl, by decide, tb_of 295 (by decide +kernel) rfl, inT8, rfl, ⟨tyX8, tyX8_ok⟩, nmX8, rfl, by decide +kernel, rfl⟩
theorem cl_X8_71 : Cond.classLink RX8 71 "ArmSignals$Paper" ∈ tb := tb_of 259 (by decide +kernel) rfl
theorem ip_X8_73 : FF RX8 73 8 11 (.array (.object "ArmSignals$Paper")) := ⟨RX8, TX8, 12, rfl, by decide, tb_of 296 (by decide +kernel) rfl, inT8, rfl, ⟨tyX8, tyX8_ok⟩, nmX8, rfl, by decide +kernel, rfl⟩
theorem ig_X8_73 : FL RX8 73 8 11 := ⟨RX8, TX8, 12, rfl, by decide, tb_of 296 (by decide +kernel) rfl, inT8, rfl⟩
theorem nw_X8_71 : NW RX8 71 1 4 [vi 0, vi 0, vi 0, .null] := ⟨RX1, TX1, tyX1, rfl, cl_X8_71, tb_of 261 (by decide +kernel) rfl, tb_of 60 (by decide +kernel) rfl, inT1, tyX1_ok, fun j hj => by rcases (show j = 0 ∨ j = 1 ∨ j = 2 ∨ j = 3 by omega) with rfl | rfl | rfl | rfl <;> rfl⟩
theorem ic_X8_77 : IC RX8 77 uX1_init := ⟨tb_of 262 (by decide +kernel) rfl, tb_of 263 (by decide +kernel) rfl, tb_of 60 (by decide +kernel) rfl, tb_of 264 (by decide +kernel) rfl, rfl, rfl, ⟨by decide +kernel, by decide +kernel, by decide +kernel⟩⟩
theorem oi_X9 : OI RX9 1 := ⟨tb_of 793 (by decide +kernel) rfl, tb_of 72 (by decide +kernel) rfl, tb_of 73 (by decide +kernel) rfl⟩
theorem ip_X9_7 : FF RX9 7 9 0 (.array .int) := ⟨RX9, TX9, 26, rfl, by decide, tb_of 794 (by decide +kernel) rfl, inT9, rfl, ⟨tyX9, tyX9_ok⟩, nmX9, rfl, by decide +kernel, rfl⟩
theorem ip_X9_13 : FF RX9 13 9 1 (.array .int) := ⟨RX9, TX9, 26, rfl, by decide, tb_of 795 (by decide +kernel) rfl, inT9, rfl, ⟨tyX9, tyX9_ok⟩, nmX9, rfl, by decide +kernel, rfl⟩
theorem ip_X9_16 : FF RX9 16 9 2 (.array .int) := ⟨RX9, TX9, 26, rfl, by decide, tb_of 796 (by decide +kernel) rfl, inT9, rfl, ⟨tyX9, tyX9_ok⟩, nmX9, rfl, by decide +kernel, rfl⟩
theorem ip_X9_19 : FF RX9 19 9 6 (.array .int) := ⟨RX9, TX9, 26, rfl, by decide, tb_of 800 (by decide +kernel) rfl, inT9, rfl, ⟨tyX9, tyX9_ok⟩, nmX9, rfl, by decide +kernel, rfl⟩
theorem ip_X9_22 : FF RX9 22 9 7 (.array .int) := ⟨RX9, TX9, 26, rfl, by decide, tb_of 801 (by decide +kernel) rfl, inT9, rfl, ⟨tyX9, tyX9_ok⟩, nmX9, rfl, by decide +kernel, rfl⟩
theorem ip_X9_25 : FF RX9 25 9 8 (.array .int) := ⟨RX9, TX9, 26, rfl, by decide, tb_of 802 (by decide +kernel) rfl, inT9, rfl, ⟨tyX9, tyX9_ok⟩, nmX9, rfl, by decide +kernel, rfl⟩
theorem ip_X9_28 : FF RX9 28 9 13 (.array .int) := ⟨RX9, TX9, 26, rfl, by decide, tb_of 807 (by decide +kernel) rfl, inT9, rfl, ⟨tyX9, tyX9_ok⟩, nmX9, rfl, by decide +kernel, rfl⟩
theorem ip_X9_31 : FF RX9 31 9 17 (.array .int) := ⟨RX9, TX9, 26, rfl, by decide, tb_of 811 (by decide +kernel) rfl, inT9, rfl, ⟨tyX9, tyX9_ok⟩, nmX9, rfl, by decide +kernel, rfl⟩
theorem ip_X9_34 : FF RX9 34 9 19 (.array .int) := ⟨RX9, TX9, 26, rfl, by decide, tb_of 813 (by decide +kernel) rfl, inT9, rfl, ⟨tyX9, tyX9_ok⟩, nmX9, rfl, by decide +kernel, rfl⟩
theorem ip_X9_37 : FF RX9 37 9 20 (.array .int) := ⟨RX9, TX9, 26, rfl, by decide, tb_of 814 (by decide +kernel) rfl, inT9, rfl, ⟨tyX9, tyX9_ok⟩, nmX9, rfl, by decide +kernel, rfl⟩
theorem ip_X9_40 : FP RX9 40 9 21 .int := ⟨RX9, TX9, 26, rfl, by decide, tb_of 815 (by decide +kernel) rfl, inT9, rfl, ⟨tyX9, tyX9_ok⟩, nmX9, rfl, by decide +kernel⟩
theorem ip_X9_44 : FF RX9 44 9 22 (.array .int) := ⟨RX9, TX9, 26, rfl, by decide, tb_of 816 (by decide +kernel) rfl, inT9, rfl, ⟨tyX9, tyX9_ok⟩, nmX9, rfl, by decide +kernel, rfl⟩
theorem ip_X9_47 : FF RX9 47 9 23 (.array .int) := ⟨RX9, TX9, 26, rfl, by decide, tb_of 817 (by decide +kernel) rfl, inT9, rfl, ⟨tyX9, tyX9_ok⟩, nmX9, rfl, by decide +kernel, rfl⟩
theorem ip_X9_50 : FF RX9 50 9 24 (.array .long) := ⟨RX9, TX9, 26, rfl, by decide, tb_of 818 (by decide +kernel) rfl, inT9, rfl, ⟨tyX9, tyX9_ok⟩, nmX9, rfl, by decide +kernel, rfl⟩
theorem ip_X9_54 : FF RX9 54 9 25 (.array .long) := ⟨RX9, TX9, 26, rfl, by decide, tb_of 819 (by decide +kernel) rfl, inT9, rfl, ⟨tyX9, tyX9_ok⟩, nmX9, rfl, by decide +kernel, rfl⟩
theorem ig_X9_13 : FL RX9 13 9 1 := ⟨RX9, TX9, 26, rfl, by decide, tb_of 795 (by decide +kernel) rfl, inT9, rfl⟩
theorem ig_X9_44 : FL RX9 44 9 22 := ⟨RX9, TX9, 26, rfl, by decide, tb_of 816 (by decide +kernel) rfl, inT9, rfl⟩
def sgF : Nat → Int := up1 (up1 (up1 (up1 (up1 (up1 (up1 (up1 (up1 (up1 (up1 (up1 (up1 (up1 (up1 (up1 (up1 (up1 (up1 (up1 (up1 (up1 (up1 (up1 (up1 (up1 (up1 (fun _ => 0) 0 1) 1 2) 2 3) 3 4) 4 5) 5 6) 6 7) 7 12) 8 13) 9 46) 10 14) 11 15) 12 16) 13 17) 14 23) 15 24) 16 25) 17 26) 18 27) 19 34) 20 35) 21 47) 22 56) 23 57) 24 36) 25 67) 26 45
def nwF : Nat → Int := up1 (up1 (up1 (fun _ => 0) 2 1) 3 1) 4 1
def laF : Nat → Int := up1 (up1 (up1 (up1 (fun _ => 0) 0 (-1)) 1 (-1)) 2 (-1)) 3 (-1)
def wL5 (C : Nat → ClassId) (h : Nat) (x : Nat → Nat) : va_W := [(h, .inr (5, [.ref (x 1), vi 0, .ref (x 2), .ref (x 3), vi 0, vi 1, vi 1, vi 1])), (x 1, .inl (C 0, 12, .inl (fun _ => Int32.ofInt 0))), (x 2, .inl (C 0, 36, .inl (fun _ => Int32.ofInt 0))), (x 3, .inl (C 0, 6, .inl (fun _ => Int32.ofInt 0)))]
def wL1 (C : Nat → ClassId) (h : Nat) (x : Nat → Nat) : va_W := [(h, .inr (1, [vi 0, vi 0, vi 0, .ref (x 1)])), (x 1, .inl (C 1, 24, .inr (.inl (fun _ => Int64.ofInt 0))))]
def wL2 (C : Nat → ClassId) (h : Nat) (x : Nat → Nat) : va_W := [(h, .inr (2, [.ref (x 1), vi 0, vi 0])), (x 1, .inl (C 2, 6, .inr (.inr (.inr (.inr (fun j => ([some (x 2), some (x 6), some (x 10), some (x 14), some (x 18), some (x 22)] : List (Option Nat)).getD j none)))))), (x 2, .inr (5, [.ref (x 3), vi 0, .ref (x 4), .ref (x 5), vi 0, vi 1, vi 1, vi 1])), (x 3, .inl (C 0, 12, .inl (fun _ => Int32.ofInt 0))), (x 4, .inl (C 0, 36, .inl (fun _ => Int32.ofInt 0))), (x 5, .inl (C 0, 6, .inl (fun _ => Int32.ofInt 0))), (x 6, .inr (5, [.ref (x 7), vi 0, .ref (x 8), .ref (x 9), vi 0, vi 1, vi 1, vi 1])), (x 7, .inl (C 0, 12, .inl (fun _ => Int32.ofInt 0))), (x 8, .inl (C 0, 36, .inl (fun _ => Int32.ofInt 0))), (x 9, .inl (C 0, 6, .inl (fun _ => Int32.ofInt 0))), (x 10, .inr (5, [.ref (x 11), vi 0, .ref (x 12), .ref (x 13), vi 0, vi 1, vi 1, vi 1])), (x 11, .inl (C 0, 12, .inl (fun _ => Int32.ofInt 0))), (x 12, .inl (C 0, 36, .inl (fun _ => Int32.ofInt 0))), (x 13, .inl (C 0, 6, .inl (fun _ => Int32.ofInt 0))), (x 14, .inr (5, [.ref (x 15), vi 0, .ref (x 16), .ref (x 17), vi 0, vi 1, vi 1, vi 1])), (x 15, .inl (C 0, 12, .inl (fun _ => Int32.ofInt 0))), (x 16, .inl (C 0, 36, .inl (fun _ => Int32.ofInt 0))), (x 17, .inl (C 0, 6, .inl (fun _ => Int32.ofInt 0))), (x 18, .inr (5, [.ref (x 19), vi 0, .ref (x 20), .ref (x 21), vi 0, vi 1, vi 1, vi 1])), (x 19, .inl (C 0, 12, .inl (fun _ => Int32.ofInt 0))), (x 20, .inl (C 0, 36, .inl (fun _ => Int32.ofInt 0))), (x 21, .inl (C 0, 6, .inl (fun _ => Int32.ofInt 0))), (x 22, .inr (5, [.ref (x 23), vi 0, .ref (x 24), .ref (x 25), vi 0, vi 1, vi 1, vi 1])), (x 23, .inl (C 0, 12, .inl (fun _ => Int32.ofInt 0))), (x 24, .inl (C 0, 36, .inl (fun _ => Int32.ofInt 0))), (x 25, .inl (C 0, 6, .inl (fun _ => Int32.ofInt 0)))]
def wL7 (C : Nat → ClassId) (h : Nat) (x : Nat → Nat) : va_W := [(h, .inr (7, [.ref (x 1), .ref (x 2), .ref (x 3), .ref (x 4), .ref (x 5), vi 0])), (x 1, .inl (C 0, 13, .inl (fun _ => Int32.ofInt 0))), (x 2, .inl (C 0, 13, .inl (fun _ => Int32.ofInt 0))), (x 3, .inl (C 0, 26, .inl (fun _ => Int32.ofInt 0))), (x 4, .inl (C 0, 26, .inl (fun _ => Int32.ofInt 0))), (x 5, .inl (C 0, 13, .inl (fun _ => Int32.ofInt 0)))]
def wL3 (C : Nat → ClassId) (h : Nat) (x : Nat → Nat) : va_W := [(h, .inr (3, [.ref (x 1), .ref (x 2), .ref (x 3), .ref (x 4), vi 0])), (x 1, .inl (C 0, 182, .inl (fun _ => Int32.ofInt 0))), (x 2, .inl (C 0, 182, .inl (fun _ => Int32.ofInt 0))), (x 3, .inl (C 0, 182, .inl (fun _ => Int32.ofInt 0))), (x 4, .inl (C 0, 2, .inl (fun _ => Int32.ofInt 0)))]
def wL4 (C : Nat → ClassId) (h : Nat) (x : Nat → Nat) : va_W := [(h, .inr (4, [.ref (x 1), .ref (x 2), vi 0, vi (-4), vi 0, vi 0])), (x 1, .inl (C 0, 12, .inl (fun _ => Int32.ofInt 0))), (x 2, .inl (C 0, 12, .inl (fun _ => Int32.ofInt 0)))]
def wL0 (C : Nat → ClassId) (h : Nat) (x : Nat → Nat) : va_W := [(h, .inr (0, [.ref (x 1), .ref (x 2), .ref (x 3), vi 0, vi 1])), (x 1, .inl (C 0, 36, .inl (fun _ => Int32.ofInt 0))), (x 2, .inl (C 0, 36, .inl (fun _ => Int32.ofInt 0))), (x 3, .inl (C 0, 7, .inl (fun _ => Int32.ofInt 0)))]
def wL6 (C : Nat → ClassId) (h : Nat) (x : Nat → Nat) : va_W := [(h, .inr (6, [.ref (x 1), vi 0])), (x 1, .inl (C 0, 90, .inl (fun _ => Int32.ofInt 0)))]
def wL9 (C : Nat → ClassId) (h : Nat) (x : Nat → Nat) : va_W := [(h, .inr (9, [.ref (x 1), .ref (x 2), .ref (x 3), vi 0, vi 0, vi 0, .ref (x 4), .ref (x 5), .ref (x 6), vi 0, vi 0, vi 0, vi 0, .ref (x 7), vi 0, vi 0, vi 0, .ref (x 8), vi 0, .ref (x 9), .ref (x 10), vi (-1), .ref (x 11), .ref (x 12), .ref (x 13), .ref (x 14)])), (x 1, .inl (C 0, 27, .inl (fun j => Int32.ofInt (sgF j)))), (x 2, .inl (C 0, 59, .inl (fun j => Int32.ofInt (nwF j)))), (x 3, .inl (C 0, 59, .inl (fun _ => Int32.ofInt 0))), (x 4, .inl (C 0, 702, .inl (fun _ => Int32.ofInt 0))), (x 5, .inl (C 0, 12, .inl (fun _ => Int32.ofInt 0))), (x 6, .inl (C 0, 12, .inl (fun _ => Int32.ofInt 0))), (x 7, .inl (C 0, 90, .inl (fun _ => Int32.ofInt 0))), (x 8, .inl (C 0, 354, .inl (fun _ => Int32.ofInt 0))), (x 9, .inl (C 0, 59, .inl (fun _ => Int32.ofInt 0))), (x 10, .inl (C 0, 354, .inl (fun _ => Int32.ofInt 0))), (x 11, .inl (C 0, 4, .inl (fun j => Int32.ofInt (laF j)))), (x 12, .inl (C 0, 4, .inl (fun _ => Int32.ofInt 0))), (x 13, .inl (C 1, 96, .inr (.inl (fun _ => Int64.ofInt 0)))), (x 14, .inl (C 1, 24, .inr (.inl (fun _ => Int64.ofInt 0))))]
def wL8 (C : Nat → ClassId) (h : Nat) (b : Nat → Nat) (a : Nat → Nat → Nat) : va_W := (h, .inr (8, [.ref (b 1), .ref (b 2), .ref (b 3), .ref (b 4), vi 0, .ref (b 5), .ref (b 6), .ref (b 7), .ref (b 8), .ref (b 9), .ref (b 10), .ref (b 11)])) :: (((((((((((([] ++ wL5 C (b 1) (a 1)) ++ wL2 C (b 2) (a 2)) ++ wL5 C (b 3) (a 3)) ++ wL2 C (b 4) (a 4)) ++ wL5 C (b 5) (a 5)) ++ wL7 C (b 6) (a 6)) ++ wL3 C (b 7) (a 7)) ++ wL4 C (b 8) (a 8)) ++ wL0 C (b 9) (a 9)) ++ wL6 C (b 10) (a 10)) ++ [(b 11, .inl (C 3, 4, .inr (.inr (.inr (.inr (fun j => ([some (b 12), some (b 13), some (b 14), some (b 15)] : List (Option Nat)).getD j none))))))]) ++ (((wL1 C (b 12) (a 12) ++ wL1 C (b 13) (a 13)) ++ wL1 C (b 14) (a 14)) ++ wL1 C (b 15) (a 15)))
theorem up6 (a b c d e f : Nat) : va_up (va_up (va_up (va_up (va_up (va_up (fun _ => none) 0 (some a)) 1 (some b)) 2 (some c)) 3 (some d)) 4 (some e)) 5 (some f) = fun j => ([some a, some b, some c, some d, some e, some f] : List (Option Nat)).getD j none := by
  funext j
  rcases j with _ | _ | _ | _ | _ | _ | j <;> simp [va_up]
theorem up4 (a b c d : Nat) : va_up (va_up (va_up (va_up (fun _ => none) 0 (some a)) 1 (some b)) 2 (some c)) 3 (some d) = fun j => ([some a, some b, some c, some d] : List (Option Nat)).getD j none := by
  funext j
  rcases j with _ | _ | _ | _ | j <;> simp [va_up]

def rmX5 : Room := { frames := 1, cells := 3, slots := 54, locals := 12 }
set_option maxRecDepth 100000 in
set_option maxHeartbeats 4000000 in
theorem Cb_X5 (l : Launch) (D : va_G) (C : Nat → ClassId) (h0 : Nat) : Cb l D C uX5_init rmX5 h0 (.inr (5, [.null, vi 0, .null, .null, vi 0, vi 0, vi 0, vi 0])) (fun w => ∃ x : Nat → Nat, w = wL5 C h0 x) := by
  refine Cb.of (by decide) rfl rfl (by decide) ?_
  refine BW.aload dX5_init_0 0 rfl rfl ?_
  refine BW.objI dX5_init_1 oi_X5 (Nat.le_of_ble_eq_true rfl) (Nat.le_of_ble_eq_true rfl) ?_
  refine BW.aload dX5_init_4 0 rfl rfl ?_
  refine BW.bipush (z := (12)) dX5_init_5 (by decide) ?_
  refine BW.newI (N := 12) dX5_init_7 wI rfl (by decide) (Nat.le_of_ble_eq_true rfl) (Nat.le_of_ble_eq_true rfl) (fun q7_5 => ?_)
  refine BW.eqw (show _ = ([(h0, .inr (5, [.null, vi 0, .null, .null, vi 0, vi 0, vi 0, vi 0])), (q7_5, .inl (C 0, 12, .inl (fun _ => Int32.ofInt 0)))] : va_W) from rfl) ?_
  refine BW.putF dX5_init_9 ip_X5_9 0 rfl rfl rfl (Nat.le_of_ble_eq_true rfl) ?_
  refine BW.eqw (show _ = ([(h0, .inr (5, [.ref q7_5, vi 0, .null, .null, vi 0, vi 0, vi 0, vi 0])), (q7_5, .inl (C 0, 12, .inl (fun _ => Int32.ofInt 0)))] : va_W) from rfl) ?_
  refine BW.aload dX5_init_12 0 rfl rfl ?_
  refine BW.iconst dX5_init_13 ?_
  refine BW.put dX5_init_14 ip_X5_15 0 rfl rfl rfl (Nat.le_of_ble_eq_true rfl) ?_
  refine BW.eqw (show _ = ([(h0, .inr (5, [.ref q7_5, vi 0, .null, .null, vi 0, vi 0, vi 0, vi 0])), (q7_5, .inl (C 0, 12, .inl (fun _ => Int32.ofInt 0)))] : va_W) from rfl) ?_
  refine BW.aload dX5_init_17 0 rfl rfl ?_
  refine BW.bipush (z := (36)) dX5_init_18 (by decide) ?_
  refine BW.newI (N := 36) dX5_init_20 wI rfl (by decide) (Nat.le_of_ble_eq_true rfl) (Nat.le_of_ble_eq_true rfl) (fun q20_12 => ?_)
  refine BW.eqw (show _ = ([(h0, .inr (5, [.ref q7_5, vi 0, .null, .null, vi 0, vi 0, vi 0, vi 0])), (q7_5, .inl (C 0, 12, .inl (fun _ => Int32.ofInt 0))), (q20_12, .inl (C 0, 36, .inl (fun _ => Int32.ofInt 0)))] : va_W) from rfl) ?_
  refine BW.putF dX5_init_22 ip_X5_19 0 rfl rfl rfl (Nat.le_of_ble_eq_true rfl) ?_
  refine BW.eqw (show _ = ([(h0, .inr (5, [.ref q7_5, vi 0, .ref q20_12, .null, vi 0, vi 0, vi 0, vi 0])), (q7_5, .inl (C 0, 12, .inl (fun _ => Int32.ofInt 0))), (q20_12, .inl (C 0, 36, .inl (fun _ => Int32.ofInt 0)))] : va_W) from rfl) ?_
  refine BW.aload dX5_init_25 0 rfl rfl ?_
  refine BW.bipush (z := (6)) dX5_init_26 (by decide) ?_
  refine BW.newI (N := 6) dX5_init_28 wI rfl (by decide) (Nat.le_of_ble_eq_true rfl) (Nat.le_of_ble_eq_true rfl) (fun q28_16 => ?_)
  refine BW.eqw (show _ = ([(h0, .inr (5, [.ref q7_5, vi 0, .ref q20_12, .null, vi 0, vi 0, vi 0, vi 0])), (q7_5, .inl (C 0, 12, .inl (fun _ => Int32.ofInt 0))), (q20_12, .inl (C 0, 36, .inl (fun _ => Int32.ofInt 0))), (q28_16, .inl (C 0, 6, .inl (fun _ => Int32.ofInt 0)))] : va_W) from rfl) ?_
  refine BW.putF dX5_init_30 ip_X5_22 0 rfl rfl rfl (Nat.le_of_ble_eq_true rfl) ?_
  refine BW.eqw (show _ = ([(h0, .inr (5, [.ref q7_5, vi 0, .ref q20_12, .ref q28_16, vi 0, vi 0, vi 0, vi 0])), (q7_5, .inl (C 0, 12, .inl (fun _ => Int32.ofInt 0))), (q20_12, .inl (C 0, 36, .inl (fun _ => Int32.ofInt 0))), (q28_16, .inl (C 0, 6, .inl (fun _ => Int32.ofInt 0)))] : va_W) from rfl) ?_
  refine BW.aload dX5_init_33 0 rfl rfl ?_
  refine BW.iconst dX5_init_34 ?_
  refine BW.put dX5_init_35 ip_X5_25 0 rfl rfl rfl (Nat.le_of_ble_eq_true rfl) ?_
  refine BW.eqw (show _ = ([(h0, .inr (5, [.ref q7_5, vi 0, .ref q20_12, .ref q28_16, vi 0, vi 0, vi 0, vi 0])), (q7_5, .inl (C 0, 12, .inl (fun _ => Int32.ofInt 0))), (q20_12, .inl (C 0, 36, .inl (fun _ => Int32.ofInt 0))), (q28_16, .inl (C 0, 6, .inl (fun _ => Int32.ofInt 0)))] : va_W) from rfl) ?_
  refine BW.aload dX5_init_38 0 rfl rfl ?_
  refine BW.iconst dX5_init_39 ?_
  refine BW.put dX5_init_40 ip_X5_28 0 rfl rfl rfl (Nat.le_of_ble_eq_true rfl) ?_
  refine BW.eqw (show _ = ([(h0, .inr (5, [.ref q7_5, vi 0, .ref q20_12, .ref q28_16, vi 0, vi 1, vi 0, vi 0])), (q7_5, .inl (C 0, 12, .inl (fun _ => Int32.ofInt 0))), (q20_12, .inl (C 0, 36, .inl (fun _ => Int32.ofInt 0))), (q28_16, .inl (C 0, 6, .inl (fun _ => Int32.ofInt 0)))] : va_W) from rfl) ?_
  refine BW.aload dX5_init_43 0 rfl rfl ?_
  refine BW.iconst dX5_init_44 ?_
  refine BW.put dX5_init_45 ip_X5_31 0 rfl rfl rfl (Nat.le_of_ble_eq_true rfl) ?_
  refine BW.eqw (show _ = ([(h0, .inr (5, [.ref q7_5, vi 0, .ref q20_12, .ref q28_16, vi 0, vi 1, vi 1, vi 0])), (q7_5, .inl (C 0, 12, .inl (fun _ => Int32.ofInt 0))), (q20_12, .inl (C 0, 36, .inl (fun _ => Int32.ofInt 0))), (q28_16, .inl (C 0, 6, .inl (fun _ => Int32.ofInt 0)))] : va_W) from rfl) ?_
  refine BW.aload dX5_init_48 0 rfl rfl ?_
  refine BW.iconst dX5_init_49 ?_
  refine BW.put dX5_init_50 ip_X5_34 0 rfl rfl rfl (Nat.le_of_ble_eq_true rfl) ?_
  refine BW.eqw (show _ = ([(h0, .inr (5, [.ref q7_5, vi 0, .ref q20_12, .ref q28_16, vi 0, vi 1, vi 1, vi 1])), (q7_5, .inl (C 0, 12, .inl (fun _ => Int32.ofInt 0))), (q20_12, .inl (C 0, 36, .inl (fun _ => Int32.ofInt 0))), (q28_16, .inl (C 0, 6, .inl (fun _ => Int32.ofInt 0)))] : va_W) from rfl) ?_
  exact BW.vret dX5_init_53 (Nat.le_of_ble_eq_true rfl) (Nat.le_of_ble_eq_true rfl) ⟨fun k => ([h0, q7_5, q20_12, q28_16] : List Nat).getD k 0, rfl⟩

def rmX1 : Room := { frames := 1, cells := 1, slots := 24, locals := 12 }
set_option maxRecDepth 100000 in
set_option maxHeartbeats 4000000 in
theorem Cb_X1 (l : Launch) (D : va_G) (C : Nat → ClassId) (h0 : Nat) : Cb l D C uX1_init rmX1 h0 (.inr (1, [vi 0, vi 0, vi 0, .null])) (fun w => ∃ x : Nat → Nat, w = wL1 C h0 x) := by
  refine Cb.of (by decide) rfl rfl (by decide) ?_
  refine BW.aload dX1_init_0 0 rfl rfl ?_
  refine BW.objI dX1_init_1 oi_X1 (Nat.le_of_ble_eq_true rfl) (Nat.le_of_ble_eq_true rfl) ?_
  refine BW.aload dX1_init_4 0 rfl rfl ?_
  refine BW.iconst dX1_init_5 ?_
  refine BW.put dX1_init_6 ip_X1_9 0 rfl rfl rfl (Nat.le_of_ble_eq_true rfl) ?_
  refine BW.eqw (show _ = ([(h0, .inr (1, [vi 0, vi 0, vi 0, .null]))] : va_W) from rfl) ?_
  refine BW.aload dX1_init_9 0 rfl rfl ?_
  refine BW.iconst dX1_init_10 ?_
  refine BW.put dX1_init_11 ip_X1_15 0 rfl rfl rfl (Nat.le_of_ble_eq_true rfl) ?_
  refine BW.eqw (show _ = ([(h0, .inr (1, [vi 0, vi 0, vi 0, .null]))] : va_W) from rfl) ?_
  refine BW.aload dX1_init_14 0 rfl rfl ?_
  refine BW.iconst dX1_init_15 ?_
  refine BW.put dX1_init_16 ip_X1_19 0 rfl rfl rfl (Nat.le_of_ble_eq_true rfl) ?_
  refine BW.eqw (show _ = ([(h0, .inr (1, [vi 0, vi 0, vi 0, .null]))] : va_W) from rfl) ?_
  refine BW.aload dX1_init_19 0 rfl rfl ?_
  refine BW.bipush (z := (24)) dX1_init_20 (by decide) ?_
  refine BW.newL (N := 24) dX1_init_22 wJ rfl (by decide) (Nat.le_of_ble_eq_true rfl) (Nat.le_of_ble_eq_true rfl) (fun q22_14 => ?_)
  refine BW.eqw (show _ = ([(h0, .inr (1, [vi 0, vi 0, vi 0, .null])), (q22_14, .inl (C 1, 24, .inr (.inl (fun _ => Int64.ofInt 0))))] : va_W) from rfl) ?_
  refine BW.putF dX1_init_24 ip_X1_22 0 rfl rfl rfl (Nat.le_of_ble_eq_true rfl) ?_
  refine BW.eqw (show _ = ([(h0, .inr (1, [vi 0, vi 0, vi 0, .ref q22_14])), (q22_14, .inl (C 1, 24, .inr (.inl (fun _ => Int64.ofInt 0))))] : va_W) from rfl) ?_
  exact BW.vret dX1_init_27 (Nat.le_of_ble_eq_true rfl) (Nat.le_of_ble_eq_true rfl) ⟨fun k => ([h0, q22_14] : List Nat).getD k 0, rfl⟩

def rmX2 : Room := { frames := 2, cells := 25, slots := 378, locals := 32 }
set_option maxRecDepth 100000 in
set_option maxHeartbeats 4000000 in
theorem Cb_X2 (l : Launch) (D : va_G) (C : Nat → ClassId) (h0 : Nat) : Cb l D C uX2_init rmX2 h0 (.inr (2, [.null, vi 0, vi 0])) (fun w => ∃ x : Nat → Nat, w = wL2 C h0 x) := by
  refine Cb.of (by decide) rfl rfl (by decide) ?_
  refine BW.aload dX2_init_0 0 rfl rfl ?_
  refine BW.objI dX2_init_1 oi_X2 (Nat.le_of_ble_eq_true rfl) (Nat.le_of_ble_eq_true rfl) ?_
  refine BW.aload dX2_init_4 0 rfl rfl ?_
  refine BW.bipush (z := (6)) dX2_init_5 (by decide) ?_
  refine BW.newS (N := 6) dX2_init_7 cl_X2_9 rfl (by decide) (Nat.le_of_ble_eq_true rfl) (Nat.le_of_ble_eq_true rfl) (fun q7_5 => ?_)
  refine BW.eqw (show _ = ([(h0, .inr (2, [.null, vi 0, vi 0])), (q7_5, .inl (C 2, 6, .inr (.inr (.inr (.inr (fun _ => none))))))] : va_W) from rfl) ?_
  refine BW.putF dX2_init_10 ip_X2_11 0 rfl rfl rfl (Nat.le_of_ble_eq_true rfl) ?_
  refine BW.eqw (show _ = ([(h0, .inr (2, [.ref q7_5, vi 0, vi 0])), (q7_5, .inl (C 2, 6, .inr (.inr (.inr (.inr (fun _ => none))))))] : va_W) from rfl) ?_
  refine BW.aload dX2_init_13 0 rfl rfl ?_
  refine BW.iconst dX2_init_14 ?_
  refine BW.put dX2_init_15 ip_X2_17 0 rfl rfl rfl (Nat.le_of_ble_eq_true rfl) ?_
  refine BW.eqw (show _ = ([(h0, .inr (2, [.ref q7_5, vi 0, vi 0])), (q7_5, .inl (C 2, 6, .inr (.inr (.inr (.inr (fun _ => none))))))] : va_W) from rfl) ?_
  refine BW.aload dX2_init_18 0 rfl rfl ?_
  refine BW.iconst dX2_init_19 ?_
  refine BW.put dX2_init_20 ip_X2_21 0 rfl rfl rfl (Nat.le_of_ble_eq_true rfl) ?_
  refine BW.eqw (show _ = ([(h0, .inr (2, [.ref q7_5, vi 0, vi 0])), (q7_5, .inl (C 2, 6, .inr (.inr (.inr (.inr (fun _ => none))))))] : va_W) from rfl) ?_
  refine BW.iconst dX2_init_23 ?_
  refine BW.istore [(1, vi (0)), (0, .ref h0)] dX2_init_24 rfl (by decide) rfl ?_
  refine BW.iload dX2_init_25 0 rfl rfl ?_
  refine BW.bipush (z := (6)) dX2_init_26 (by decide) ?_
  refine BW.ge 50 dX2_init_28 (by decide) (by decide) (by decide) (fun c => absurd c (by decide)) (fun _ => ?_)
  refine BW.aload dX2_init_31 1 rfl rfl ?_
  refine BW.getR dX2_init_32 ig_X2_11 0 rfl rfl ?_
  refine BW.iload dX2_init_35 0 rfl rfl ?_
  refine BW.new dX2_init_36 nw_X2_9 (Nat.le_of_ble_eq_true rfl) (Nat.le_of_ble_eq_true rfl) (fun q36_21 => ?_)
  refine BW.dup dX2_init_39 rfl ?_
  refine BW.make (Cb_X5 l D C q36_21) dX2_init_40 ic_X2_24 ⟨(Nat.le_of_ble_eq_true rfl), (Nat.le_of_ble_eq_true rfl)⟩ ⟨(Nat.le_of_ble_eq_true rfl), (Nat.le_of_ble_eq_true rfl)⟩ (Nat.le_of_ble_eq_true rfl) (fun w1 hw1 => ?_)
  obtain ⟨x40_23, rfl⟩ := hw1
  refine BW.eqw (show _ = ([(h0, .inr (2, [.ref q7_5, vi 0, vi 0])), (q7_5, .inl (C 2, 6, .inr (.inr (.inr (.inr (fun _ => none)))))), (q36_21, .inr (5, [.ref (x40_23 1), vi 0, .ref (x40_23 2), .ref (x40_23 3), vi 0, vi 1, vi 1, vi 1])), (x40_23 1, .inl (C 0, 12, .inl (fun _ => Int32.ofInt 0))), (x40_23 2, .inl (C 0, 36, .inl (fun _ => Int32.ofInt 0))), (x40_23 3, .inl (C 0, 6, .inl (fun _ => Int32.ofInt 0)))] : va_W) from rfl) ?_
  refine BW.aastS dX2_init_43 1 2 rfl rfl (by decide) (by decide) (by decide) ?_
  refine BW.eqw (show _ = ([(h0, .inr (2, [.ref q7_5, vi 0, vi 0])), (q7_5, .inl (C 2, 6, .inr (.inr (.inr (.inr (va_up (fun _ => none) 0 (some q36_21))))))), (q36_21, .inr (5, [.ref (x40_23 1), vi 0, .ref (x40_23 2), .ref (x40_23 3), vi 0, vi 1, vi 1, vi 1])), (x40_23 1, .inl (C 0, 12, .inl (fun _ => Int32.ofInt 0))), (x40_23 2, .inl (C 0, 36, .inl (fun _ => Int32.ofInt 0))), (x40_23 3, .inl (C 0, 6, .inl (fun _ => Int32.ofInt 0)))] : va_W) from rfl) ?_
  refine BW.iinc [(1, vi (1)), (0, .ref h0)] dX2_init_44 0 rfl (by decide) (1) rfl rfl ?_
  refine BW.goto 25 dX2_init_47 (by decide) ?_
  refine BW.iload dX2_init_25 0 rfl rfl ?_
  refine BW.bipush (z := (6)) dX2_init_26 (by decide) ?_
  refine BW.ge 50 dX2_init_28 (by decide) (by decide) (by decide) (fun c => absurd c (by decide)) (fun _ => ?_)
  refine BW.aload dX2_init_31 1 rfl rfl ?_
  refine BW.getR dX2_init_32 ig_X2_11 0 rfl rfl ?_
  refine BW.iload dX2_init_35 0 rfl rfl ?_
  refine BW.new dX2_init_36 nw_X2_9 (Nat.le_of_ble_eq_true rfl) (Nat.le_of_ble_eq_true rfl) (fun q36_33 => ?_)
  refine BW.dup dX2_init_39 rfl ?_
  refine BW.make (Cb_X5 l D C q36_33) dX2_init_40 ic_X2_24 ⟨(Nat.le_of_ble_eq_true rfl), (Nat.le_of_ble_eq_true rfl)⟩ ⟨(Nat.le_of_ble_eq_true rfl), (Nat.le_of_ble_eq_true rfl)⟩ (Nat.le_of_ble_eq_true rfl) (fun w1 hw1 => ?_)
  obtain ⟨x40_35, rfl⟩ := hw1
  refine BW.eqw (show _ = ([(h0, .inr (2, [.ref q7_5, vi 0, vi 0])), (q7_5, .inl (C 2, 6, .inr (.inr (.inr (.inr (va_up (fun _ => none) 0 (some q36_21))))))), (q36_21, .inr (5, [.ref (x40_23 1), vi 0, .ref (x40_23 2), .ref (x40_23 3), vi 0, vi 1, vi 1, vi 1])), (x40_23 1, .inl (C 0, 12, .inl (fun _ => Int32.ofInt 0))), (x40_23 2, .inl (C 0, 36, .inl (fun _ => Int32.ofInt 0))), (x40_23 3, .inl (C 0, 6, .inl (fun _ => Int32.ofInt 0))), (q36_33, .inr (5, [.ref (x40_35 1), vi 0, .ref (x40_35 2), .ref (x40_35 3), vi 0, vi 1, vi 1, vi 1])), (x40_35 1, .inl (C 0, 12, .inl (fun _ => Int32.ofInt 0))), (x40_35 2, .inl (C 0, 36, .inl (fun _ => Int32.ofInt 0))), (x40_35 3, .inl (C 0, 6, .inl (fun _ => Int32.ofInt 0)))] : va_W) from rfl) ?_
  refine BW.aastS dX2_init_43 1 6 rfl rfl (by decide) (by decide) (by decide) ?_
  refine BW.eqw (show _ = ([(h0, .inr (2, [.ref q7_5, vi 0, vi 0])), (q7_5, .inl (C 2, 6, .inr (.inr (.inr (.inr (va_up (va_up (fun _ => none) 0 (some q36_21)) 1 (some q36_33))))))), (q36_21, .inr (5, [.ref (x40_23 1), vi 0, .ref (x40_23 2), .ref (x40_23 3), vi 0, vi 1, vi 1, vi 1])), (x40_23 1, .inl (C 0, 12, .inl (fun _ => Int32.ofInt 0))), (x40_23 2, .inl (C 0, 36, .inl (fun _ => Int32.ofInt 0))), (x40_23 3, .inl (C 0, 6, .inl (fun _ => Int32.ofInt 0))), (q36_33, .inr (5, [.ref (x40_35 1), vi 0, .ref (x40_35 2), .ref (x40_35 3), vi 0, vi 1, vi 1, vi 1])), (x40_35 1, .inl (C 0, 12, .inl (fun _ => Int32.ofInt 0))), (x40_35 2, .inl (C 0, 36, .inl (fun _ => Int32.ofInt 0))), (x40_35 3, .inl (C 0, 6, .inl (fun _ => Int32.ofInt 0)))] : va_W) from rfl) ?_
  refine BW.iinc [(1, vi (2)), (0, .ref h0)] dX2_init_44 0 rfl (by decide) (2) rfl rfl ?_
  refine BW.goto 25 dX2_init_47 (by decide) ?_
  refine BW.iload dX2_init_25 0 rfl rfl ?_
  refine BW.bipush (z := (6)) dX2_init_26 (by decide) ?_
  refine BW.ge 50 dX2_init_28 (by decide) (by decide) (by decide) (fun c => absurd c (by decide)) (fun _ => ?_)
  refine BW.aload dX2_init_31 1 rfl rfl ?_
  refine BW.getR dX2_init_32 ig_X2_11 0 rfl rfl ?_
  refine BW.iload dX2_init_35 0 rfl rfl ?_
  refine BW.new dX2_init_36 nw_X2_9 (Nat.le_of_ble_eq_true rfl) (Nat.le_of_ble_eq_true rfl) (fun q36_45 => ?_)
  refine BW.dup dX2_init_39 rfl ?_
  refine BW.make (Cb_X5 l D C q36_45) dX2_init_40 ic_X2_24 ⟨(Nat.le_of_ble_eq_true rfl), (Nat.le_of_ble_eq_true rfl)⟩ ⟨(Nat.le_of_ble_eq_true rfl), (Nat.le_of_ble_eq_true rfl)⟩ (Nat.le_of_ble_eq_true rfl) (fun w1 hw1 => ?_)
  obtain ⟨x40_47, rfl⟩ := hw1
  refine BW.eqw (show _ = ([(h0, .inr (2, [.ref q7_5, vi 0, vi 0])), (q7_5, .inl (C 2, 6, .inr (.inr (.inr (.inr (va_up (va_up (fun _ => none) 0 (some q36_21)) 1 (some q36_33))))))), (q36_21, .inr (5, [.ref (x40_23 1), vi 0, .ref (x40_23 2), .ref (x40_23 3), vi 0, vi 1, vi 1, vi 1])), (x40_23 1, .inl (C 0, 12, .inl (fun _ => Int32.ofInt 0))), (x40_23 2, .inl (C 0, 36, .inl (fun _ => Int32.ofInt 0))), (x40_23 3, .inl (C 0, 6, .inl (fun _ => Int32.ofInt 0))), (q36_33, .inr (5, [.ref (x40_35 1), vi 0, .ref (x40_35 2), .ref (x40_35 3), vi 0, vi 1, vi 1, vi 1])), (x40_35 1, .inl (C 0, 12, .inl (fun _ => Int32.ofInt 0))), (x40_35 2, .inl (C 0, 36, .inl (fun _ => Int32.ofInt 0))), (x40_35 3, .inl (C 0, 6, .inl (fun _ => Int32.ofInt 0))), (q36_45, .inr (5, [.ref (x40_47 1), vi 0, .ref (x40_47 2), .ref (x40_47 3), vi 0, vi 1, vi 1, vi 1])), (x40_47 1, .inl (C 0, 12, .inl (fun _ => Int32.ofInt 0))), (x40_47 2, .inl (C 0, 36, .inl (fun _ => Int32.ofInt 0))), (x40_47 3, .inl (C 0, 6, .inl (fun _ => Int32.ofInt 0)))] : va_W) from rfl) ?_
  refine BW.aastS dX2_init_43 1 10 rfl rfl (by decide) (by decide) (by decide) ?_
  refine BW.eqw (show _ = ([(h0, .inr (2, [.ref q7_5, vi 0, vi 0])), (q7_5, .inl (C 2, 6, .inr (.inr (.inr (.inr (va_up (va_up (va_up (fun _ => none) 0 (some q36_21)) 1 (some q36_33)) 2 (some q36_45))))))), (q36_21, .inr (5, [.ref (x40_23 1), vi 0, .ref (x40_23 2), .ref (x40_23 3), vi 0, vi 1, vi 1, vi 1])), (x40_23 1, .inl (C 0, 12, .inl (fun _ => Int32.ofInt 0))), (x40_23 2, .inl (C 0, 36, .inl (fun _ => Int32.ofInt 0))), (x40_23 3, .inl (C 0, 6, .inl (fun _ => Int32.ofInt 0))), (q36_33, .inr (5, [.ref (x40_35 1), vi 0, .ref (x40_35 2), .ref (x40_35 3), vi 0, vi 1, vi 1, vi 1])), (x40_35 1, .inl (C 0, 12, .inl (fun _ => Int32.ofInt 0))), (x40_35 2, .inl (C 0, 36, .inl (fun _ => Int32.ofInt 0))), (x40_35 3, .inl (C 0, 6, .inl (fun _ => Int32.ofInt 0))), (q36_45, .inr (5, [.ref (x40_47 1), vi 0, .ref (x40_47 2), .ref (x40_47 3), vi 0, vi 1, vi 1, vi 1])), (x40_47 1, .inl (C 0, 12, .inl (fun _ => Int32.ofInt 0))), (x40_47 2, .inl (C 0, 36, .inl (fun _ => Int32.ofInt 0))), (x40_47 3, .inl (C 0, 6, .inl (fun _ => Int32.ofInt 0)))] : va_W) from rfl) ?_
  refine BW.iinc [(1, vi (3)), (0, .ref h0)] dX2_init_44 0 rfl (by decide) (3) rfl rfl ?_
  refine BW.goto 25 dX2_init_47 (by decide) ?_
  refine BW.iload dX2_init_25 0 rfl rfl ?_
  refine BW.bipush (z := (6)) dX2_init_26 (by decide) ?_
  refine BW.ge 50 dX2_init_28 (by decide) (by decide) (by decide) (fun c => absurd c (by decide)) (fun _ => ?_)
  refine BW.aload dX2_init_31 1 rfl rfl ?_
  refine BW.getR dX2_init_32 ig_X2_11 0 rfl rfl ?_
  refine BW.iload dX2_init_35 0 rfl rfl ?_
  refine BW.new dX2_init_36 nw_X2_9 (Nat.le_of_ble_eq_true rfl) (Nat.le_of_ble_eq_true rfl) (fun q36_57 => ?_)
  refine BW.dup dX2_init_39 rfl ?_
  refine BW.make (Cb_X5 l D C q36_57) dX2_init_40 ic_X2_24 ⟨(Nat.le_of_ble_eq_true rfl), (Nat.le_of_ble_eq_true rfl)⟩ ⟨(Nat.le_of_ble_eq_true rfl), (Nat.le_of_ble_eq_true rfl)⟩ (Nat.le_of_ble_eq_true rfl) (fun w1 hw1 => ?_)
  obtain ⟨x40_59, rfl⟩ := hw1
  refine BW.eqw (show _ = ([(h0, .inr (2, [.ref q7_5, vi 0, vi 0])), (q7_5, .inl (C 2, 6, .inr (.inr (.inr (.inr (va_up (va_up (va_up (fun _ => none) 0 (some q36_21)) 1 (some q36_33)) 2 (some q36_45))))))), (q36_21, .inr (5, [.ref (x40_23 1), vi 0, .ref (x40_23 2), .ref (x40_23 3), vi 0, vi 1, vi 1, vi 1])), (x40_23 1, .inl (C 0, 12, .inl (fun _ => Int32.ofInt 0))), (x40_23 2, .inl (C 0, 36, .inl (fun _ => Int32.ofInt 0))), (x40_23 3, .inl (C 0, 6, .inl (fun _ => Int32.ofInt 0))), (q36_33, .inr (5, [.ref (x40_35 1), vi 0, .ref (x40_35 2), .ref (x40_35 3), vi 0, vi 1, vi 1, vi 1])), (x40_35 1, .inl (C 0, 12, .inl (fun _ => Int32.ofInt 0))), (x40_35 2, .inl (C 0, 36, .inl (fun _ => Int32.ofInt 0))), (x40_35 3, .inl (C 0, 6, .inl (fun _ => Int32.ofInt 0))), (q36_45, .inr (5, [.ref (x40_47 1), vi 0, .ref (x40_47 2), .ref (x40_47 3), vi 0, vi 1, vi 1, vi 1])), (x40_47 1, .inl (C 0, 12, .inl (fun _ => Int32.ofInt 0))), (x40_47 2, .inl (C 0, 36, .inl (fun _ => Int32.ofInt 0))), (x40_47 3, .inl (C 0, 6, .inl (fun _ => Int32.ofInt 0))), (q36_57, .inr (5, [.ref (x40_59 1), vi 0, .ref (x40_59 2), .ref (x40_59 3), vi 0, vi 1, vi 1, vi 1])), (x40_59 1, .inl (C 0, 12, .inl (fun _ => Int32.ofInt 0))), (x40_59 2, .inl (C 0, 36, .inl (fun _ => Int32.ofInt 0))), (x40_59 3, .inl (C 0, 6, .inl (fun _ => Int32.ofInt 0)))] : va_W) from rfl) ?_
  refine BW.aastS dX2_init_43 1 14 rfl rfl (by decide) (by decide) (by decide) ?_
  refine BW.eqw (show _ = ([(h0, .inr (2, [.ref q7_5, vi 0, vi 0])), (q7_5, .inl (C 2, 6, .inr (.inr (.inr (.inr (va_up (va_up (va_up (va_up (fun _ => none) 0 (some q36_21)) 1 (some q36_33)) 2 (some q36_45)) 3 (some q36_57))))))), (q36_21, .inr (5, [.ref (x40_23 1), vi 0, .ref (x40_23 2), .ref (x40_23 3), vi 0, vi 1, vi 1, vi 1])), (x40_23 1, .inl (C 0, 12, .inl (fun _ => Int32.ofInt 0))), (x40_23 2, .inl (C 0, 36, .inl (fun _ => Int32.ofInt 0))), (x40_23 3, .inl (C 0, 6, .inl (fun _ => Int32.ofInt 0))), (q36_33, .inr (5, [.ref (x40_35 1), vi 0, .ref (x40_35 2), .ref (x40_35 3), vi 0, vi 1, vi 1, vi 1])), (x40_35 1, .inl (C 0, 12, .inl (fun _ => Int32.ofInt 0))), (x40_35 2, .inl (C 0, 36, .inl (fun _ => Int32.ofInt 0))), (x40_35 3, .inl (C 0, 6, .inl (fun _ => Int32.ofInt 0))), (q36_45, .inr (5, [.ref (x40_47 1), vi 0, .ref (x40_47 2), .ref (x40_47 3), vi 0, vi 1, vi 1, vi 1])), (x40_47 1, .inl (C 0, 12, .inl (fun _ => Int32.ofInt 0))), (x40_47 2, .inl (C 0, 36, .inl (fun _ => Int32.ofInt 0))), (x40_47 3, .inl (C 0, 6, .inl (fun _ => Int32.ofInt 0))), (q36_57, .inr (5, [.ref (x40_59 1), vi 0, .ref (x40_59 2), .ref (x40_59 3), vi 0, vi 1, vi 1, vi 1])), (x40_59 1, .inl (C 0, 12, .inl (fun _ => Int32.ofInt 0))), (x40_59 2, .inl (C 0, 36, .inl (fun _ => Int32.ofInt 0))), (x40_59 3, .inl (C 0, 6, .inl (fun _ => Int32.ofInt 0)))] : va_W) from rfl) ?_
  refine BW.iinc [(1, vi (4)), (0, .ref h0)] dX2_init_44 0 rfl (by decide) (4) rfl rfl ?_
  refine BW.goto 25 dX2_init_47 (by decide) ?_
  refine BW.iload dX2_init_25 0 rfl rfl ?_
  refine BW.bipush (z := (6)) dX2_init_26 (by decide) ?_
  refine BW.ge 50 dX2_init_28 (by decide) (by decide) (by decide) (fun c => absurd c (by decide)) (fun _ => ?_)
  refine BW.aload dX2_init_31 1 rfl rfl ?_
  refine BW.getR dX2_init_32 ig_X2_11 0 rfl rfl ?_
  refine BW.iload dX2_init_35 0 rfl rfl ?_
  refine BW.new dX2_init_36 nw_X2_9 (Nat.le_of_ble_eq_true rfl) (Nat.le_of_ble_eq_true rfl) (fun q36_69 => ?_)
  refine BW.dup dX2_init_39 rfl ?_
  refine BW.make (Cb_X5 l D C q36_69) dX2_init_40 ic_X2_24 ⟨(Nat.le_of_ble_eq_true rfl), (Nat.le_of_ble_eq_true rfl)⟩ ⟨(Nat.le_of_ble_eq_true rfl), (Nat.le_of_ble_eq_true rfl)⟩ (Nat.le_of_ble_eq_true rfl) (fun w1 hw1 => ?_)
  obtain ⟨x40_71, rfl⟩ := hw1
  refine BW.eqw (show _ = ([(h0, .inr (2, [.ref q7_5, vi 0, vi 0])), (q7_5, .inl (C 2, 6, .inr (.inr (.inr (.inr (va_up (va_up (va_up (va_up (fun _ => none) 0 (some q36_21)) 1 (some q36_33)) 2 (some q36_45)) 3 (some q36_57))))))), (q36_21, .inr (5, [.ref (x40_23 1), vi 0, .ref (x40_23 2), .ref (x40_23 3), vi 0, vi 1, vi 1, vi 1])), (x40_23 1, .inl (C 0, 12, .inl (fun _ => Int32.ofInt 0))), (x40_23 2, .inl (C 0, 36, .inl (fun _ => Int32.ofInt 0))), (x40_23 3, .inl (C 0, 6, .inl (fun _ => Int32.ofInt 0))), (q36_33, .inr (5, [.ref (x40_35 1), vi 0, .ref (x40_35 2), .ref (x40_35 3), vi 0, vi 1, vi 1, vi 1])), (x40_35 1, .inl (C 0, 12, .inl (fun _ => Int32.ofInt 0))), (x40_35 2, .inl (C 0, 36, .inl (fun _ => Int32.ofInt 0))), (x40_35 3, .inl (C 0, 6, .inl (fun _ => Int32.ofInt 0))), (q36_45, .inr (5, [.ref (x40_47 1), vi 0, .ref (x40_47 2), .ref (x40_47 3), vi 0, vi 1, vi 1, vi 1])), (x40_47 1, .inl (C 0, 12, .inl (fun _ => Int32.ofInt 0))), (x40_47 2, .inl (C 0, 36, .inl (fun _ => Int32.ofInt 0))), (x40_47 3, .inl (C 0, 6, .inl (fun _ => Int32.ofInt 0))), (q36_57, .inr (5, [.ref (x40_59 1), vi 0, .ref (x40_59 2), .ref (x40_59 3), vi 0, vi 1, vi 1, vi 1])), (x40_59 1, .inl (C 0, 12, .inl (fun _ => Int32.ofInt 0))), (x40_59 2, .inl (C 0, 36, .inl (fun _ => Int32.ofInt 0))), (x40_59 3, .inl (C 0, 6, .inl (fun _ => Int32.ofInt 0))), (q36_69, .inr (5, [.ref (x40_71 1), vi 0, .ref (x40_71 2), .ref (x40_71 3), vi 0, vi 1, vi 1, vi 1])), (x40_71 1, .inl (C 0, 12, .inl (fun _ => Int32.ofInt 0))), (x40_71 2, .inl (C 0, 36, .inl (fun _ => Int32.ofInt 0))), (x40_71 3, .inl (C 0, 6, .inl (fun _ => Int32.ofInt 0)))] : va_W) from rfl) ?_
  refine BW.aastS dX2_init_43 1 18 rfl rfl (by decide) (by decide) (by decide) ?_
  refine BW.eqw (show _ = ([(h0, .inr (2, [.ref q7_5, vi 0, vi 0])), (q7_5, .inl (C 2, 6, .inr (.inr (.inr (.inr (va_up (va_up (va_up (va_up (va_up (fun _ => none) 0 (some q36_21)) 1 (some q36_33)) 2 (some q36_45)) 3 (some q36_57)) 4 (some q36_69))))))), (q36_21, .inr (5, [.ref (x40_23 1), vi 0, .ref (x40_23 2), .ref (x40_23 3), vi 0, vi 1, vi 1, vi 1])), (x40_23 1, .inl (C 0, 12, .inl (fun _ => Int32.ofInt 0))), (x40_23 2, .inl (C 0, 36, .inl (fun _ => Int32.ofInt 0))), (x40_23 3, .inl (C 0, 6, .inl (fun _ => Int32.ofInt 0))), (q36_33, .inr (5, [.ref (x40_35 1), vi 0, .ref (x40_35 2), .ref (x40_35 3), vi 0, vi 1, vi 1, vi 1])), (x40_35 1, .inl (C 0, 12, .inl (fun _ => Int32.ofInt 0))), (x40_35 2, .inl (C 0, 36, .inl (fun _ => Int32.ofInt 0))), (x40_35 3, .inl (C 0, 6, .inl (fun _ => Int32.ofInt 0))), (q36_45, .inr (5, [.ref (x40_47 1), vi 0, .ref (x40_47 2), .ref (x40_47 3), vi 0, vi 1, vi 1, vi 1])), (x40_47 1, .inl (C 0, 12, .inl (fun _ => Int32.ofInt 0))), (x40_47 2, .inl (C 0, 36, .inl (fun _ => Int32.ofInt 0))), (x40_47 3, .inl (C 0, 6, .inl (fun _ => Int32.ofInt 0))), (q36_57, .inr (5, [.ref (x40_59 1), vi 0, .ref (x40_59 2), .ref (x40_59 3), vi 0, vi 1, vi 1, vi 1])), (x40_59 1, .inl (C 0, 12, .inl (fun _ => Int32.ofInt 0))), (x40_59 2, .inl (C 0, 36, .inl (fun _ => Int32.ofInt 0))), (x40_59 3, .inl (C 0, 6, .inl (fun _ => Int32.ofInt 0))), (q36_69, .inr (5, [.ref (x40_71 1), vi 0, .ref (x40_71 2), .ref (x40_71 3), vi 0, vi 1, vi 1, vi 1])), (x40_71 1, .inl (C 0, 12, .inl (fun _ => Int32.ofInt 0))), (x40_71 2, .inl (C 0, 36, .inl (fun _ => Int32.ofInt 0))), (x40_71 3, .inl (C 0, 6, .inl (fun _ => Int32.ofInt 0)))] : va_W) from rfl) ?_
  refine BW.iinc [(1, vi (5)), (0, .ref h0)] dX2_init_44 0 rfl (by decide) (5) rfl rfl ?_
  refine BW.goto 25 dX2_init_47 (by decide) ?_
  refine BW.iload dX2_init_25 0 rfl rfl ?_
  refine BW.bipush (z := (6)) dX2_init_26 (by decide) ?_
  refine BW.ge 50 dX2_init_28 (by decide) (by decide) (by decide) (fun c => absurd c (by decide)) (fun _ => ?_)
  refine BW.aload dX2_init_31 1 rfl rfl ?_
  refine BW.getR dX2_init_32 ig_X2_11 0 rfl rfl ?_
  refine BW.iload dX2_init_35 0 rfl rfl ?_
  refine BW.new dX2_init_36 nw_X2_9 (Nat.le_of_ble_eq_true rfl) (Nat.le_of_ble_eq_true rfl) (fun q36_81 => ?_)
  refine BW.dup dX2_init_39 rfl ?_
  refine BW.make (Cb_X5 l D C q36_81) dX2_init_40 ic_X2_24 ⟨(Nat.le_of_ble_eq_true rfl), (Nat.le_of_ble_eq_true rfl)⟩ ⟨(Nat.le_of_ble_eq_true rfl), (Nat.le_of_ble_eq_true rfl)⟩ (Nat.le_of_ble_eq_true rfl) (fun w1 hw1 => ?_)
  obtain ⟨x40_83, rfl⟩ := hw1
  refine BW.eqw (show _ = ([(h0, .inr (2, [.ref q7_5, vi 0, vi 0])), (q7_5, .inl (C 2, 6, .inr (.inr (.inr (.inr (va_up (va_up (va_up (va_up (va_up (fun _ => none) 0 (some q36_21)) 1 (some q36_33)) 2 (some q36_45)) 3 (some q36_57)) 4 (some q36_69))))))), (q36_21, .inr (5, [.ref (x40_23 1), vi 0, .ref (x40_23 2), .ref (x40_23 3), vi 0, vi 1, vi 1, vi 1])), (x40_23 1, .inl (C 0, 12, .inl (fun _ => Int32.ofInt 0))), (x40_23 2, .inl (C 0, 36, .inl (fun _ => Int32.ofInt 0))), (x40_23 3, .inl (C 0, 6, .inl (fun _ => Int32.ofInt 0))), (q36_33, .inr (5, [.ref (x40_35 1), vi 0, .ref (x40_35 2), .ref (x40_35 3), vi 0, vi 1, vi 1, vi 1])), (x40_35 1, .inl (C 0, 12, .inl (fun _ => Int32.ofInt 0))), (x40_35 2, .inl (C 0, 36, .inl (fun _ => Int32.ofInt 0))), (x40_35 3, .inl (C 0, 6, .inl (fun _ => Int32.ofInt 0))), (q36_45, .inr (5, [.ref (x40_47 1), vi 0, .ref (x40_47 2), .ref (x40_47 3), vi 0, vi 1, vi 1, vi 1])), (x40_47 1, .inl (C 0, 12, .inl (fun _ => Int32.ofInt 0))), (x40_47 2, .inl (C 0, 36, .inl (fun _ => Int32.ofInt 0))), (x40_47 3, .inl (C 0, 6, .inl (fun _ => Int32.ofInt 0))), (q36_57, .inr (5, [.ref (x40_59 1), vi 0, .ref (x40_59 2), .ref (x40_59 3), vi 0, vi 1, vi 1, vi 1])), (x40_59 1, .inl (C 0, 12, .inl (fun _ => Int32.ofInt 0))), (x40_59 2, .inl (C 0, 36, .inl (fun _ => Int32.ofInt 0))), (x40_59 3, .inl (C 0, 6, .inl (fun _ => Int32.ofInt 0))), (q36_69, .inr (5, [.ref (x40_71 1), vi 0, .ref (x40_71 2), .ref (x40_71 3), vi 0, vi 1, vi 1, vi 1])), (x40_71 1, .inl (C 0, 12, .inl (fun _ => Int32.ofInt 0))), (x40_71 2, .inl (C 0, 36, .inl (fun _ => Int32.ofInt 0))), (x40_71 3, .inl (C 0, 6, .inl (fun _ => Int32.ofInt 0))), (q36_81, .inr (5, [.ref (x40_83 1), vi 0, .ref (x40_83 2), .ref (x40_83 3), vi 0, vi 1, vi 1, vi 1])), (x40_83 1, .inl (C 0, 12, .inl (fun _ => Int32.ofInt 0))), (x40_83 2, .inl (C 0, 36, .inl (fun _ => Int32.ofInt 0))), (x40_83 3, .inl (C 0, 6, .inl (fun _ => Int32.ofInt 0)))] : va_W) from rfl) ?_
  refine BW.aastS dX2_init_43 1 22 rfl rfl (by decide) (by decide) (by decide) ?_
  refine BW.eqw (show _ = ([(h0, .inr (2, [.ref q7_5, vi 0, vi 0])), (q7_5, .inl (C 2, 6, .inr (.inr (.inr (.inr (va_up (va_up (va_up (va_up (va_up (va_up (fun _ => none) 0 (some q36_21)) 1 (some q36_33)) 2 (some q36_45)) 3 (some q36_57)) 4 (some q36_69)) 5 (some q36_81))))))), (q36_21, .inr (5, [.ref (x40_23 1), vi 0, .ref (x40_23 2), .ref (x40_23 3), vi 0, vi 1, vi 1, vi 1])), (x40_23 1, .inl (C 0, 12, .inl (fun _ => Int32.ofInt 0))), (x40_23 2, .inl (C 0, 36, .inl (fun _ => Int32.ofInt 0))), (x40_23 3, .inl (C 0, 6, .inl (fun _ => Int32.ofInt 0))), (q36_33, .inr (5, [.ref (x40_35 1), vi 0, .ref (x40_35 2), .ref (x40_35 3), vi 0, vi 1, vi 1, vi 1])), (x40_35 1, .inl (C 0, 12, .inl (fun _ => Int32.ofInt 0))), (x40_35 2, .inl (C 0, 36, .inl (fun _ => Int32.ofInt 0))), (x40_35 3, .inl (C 0, 6, .inl (fun _ => Int32.ofInt 0))), (q36_45, .inr (5, [.ref (x40_47 1), vi 0, .ref (x40_47 2), .ref (x40_47 3), vi 0, vi 1, vi 1, vi 1])), (x40_47 1, .inl (C 0, 12, .inl (fun _ => Int32.ofInt 0))), (x40_47 2, .inl (C 0, 36, .inl (fun _ => Int32.ofInt 0))), (x40_47 3, .inl (C 0, 6, .inl (fun _ => Int32.ofInt 0))), (q36_57, .inr (5, [.ref (x40_59 1), vi 0, .ref (x40_59 2), .ref (x40_59 3), vi 0, vi 1, vi 1, vi 1])), (x40_59 1, .inl (C 0, 12, .inl (fun _ => Int32.ofInt 0))), (x40_59 2, .inl (C 0, 36, .inl (fun _ => Int32.ofInt 0))), (x40_59 3, .inl (C 0, 6, .inl (fun _ => Int32.ofInt 0))), (q36_69, .inr (5, [.ref (x40_71 1), vi 0, .ref (x40_71 2), .ref (x40_71 3), vi 0, vi 1, vi 1, vi 1])), (x40_71 1, .inl (C 0, 12, .inl (fun _ => Int32.ofInt 0))), (x40_71 2, .inl (C 0, 36, .inl (fun _ => Int32.ofInt 0))), (x40_71 3, .inl (C 0, 6, .inl (fun _ => Int32.ofInt 0))), (q36_81, .inr (5, [.ref (x40_83 1), vi 0, .ref (x40_83 2), .ref (x40_83 3), vi 0, vi 1, vi 1, vi 1])), (x40_83 1, .inl (C 0, 12, .inl (fun _ => Int32.ofInt 0))), (x40_83 2, .inl (C 0, 36, .inl (fun _ => Int32.ofInt 0))), (x40_83 3, .inl (C 0, 6, .inl (fun _ => Int32.ofInt 0)))] : va_W) from rfl) ?_
  refine BW.iinc [(1, vi (6)), (0, .ref h0)] dX2_init_44 0 rfl (by decide) (6) rfl rfl ?_
  refine BW.goto 25 dX2_init_47 (by decide) ?_
  refine BW.iload dX2_init_25 0 rfl rfl ?_
  refine BW.bipush (z := (6)) dX2_init_26 (by decide) ?_
  refine BW.ge 50 dX2_init_28 (by decide) (by decide) (by decide) (fun _ => ?_) (fun c => absurd (by decide) c)
  rw [up6]
  exact BW.vret dX2_init_50 (Nat.le_of_ble_eq_true rfl) (Nat.le_of_ble_eq_true rfl) ⟨fun k => ([h0, q7_5, q36_21, x40_23 1, x40_23 2, x40_23 3, q36_33, x40_35 1, x40_35 2, x40_35 3, q36_45, x40_47 1, x40_47 2, x40_47 3, q36_57, x40_59 1, x40_59 2, x40_59 3, q36_69, x40_71 1, x40_71 2, x40_71 3, q36_81, x40_83 1, x40_83 2, x40_83 3] : List Nat).getD k 0, rfl⟩

def rmX7 : Room := { frames := 1, cells := 5, slots := 91, locals := 12 }
set_option maxRecDepth 100000 in
set_option maxHeartbeats 4000000 in
theorem Cb_X7 (l : Launch) (D : va_G) (C : Nat → ClassId) (h0 : Nat) : Cb l D C uX7_init rmX7 h0 (.inr (7, [.null, .null, .null, .null, .null, vi 0])) (fun w => ∃ x : Nat → Nat, w = wL7 C h0 x) := by
  refine Cb.of (by decide) rfl rfl (by decide) ?_
  refine BW.aload dX7_init_0 0 rfl rfl ?_
  refine BW.objI dX7_init_1 oi_X7 (Nat.le_of_ble_eq_true rfl) (Nat.le_of_ble_eq_true rfl) ?_
  refine BW.aload dX7_init_4 0 rfl rfl ?_
  refine BW.bipush (z := (13)) dX7_init_5 (by decide) ?_
  refine BW.newI (N := 13) dX7_init_7 wI rfl (by decide) (Nat.le_of_ble_eq_true rfl) (Nat.le_of_ble_eq_true rfl) (fun q7_5 => ?_)
  refine BW.eqw (show _ = ([(h0, .inr (7, [.null, .null, .null, .null, .null, vi 0])), (q7_5, .inl (C 0, 13, .inl (fun _ => Int32.ofInt 0)))] : va_W) from rfl) ?_
  refine BW.putF dX7_init_9 ip_X7_9 0 rfl rfl rfl (Nat.le_of_ble_eq_true rfl) ?_
  refine BW.eqw (show _ = ([(h0, .inr (7, [.ref q7_5, .null, .null, .null, .null, vi 0])), (q7_5, .inl (C 0, 13, .inl (fun _ => Int32.ofInt 0)))] : va_W) from rfl) ?_
  refine BW.aload dX7_init_12 0 rfl rfl ?_
  refine BW.bipush (z := (13)) dX7_init_13 (by decide) ?_
  refine BW.newI (N := 13) dX7_init_15 wI rfl (by decide) (Nat.le_of_ble_eq_true rfl) (Nat.le_of_ble_eq_true rfl) (fun q15_9 => ?_)
  refine BW.eqw (show _ = ([(h0, .inr (7, [.ref q7_5, .null, .null, .null, .null, vi 0])), (q7_5, .inl (C 0, 13, .inl (fun _ => Int32.ofInt 0))), (q15_9, .inl (C 0, 13, .inl (fun _ => Int32.ofInt 0)))] : va_W) from rfl) ?_
  refine BW.putF dX7_init_17 ip_X7_15 0 rfl rfl rfl (Nat.le_of_ble_eq_true rfl) ?_
  refine BW.eqw (show _ = ([(h0, .inr (7, [.ref q7_5, .ref q15_9, .null, .null, .null, vi 0])), (q7_5, .inl (C 0, 13, .inl (fun _ => Int32.ofInt 0))), (q15_9, .inl (C 0, 13, .inl (fun _ => Int32.ofInt 0)))] : va_W) from rfl) ?_
  refine BW.aload dX7_init_20 0 rfl rfl ?_
  refine BW.bipush (z := (26)) dX7_init_21 (by decide) ?_
  refine BW.newI (N := 26) dX7_init_23 wI rfl (by decide) (Nat.le_of_ble_eq_true rfl) (Nat.le_of_ble_eq_true rfl) (fun q23_13 => ?_)
  refine BW.eqw (show _ = ([(h0, .inr (7, [.ref q7_5, .ref q15_9, .null, .null, .null, vi 0])), (q7_5, .inl (C 0, 13, .inl (fun _ => Int32.ofInt 0))), (q15_9, .inl (C 0, 13, .inl (fun _ => Int32.ofInt 0))), (q23_13, .inl (C 0, 26, .inl (fun _ => Int32.ofInt 0)))] : va_W) from rfl) ?_
  refine BW.putF dX7_init_25 ip_X7_18 0 rfl rfl rfl (Nat.le_of_ble_eq_true rfl) ?_
  refine BW.eqw (show _ = ([(h0, .inr (7, [.ref q7_5, .ref q15_9, .ref q23_13, .null, .null, vi 0])), (q7_5, .inl (C 0, 13, .inl (fun _ => Int32.ofInt 0))), (q15_9, .inl (C 0, 13, .inl (fun _ => Int32.ofInt 0))), (q23_13, .inl (C 0, 26, .inl (fun _ => Int32.ofInt 0)))] : va_W) from rfl) ?_
  refine BW.aload dX7_init_28 0 rfl rfl ?_
  refine BW.bipush (z := (26)) dX7_init_29 (by decide) ?_
  refine BW.newI (N := 26) dX7_init_31 wI rfl (by decide) (Nat.le_of_ble_eq_true rfl) (Nat.le_of_ble_eq_true rfl) (fun q31_17 => ?_)
  refine BW.eqw (show _ = ([(h0, .inr (7, [.ref q7_5, .ref q15_9, .ref q23_13, .null, .null, vi 0])), (q7_5, .inl (C 0, 13, .inl (fun _ => Int32.ofInt 0))), (q15_9, .inl (C 0, 13, .inl (fun _ => Int32.ofInt 0))), (q23_13, .inl (C 0, 26, .inl (fun _ => Int32.ofInt 0))), (q31_17, .inl (C 0, 26, .inl (fun _ => Int32.ofInt 0)))] : va_W) from rfl) ?_
  refine BW.putF dX7_init_33 ip_X7_21 0 rfl rfl rfl (Nat.le_of_ble_eq_true rfl) ?_
  refine BW.eqw (show _ = ([(h0, .inr (7, [.ref q7_5, .ref q15_9, .ref q23_13, .ref q31_17, .null, vi 0])), (q7_5, .inl (C 0, 13, .inl (fun _ => Int32.ofInt 0))), (q15_9, .inl (C 0, 13, .inl (fun _ => Int32.ofInt 0))), (q23_13, .inl (C 0, 26, .inl (fun _ => Int32.ofInt 0))), (q31_17, .inl (C 0, 26, .inl (fun _ => Int32.ofInt 0)))] : va_W) from rfl) ?_
  refine BW.aload dX7_init_36 0 rfl rfl ?_
  refine BW.bipush (z := (13)) dX7_init_37 (by decide) ?_
  refine BW.newI (N := 13) dX7_init_39 wI rfl (by decide) (Nat.le_of_ble_eq_true rfl) (Nat.le_of_ble_eq_true rfl) (fun q39_21 => ?_)
  refine BW.eqw (show _ = ([(h0, .inr (7, [.ref q7_5, .ref q15_9, .ref q23_13, .ref q31_17, .null, vi 0])), (q7_5, .inl (C 0, 13, .inl (fun _ => Int32.ofInt 0))), (q15_9, .inl (C 0, 13, .inl (fun _ => Int32.ofInt 0))), (q23_13, .inl (C 0, 26, .inl (fun _ => Int32.ofInt 0))), (q31_17, .inl (C 0, 26, .inl (fun _ => Int32.ofInt 0))), (q39_21, .inl (C 0, 13, .inl (fun _ => Int32.ofInt 0)))] : va_W) from rfl) ?_
  refine BW.putF dX7_init_41 ip_X7_24 0 rfl rfl rfl (Nat.le_of_ble_eq_true rfl) ?_
  refine BW.eqw (show _ = ([(h0, .inr (7, [.ref q7_5, .ref q15_9, .ref q23_13, .ref q31_17, .ref q39_21, vi 0])), (q7_5, .inl (C 0, 13, .inl (fun _ => Int32.ofInt 0))), (q15_9, .inl (C 0, 13, .inl (fun _ => Int32.ofInt 0))), (q23_13, .inl (C 0, 26, .inl (fun _ => Int32.ofInt 0))), (q31_17, .inl (C 0, 26, .inl (fun _ => Int32.ofInt 0))), (q39_21, .inl (C 0, 13, .inl (fun _ => Int32.ofInt 0)))] : va_W) from rfl) ?_
  refine BW.aload dX7_init_44 0 rfl rfl ?_
  refine BW.iconst dX7_init_45 ?_
  refine BW.put dX7_init_46 ip_X7_27 0 rfl rfl rfl (Nat.le_of_ble_eq_true rfl) ?_
  refine BW.eqw (show _ = ([(h0, .inr (7, [.ref q7_5, .ref q15_9, .ref q23_13, .ref q31_17, .ref q39_21, vi 0])), (q7_5, .inl (C 0, 13, .inl (fun _ => Int32.ofInt 0))), (q15_9, .inl (C 0, 13, .inl (fun _ => Int32.ofInt 0))), (q23_13, .inl (C 0, 26, .inl (fun _ => Int32.ofInt 0))), (q31_17, .inl (C 0, 26, .inl (fun _ => Int32.ofInt 0))), (q39_21, .inl (C 0, 13, .inl (fun _ => Int32.ofInt 0)))] : va_W) from rfl) ?_
  exact BW.vret dX7_init_49 (Nat.le_of_ble_eq_true rfl) (Nat.le_of_ble_eq_true rfl) ⟨fun k => ([h0, q7_5, q15_9, q23_13, q31_17, q39_21] : List Nat).getD k 0, rfl⟩

def rmX3 : Room := { frames := 1, cells := 4, slots := 548, locals := 12 }
set_option maxRecDepth 100000 in
set_option maxHeartbeats 4000000 in
theorem Cb_X3 (l : Launch) (D : va_G) (C : Nat → ClassId) (h0 : Nat) : Cb l D C uX3_init rmX3 h0 (.inr (3, [.null, .null, .null, .null, vi 0])) (fun w => ∃ x : Nat → Nat, w = wL3 C h0 x) := by
  refine Cb.of (by decide) rfl rfl (by decide) ?_
  refine BW.aload dX3_init_0 0 rfl rfl ?_
  refine BW.objI dX3_init_1 oi_X3 (Nat.le_of_ble_eq_true rfl) (Nat.le_of_ble_eq_true rfl) ?_
  refine BW.aload dX3_init_4 0 rfl rfl ?_
  refine BW.sipush (z := (182)) dX3_init_5 (by decide) ?_
  refine BW.newI (N := 182) dX3_init_8 wI rfl (by decide) (Nat.le_of_ble_eq_true rfl) (Nat.le_of_ble_eq_true rfl) (fun q8_5 => ?_)
  refine BW.eqw (show _ = ([(h0, .inr (3, [.null, .null, .null, .null, vi 0])), (q8_5, .inl (C 0, 182, .inl (fun _ => Int32.ofInt 0)))] : va_W) from rfl) ?_
  refine BW.putF dX3_init_10 ip_X3_11 0 rfl rfl rfl (Nat.le_of_ble_eq_true rfl) ?_
  refine BW.eqw (show _ = ([(h0, .inr (3, [.ref q8_5, .null, .null, .null, vi 0])), (q8_5, .inl (C 0, 182, .inl (fun _ => Int32.ofInt 0)))] : va_W) from rfl) ?_
  refine BW.aload dX3_init_13 0 rfl rfl ?_
  refine BW.sipush (z := (182)) dX3_init_14 (by decide) ?_
  refine BW.newI (N := 182) dX3_init_17 wI rfl (by decide) (Nat.le_of_ble_eq_true rfl) (Nat.le_of_ble_eq_true rfl) (fun q17_9 => ?_)
  refine BW.eqw (show _ = ([(h0, .inr (3, [.ref q8_5, .null, .null, .null, vi 0])), (q8_5, .inl (C 0, 182, .inl (fun _ => Int32.ofInt 0))), (q17_9, .inl (C 0, 182, .inl (fun _ => Int32.ofInt 0)))] : va_W) from rfl) ?_
  refine BW.putF dX3_init_19 ip_X3_15 0 rfl rfl rfl (Nat.le_of_ble_eq_true rfl) ?_
  refine BW.eqw (show _ = ([(h0, .inr (3, [.ref q8_5, .ref q17_9, .null, .null, vi 0])), (q8_5, .inl (C 0, 182, .inl (fun _ => Int32.ofInt 0))), (q17_9, .inl (C 0, 182, .inl (fun _ => Int32.ofInt 0)))] : va_W) from rfl) ?_
  refine BW.aload dX3_init_22 0 rfl rfl ?_
  refine BW.sipush (z := (182)) dX3_init_23 (by decide) ?_
  refine BW.newI (N := 182) dX3_init_26 wI rfl (by decide) (Nat.le_of_ble_eq_true rfl) (Nat.le_of_ble_eq_true rfl) (fun q26_13 => ?_)
  refine BW.eqw (show _ = ([(h0, .inr (3, [.ref q8_5, .ref q17_9, .null, .null, vi 0])), (q8_5, .inl (C 0, 182, .inl (fun _ => Int32.ofInt 0))), (q17_9, .inl (C 0, 182, .inl (fun _ => Int32.ofInt 0))), (q26_13, .inl (C 0, 182, .inl (fun _ => Int32.ofInt 0)))] : va_W) from rfl) ?_
  refine BW.putF dX3_init_28 ip_X3_18 0 rfl rfl rfl (Nat.le_of_ble_eq_true rfl) ?_
  refine BW.eqw (show _ = ([(h0, .inr (3, [.ref q8_5, .ref q17_9, .ref q26_13, .null, vi 0])), (q8_5, .inl (C 0, 182, .inl (fun _ => Int32.ofInt 0))), (q17_9, .inl (C 0, 182, .inl (fun _ => Int32.ofInt 0))), (q26_13, .inl (C 0, 182, .inl (fun _ => Int32.ofInt 0)))] : va_W) from rfl) ?_
  refine BW.aload dX3_init_31 0 rfl rfl ?_
  refine BW.iconst dX3_init_32 ?_
  refine BW.newI (N := 2) dX3_init_33 wI rfl (by decide) (Nat.le_of_ble_eq_true rfl) (Nat.le_of_ble_eq_true rfl) (fun q33_17 => ?_)
  refine BW.eqw (show _ = ([(h0, .inr (3, [.ref q8_5, .ref q17_9, .ref q26_13, .null, vi 0])), (q8_5, .inl (C 0, 182, .inl (fun _ => Int32.ofInt 0))), (q17_9, .inl (C 0, 182, .inl (fun _ => Int32.ofInt 0))), (q26_13, .inl (C 0, 182, .inl (fun _ => Int32.ofInt 0))), (q33_17, .inl (C 0, 2, .inl (fun _ => Int32.ofInt 0)))] : va_W) from rfl) ?_
  refine BW.putF dX3_init_35 ip_X3_21 0 rfl rfl rfl (Nat.le_of_ble_eq_true rfl) ?_
  refine BW.eqw (show _ = ([(h0, .inr (3, [.ref q8_5, .ref q17_9, .ref q26_13, .ref q33_17, vi 0])), (q8_5, .inl (C 0, 182, .inl (fun _ => Int32.ofInt 0))), (q17_9, .inl (C 0, 182, .inl (fun _ => Int32.ofInt 0))), (q26_13, .inl (C 0, 182, .inl (fun _ => Int32.ofInt 0))), (q33_17, .inl (C 0, 2, .inl (fun _ => Int32.ofInt 0)))] : va_W) from rfl) ?_
  refine BW.aload dX3_init_38 0 rfl rfl ?_
  refine BW.iconst dX3_init_39 ?_
  refine BW.put dX3_init_40 ip_X3_24 0 rfl rfl rfl (Nat.le_of_ble_eq_true rfl) ?_
  refine BW.eqw (show _ = ([(h0, .inr (3, [.ref q8_5, .ref q17_9, .ref q26_13, .ref q33_17, vi 0])), (q8_5, .inl (C 0, 182, .inl (fun _ => Int32.ofInt 0))), (q17_9, .inl (C 0, 182, .inl (fun _ => Int32.ofInt 0))), (q26_13, .inl (C 0, 182, .inl (fun _ => Int32.ofInt 0))), (q33_17, .inl (C 0, 2, .inl (fun _ => Int32.ofInt 0)))] : va_W) from rfl) ?_
  exact BW.vret dX3_init_43 (Nat.le_of_ble_eq_true rfl) (Nat.le_of_ble_eq_true rfl) ⟨fun k => ([h0, q8_5, q17_9, q26_13, q33_17] : List Nat).getD k 0, rfl⟩

def rmX4 : Room := { frames := 1, cells := 2, slots := 24, locals := 12 }
set_option maxRecDepth 100000 in
set_option maxHeartbeats 4000000 in
theorem Cb_X4 (l : Launch) (D : va_G) (C : Nat → ClassId) (h0 : Nat) : Cb l D C uX4_init rmX4 h0 (.inr (4, [.null, .null, vi 0, vi 0, vi 0, vi 0])) (fun w => ∃ x : Nat → Nat, w = wL4 C h0 x) := by
  refine Cb.of (by decide) rfl rfl (by decide) ?_
  refine BW.aload dX4_init_0 0 rfl rfl ?_
  refine BW.objI dX4_init_1 oi_X4 (Nat.le_of_ble_eq_true rfl) (Nat.le_of_ble_eq_true rfl) ?_
  refine BW.aload dX4_init_4 0 rfl rfl ?_
  refine BW.bipush (z := (12)) dX4_init_5 (by decide) ?_
  refine BW.newI (N := 12) dX4_init_7 wI rfl (by decide) (Nat.le_of_ble_eq_true rfl) (Nat.le_of_ble_eq_true rfl) (fun q7_5 => ?_)
  refine BW.eqw (show _ = ([(h0, .inr (4, [.null, .null, vi 0, vi 0, vi 0, vi 0])), (q7_5, .inl (C 0, 12, .inl (fun _ => Int32.ofInt 0)))] : va_W) from rfl) ?_
  refine BW.putF dX4_init_9 ip_X4_9 0 rfl rfl rfl (Nat.le_of_ble_eq_true rfl) ?_
  refine BW.eqw (show _ = ([(h0, .inr (4, [.ref q7_5, .null, vi 0, vi 0, vi 0, vi 0])), (q7_5, .inl (C 0, 12, .inl (fun _ => Int32.ofInt 0)))] : va_W) from rfl) ?_
  refine BW.aload dX4_init_12 0 rfl rfl ?_
  refine BW.bipush (z := (12)) dX4_init_13 (by decide) ?_
  refine BW.newI (N := 12) dX4_init_15 wI rfl (by decide) (Nat.le_of_ble_eq_true rfl) (Nat.le_of_ble_eq_true rfl) (fun q15_9 => ?_)
  refine BW.eqw (show _ = ([(h0, .inr (4, [.ref q7_5, .null, vi 0, vi 0, vi 0, vi 0])), (q7_5, .inl (C 0, 12, .inl (fun _ => Int32.ofInt 0))), (q15_9, .inl (C 0, 12, .inl (fun _ => Int32.ofInt 0)))] : va_W) from rfl) ?_
  refine BW.putF dX4_init_17 ip_X4_15 0 rfl rfl rfl (Nat.le_of_ble_eq_true rfl) ?_
  refine BW.eqw (show _ = ([(h0, .inr (4, [.ref q7_5, .ref q15_9, vi 0, vi 0, vi 0, vi 0])), (q7_5, .inl (C 0, 12, .inl (fun _ => Int32.ofInt 0))), (q15_9, .inl (C 0, 12, .inl (fun _ => Int32.ofInt 0)))] : va_W) from rfl) ?_
  refine BW.aload dX4_init_20 0 rfl rfl ?_
  refine BW.iconst dX4_init_21 ?_
  refine BW.put dX4_init_22 ip_X4_18 0 rfl rfl rfl (Nat.le_of_ble_eq_true rfl) ?_
  refine BW.eqw (show _ = ([(h0, .inr (4, [.ref q7_5, .ref q15_9, vi 0, vi 0, vi 0, vi 0])), (q7_5, .inl (C 0, 12, .inl (fun _ => Int32.ofInt 0))), (q15_9, .inl (C 0, 12, .inl (fun _ => Int32.ofInt 0)))] : va_W) from rfl) ?_
  refine BW.aload dX4_init_25 0 rfl rfl ?_
  refine BW.bipush (z := (-4)) dX4_init_26 (by decide) ?_
  refine BW.put dX4_init_28 ip_X4_22 0 rfl rfl rfl (Nat.le_of_ble_eq_true rfl) ?_
  refine BW.eqw (show _ = ([(h0, .inr (4, [.ref q7_5, .ref q15_9, vi 0, vi (-4), vi 0, vi 0])), (q7_5, .inl (C 0, 12, .inl (fun _ => Int32.ofInt 0))), (q15_9, .inl (C 0, 12, .inl (fun _ => Int32.ofInt 0)))] : va_W) from rfl) ?_
  refine BW.aload dX4_init_31 0 rfl rfl ?_
  refine BW.iconst dX4_init_32 ?_
  refine BW.put dX4_init_33 ip_X4_25 0 rfl rfl rfl (Nat.le_of_ble_eq_true rfl) ?_
  refine BW.eqw (show _ = ([(h0, .inr (4, [.ref q7_5, .ref q15_9, vi 0, vi (-4), vi 0, vi 0])), (q7_5, .inl (C 0, 12, .inl (fun _ => Int32.ofInt 0))), (q15_9, .inl (C 0, 12, .inl (fun _ => Int32.ofInt 0)))] : va_W) from rfl) ?_
  refine BW.aload dX4_init_36 0 rfl rfl ?_
  refine BW.iconst dX4_init_37 ?_
  refine BW.put dX4_init_38 ip_X4_28 0 rfl rfl rfl (Nat.le_of_ble_eq_true rfl) ?_
  refine BW.eqw (show _ = ([(h0, .inr (4, [.ref q7_5, .ref q15_9, vi 0, vi (-4), vi 0, vi 0])), (q7_5, .inl (C 0, 12, .inl (fun _ => Int32.ofInt 0))), (q15_9, .inl (C 0, 12, .inl (fun _ => Int32.ofInt 0)))] : va_W) from rfl) ?_
  exact BW.vret dX4_init_41 (Nat.le_of_ble_eq_true rfl) (Nat.le_of_ble_eq_true rfl) ⟨fun k => ([h0, q7_5, q15_9] : List Nat).getD k 0, rfl⟩

def rmX0 : Room := { frames := 1, cells := 3, slots := 79, locals := 12 }
set_option maxRecDepth 100000 in
set_option maxHeartbeats 4000000 in
theorem Cb_X0 (l : Launch) (D : va_G) (C : Nat → ClassId) (h0 : Nat) : Cb l D C uX0_init rmX0 h0 (.inr (0, [.null, .null, .null, vi 0, vi 0])) (fun w => ∃ x : Nat → Nat, w = wL0 C h0 x) := by
  refine Cb.of (by decide) rfl rfl (by decide) ?_
  refine BW.aload dX0_init_0 0 rfl rfl ?_
  refine BW.objI dX0_init_1 oi_X0 (Nat.le_of_ble_eq_true rfl) (Nat.le_of_ble_eq_true rfl) ?_
  refine BW.aload dX0_init_4 0 rfl rfl ?_
  refine BW.bipush (z := (36)) dX0_init_5 (by decide) ?_
  refine BW.newI (N := 36) dX0_init_7 wI rfl (by decide) (Nat.le_of_ble_eq_true rfl) (Nat.le_of_ble_eq_true rfl) (fun q7_5 => ?_)
  refine BW.eqw (show _ = ([(h0, .inr (0, [.null, .null, .null, vi 0, vi 0])), (q7_5, .inl (C 0, 36, .inl (fun _ => Int32.ofInt 0)))] : va_W) from rfl) ?_
  refine BW.putF dX0_init_9 ip_X0_9 0 rfl rfl rfl (Nat.le_of_ble_eq_true rfl) ?_
  refine BW.eqw (show _ = ([(h0, .inr (0, [.ref q7_5, .null, .null, vi 0, vi 0])), (q7_5, .inl (C 0, 36, .inl (fun _ => Int32.ofInt 0)))] : va_W) from rfl) ?_
  refine BW.aload dX0_init_12 0 rfl rfl ?_
  refine BW.bipush (z := (36)) dX0_init_13 (by decide) ?_
  refine BW.newI (N := 36) dX0_init_15 wI rfl (by decide) (Nat.le_of_ble_eq_true rfl) (Nat.le_of_ble_eq_true rfl) (fun q15_9 => ?_)
  refine BW.eqw (show _ = ([(h0, .inr (0, [.ref q7_5, .null, .null, vi 0, vi 0])), (q7_5, .inl (C 0, 36, .inl (fun _ => Int32.ofInt 0))), (q15_9, .inl (C 0, 36, .inl (fun _ => Int32.ofInt 0)))] : va_W) from rfl) ?_
  refine BW.putF dX0_init_17 ip_X0_15 0 rfl rfl rfl (Nat.le_of_ble_eq_true rfl) ?_
  refine BW.eqw (show _ = ([(h0, .inr (0, [.ref q7_5, .ref q15_9, .null, vi 0, vi 0])), (q7_5, .inl (C 0, 36, .inl (fun _ => Int32.ofInt 0))), (q15_9, .inl (C 0, 36, .inl (fun _ => Int32.ofInt 0)))] : va_W) from rfl) ?_
  refine BW.aload dX0_init_20 0 rfl rfl ?_
  refine BW.bipush (z := (7)) dX0_init_21 (by decide) ?_
  refine BW.newI (N := 7) dX0_init_23 wI rfl (by decide) (Nat.le_of_ble_eq_true rfl) (Nat.le_of_ble_eq_true rfl) (fun q23_13 => ?_)
  refine BW.eqw (show _ = ([(h0, .inr (0, [.ref q7_5, .ref q15_9, .null, vi 0, vi 0])), (q7_5, .inl (C 0, 36, .inl (fun _ => Int32.ofInt 0))), (q15_9, .inl (C 0, 36, .inl (fun _ => Int32.ofInt 0))), (q23_13, .inl (C 0, 7, .inl (fun _ => Int32.ofInt 0)))] : va_W) from rfl) ?_
  refine BW.putF dX0_init_25 ip_X0_18 0 rfl rfl rfl (Nat.le_of_ble_eq_true rfl) ?_
  refine BW.eqw (show _ = ([(h0, .inr (0, [.ref q7_5, .ref q15_9, .ref q23_13, vi 0, vi 0])), (q7_5, .inl (C 0, 36, .inl (fun _ => Int32.ofInt 0))), (q15_9, .inl (C 0, 36, .inl (fun _ => Int32.ofInt 0))), (q23_13, .inl (C 0, 7, .inl (fun _ => Int32.ofInt 0)))] : va_W) from rfl) ?_
  refine BW.aload dX0_init_28 0 rfl rfl ?_
  refine BW.iconst dX0_init_29 ?_
  refine BW.put dX0_init_30 ip_X0_21 0 rfl rfl rfl (Nat.le_of_ble_eq_true rfl) ?_
  refine BW.eqw (show _ = ([(h0, .inr (0, [.ref q7_5, .ref q15_9, .ref q23_13, vi 0, vi 0])), (q7_5, .inl (C 0, 36, .inl (fun _ => Int32.ofInt 0))), (q15_9, .inl (C 0, 36, .inl (fun _ => Int32.ofInt 0))), (q23_13, .inl (C 0, 7, .inl (fun _ => Int32.ofInt 0)))] : va_W) from rfl) ?_
  refine BW.aload dX0_init_33 0 rfl rfl ?_
  refine BW.iconst dX0_init_34 ?_
  refine BW.put dX0_init_35 ip_X0_25 0 rfl rfl rfl (Nat.le_of_ble_eq_true rfl) ?_
  refine BW.eqw (show _ = ([(h0, .inr (0, [.ref q7_5, .ref q15_9, .ref q23_13, vi 0, vi 1])), (q7_5, .inl (C 0, 36, .inl (fun _ => Int32.ofInt 0))), (q15_9, .inl (C 0, 36, .inl (fun _ => Int32.ofInt 0))), (q23_13, .inl (C 0, 7, .inl (fun _ => Int32.ofInt 0)))] : va_W) from rfl) ?_
  exact BW.vret dX0_init_38 (Nat.le_of_ble_eq_true rfl) (Nat.le_of_ble_eq_true rfl) ⟨fun k => ([h0, q7_5, q15_9, q23_13] : List Nat).getD k 0, rfl⟩

def rmX6 : Room := { frames := 1, cells := 1, slots := 90, locals := 12 }
set_option maxRecDepth 100000 in
set_option maxHeartbeats 4000000 in
theorem Cb_X6 (l : Launch) (D : va_G) (C : Nat → ClassId) (h0 : Nat) : Cb l D C uX6_init rmX6 h0 (.inr (6, [.null, vi 0])) (fun w => ∃ x : Nat → Nat, w = wL6 C h0 x) := by
  refine Cb.of (by decide) rfl rfl (by decide) ?_
  refine BW.aload dX6_init_0 0 rfl rfl ?_
  refine BW.objI dX6_init_1 oi_X6 (Nat.le_of_ble_eq_true rfl) (Nat.le_of_ble_eq_true rfl) ?_
  refine BW.aload dX6_init_4 0 rfl rfl ?_
  refine BW.bipush (z := (90)) dX6_init_5 (by decide) ?_
  refine BW.newI (N := 90) dX6_init_7 wI rfl (by decide) (Nat.le_of_ble_eq_true rfl) (Nat.le_of_ble_eq_true rfl) (fun q7_5 => ?_)
  refine BW.eqw (show _ = ([(h0, .inr (6, [.null, vi 0])), (q7_5, .inl (C 0, 90, .inl (fun _ => Int32.ofInt 0)))] : va_W) from rfl) ?_
  refine BW.putF dX6_init_9 ip_X6_9 0 rfl rfl rfl (Nat.le_of_ble_eq_true rfl) ?_
  refine BW.eqw (show _ = ([(h0, .inr (6, [.ref q7_5, vi 0])), (q7_5, .inl (C 0, 90, .inl (fun _ => Int32.ofInt 0)))] : va_W) from rfl) ?_
  refine BW.aload dX6_init_12 0 rfl rfl ?_
  refine BW.iconst dX6_init_13 ?_
  refine BW.put dX6_init_14 ip_X6_15 0 rfl rfl rfl (Nat.le_of_ble_eq_true rfl) ?_
  refine BW.eqw (show _ = ([(h0, .inr (6, [.ref q7_5, vi 0])), (q7_5, .inl (C 0, 90, .inl (fun _ => Int32.ofInt 0)))] : va_W) from rfl) ?_
  exact BW.vret dX6_init_17 (Nat.le_of_ble_eq_true rfl) (Nat.le_of_ble_eq_true rfl) ⟨fun k => ([h0, q7_5] : List Nat).getD k 0, rfl⟩
