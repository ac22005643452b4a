def rmX8 : Room := { frames := 3, cells := 93, slots := 1920, locals := 53 }
set_option maxRecDepth 100000 in
set_option maxHeartbeats 4000000 in
theorem Cb_X8 (l : Launch) (D : va_G) (C : Nat → ClassId) (h0 : Nat) : Cb l D C uX8_init rmX8 h0 (.inr (8, [.null, .null, .null, .null, vi 0, .null, .null, .null, .null, .null, .null, .null])) (fun w => ∃ (b : Nat → Nat) (a : Nat → Nat → Nat), w = wL8 C h0 b a) := by
  refine Cb.of (by decide) rfl rfl (by decide) ?_
  refine BW.aload dX8_init_0 0 rfl rfl ?_
  refine BW.objI dX8_init_1 oi_X8 (Nat.le_of_ble_eq_true rfl) (Nat.le_of_ble_eq_true rfl) ?_
  refine BW.aload dX8_init_4 0 rfl rfl ?_
  refine BW.new dX8_init_5 nw_X8_7 (Nat.le_of_ble_eq_true rfl) (Nat.le_of_ble_eq_true rfl) (fun q5_4 => ?_)
  refine BW.dup dX8_init_8 rfl ?_
  refine BW.make (Cb_X5 l D C q5_4) dX8_init_9 ic_X8_9 ⟨(Nat.le_of_ble_eq_true rfl), (Nat.le_of_ble_eq_true rfl)⟩ ⟨(Nat.le_of_ble_eq_true rfl), (Nat.le_of_ble_eq_true rfl)⟩ (Nat.le_of_ble_eq_true rfl) (fun w1 hw1 => ?_)
  obtain ⟨x9_6, rfl⟩ := hw1
  refine BW.eqw (show _ = (((h0, .inr (8, [.null, .null, .null, .null, vi 0, .null, .null, .null, .null, .null, .null, .null])) :: ([] ++ wL5 C q5_4 x9_6)) : va_W) from rfl) ?_
  refine BW.putF dX8_init_12 ip_X8_10 0 rfl rfl rfl (Nat.le_of_ble_eq_true rfl) ?_
  refine BW.eqw (show _ = (((h0, .inr (8, [.ref q5_4, .null, .null, .null, vi 0, .null, .null, .null, .null, .null, .null, .null])) :: ([] ++ wL5 C q5_4 x9_6)) : va_W) from rfl) ?_
  refine BW.aload dX8_init_15 0 rfl rfl ?_
  refine BW.new dX8_init_16 nw_X8_16 (Nat.le_of_ble_eq_true rfl) (Nat.le_of_ble_eq_true rfl) (fun q16_9 => ?_)
  refine BW.dup dX8_init_19 rfl ?_
  refine BW.make (Cb_X2 l D C q16_9) dX8_init_20 ic_X8_18 ⟨(Nat.le_of_ble_eq_true rfl), (Nat.le_of_ble_eq_true rfl)⟩ ⟨(Nat.le_of_ble_eq_true rfl), (Nat.le_of_ble_eq_true rfl)⟩ (Nat.le_of_ble_eq_true rfl) (fun w1 hw1 => ?_)
  obtain ⟨x20_11, rfl⟩ := hw1
  refine BW.eqw (show _ = (((h0, .inr (8, [.ref q5_4, .null, .null, .null, vi 0, .null, .null, .null, .null, .null, .null, .null])) :: (([] ++ wL5 C q5_4 x9_6) ++ wL2 C q16_9 x20_11)) : va_W) from rfl) ?_
  refine BW.putF dX8_init_23 ip_X8_19 0 rfl rfl rfl (Nat.le_of_ble_eq_true rfl) ?_
  refine BW.eqw (show _ = (((h0, .inr (8, [.ref q5_4, .ref q16_9, .null, .null, vi 0, .null, .null, .null, .null, .null, .null, .null])) :: (([] ++ wL5 C q5_4 x9_6) ++ wL2 C q16_9 x20_11)) : va_W) from rfl) ?_
  refine BW.aload dX8_init_26 0 rfl rfl ?_
  refine BW.new dX8_init_27 nw_X8_7 (Nat.le_of_ble_eq_true rfl) (Nat.le_of_ble_eq_true rfl) (fun q27_14 => ?_)
  refine BW.dup dX8_init_30 rfl ?_
  refine BW.make (Cb_X5 l D C q27_14) dX8_init_31 ic_X8_9 ⟨(Nat.le_of_ble_eq_true rfl), (Nat.le_of_ble_eq_true rfl)⟩ ⟨(Nat.le_of_ble_eq_true rfl), (Nat.le_of_ble_eq_true rfl)⟩ (Nat.le_of_ble_eq_true rfl) (fun w1 hw1 => ?_)
  obtain ⟨x31_16, rfl⟩ := hw1
  refine BW.eqw (show _ = (((h0, .inr (8, [.ref q5_4, .ref q16_9, .null, .null, vi 0, .null, .null, .null, .null, .null, .null, .null])) :: ((([] ++ wL5 C q5_4 x9_6) ++ wL2 C q16_9 x20_11) ++ wL5 C q27_14 x31_16)) : va_W) from rfl) ?_
  refine BW.putF dX8_init_34 ip_X8_23 0 rfl rfl rfl (Nat.le_of_ble_eq_true rfl) ?_
  refine BW.eqw (show _ = (((h0, .inr (8, [.ref q5_4, .ref q16_9, .ref q27_14, .null, vi 0, .null, .null, .null, .null, .null, .null, .null])) :: ((([] ++ wL5 C q5_4 x9_6) ++ wL2 C q16_9 x20_11) ++ wL5 C q27_14 x31_16)) : va_W) from rfl) ?_
  refine BW.aload dX8_init_37 0 rfl rfl ?_
  refine BW.new dX8_init_38 nw_X8_16 (Nat.le_of_ble_eq_true rfl) (Nat.le_of_ble_eq_true rfl) (fun q38_19 => ?_)
  refine BW.dup dX8_init_41 rfl ?_
  refine BW.make (Cb_X2 l D C q38_19) dX8_init_42 ic_X8_18 ⟨(Nat.le_of_ble_eq_true rfl), (Nat.le_of_ble_eq_true rfl)⟩ ⟨(Nat.le_of_ble_eq_true rfl), (Nat.le_of_ble_eq_true rfl)⟩ (Nat.le_of_ble_eq_true rfl) (fun w1 hw1 => ?_)
  obtain ⟨x42_21, rfl⟩ := hw1
  refine BW.eqw (show _ = (((h0, .inr (8, [.ref q5_4, .ref q16_9, .ref q27_14, .null, vi 0, .null, .null, .null, .null, .null, .null, .null])) :: (((([] ++ wL5 C q5_4 x9_6) ++ wL2 C q16_9 x20_11) ++ wL5 C q27_14 x31_16) ++ wL2 C q38_19 x42_21)) : va_W) from rfl) ?_
  refine BW.putF dX8_init_45 ip_X8_26 0 rfl rfl rfl (Nat.le_of_ble_eq_true rfl) ?_
  refine BW.eqw (show _ = (((h0, .inr (8, [.ref q5_4, .ref q16_9, .ref q27_14, .ref q38_19, vi 0, .null, .null, .null, .null, .null, .null, .null])) :: (((([] ++ wL5 C q5_4 x9_6) ++ wL2 C q16_9 x20_11) ++ wL5 C q27_14 x31_16) ++ wL2 C q38_19 x42_21)) : va_W) from rfl) ?_
  refine BW.aload dX8_init_48 0 rfl rfl ?_
  refine BW.iconst dX8_init_49 ?_
  refine BW.put dX8_init_50 ip_X8_29 0 rfl rfl rfl (Nat.le_of_ble_eq_true rfl) ?_
  refine BW.eqw (show _ = (((h0, .inr (8, [.ref q5_4, .ref q16_9, .ref q27_14, .ref q38_19, vi 0, .null, .null, .null, .null, .null, .null, .null])) :: (((([] ++ wL5 C q5_4 x9_6) ++ wL2 C q16_9 x20_11) ++ wL5 C q27_14 x31_16) ++ wL2 C q38_19 x42_21)) : va_W) from rfl) ?_
  refine BW.aload dX8_init_53 0 rfl rfl ?_
  refine BW.new dX8_init_54 nw_X8_7 (Nat.le_of_ble_eq_true rfl) (Nat.le_of_ble_eq_true rfl) (fun q54_27 => ?_)
  refine BW.dup dX8_init_57 rfl ?_
  refine BW.make (Cb_X5 l D C q54_27) dX8_init_58 ic_X8_9 ⟨(Nat.le_of_ble_eq_true rfl), (Nat.le_of_ble_eq_true rfl)⟩ ⟨(Nat.le_of_ble_eq_true rfl), (Nat.le_of_ble_eq_true rfl)⟩ (Nat.le_of_ble_eq_true rfl) (fun w1 hw1 => ?_)
  obtain ⟨x58_29, rfl⟩ := hw1
  refine BW.eqw (show _ = (((h0, .inr (8, [.ref q5_4, .ref q16_9, .ref q27_14, .ref q38_19, vi 0, .null, .null, .null, .null, .null, .null, .null])) :: ((((([] ++ wL5 C q5_4 x9_6) ++ wL2 C q16_9 x20_11) ++ wL5 C q27_14 x31_16) ++ wL2 C q38_19 x42_21) ++ wL5 C q54_27 x58_29)) : va_W) from rfl) ?_
  refine BW.putF dX8_init_61 ip_X8_33 0 rfl rfl rfl (Nat.le_of_ble_eq_true rfl) ?_
  refine BW.eqw (show _ = (((h0, .inr (8, [.ref q5_4, .ref q16_9, .ref q27_14, .ref q38_19, vi 0, .ref q54_27, .null, .null, .null, .null, .null, .null])) :: ((((([] ++ wL5 C q5_4 x9_6) ++ wL2 C q16_9 x20_11) ++ wL5 C q27_14 x31_16) ++ wL2 C q38_19 x42_21) ++ wL5 C q54_27 x58_29)) : va_W) from rfl) ?_
  refine BW.aload dX8_init_64 0 rfl rfl ?_
  refine BW.new dX8_init_65 nw_X8_36 (Nat.le_of_ble_eq_true rfl) (Nat.le_of_ble_eq_true rfl) (fun q65_32 => ?_)
  refine BW.dup dX8_init_68 rfl ?_
  refine BW.make (Cb_X7 l D C q65_32) dX8_init_69 ic_X8_38 ⟨(Nat.le_of_ble_eq_true rfl), (Nat.le_of_ble_eq_true rfl)⟩ ⟨(Nat.le_of_ble_eq_true rfl), (Nat.le_of_ble_eq_true rfl)⟩ (Nat.le_of_ble_eq_true rfl) (fun w1 hw1 => ?_)
  obtain ⟨x69_34, rfl⟩ := hw1
  refine BW.eqw (show _ = (((h0, .inr (8, [.ref q5_4, .ref q16_9, .ref q27_14, .ref q38_19, vi 0, .ref q54_27, .null, .null, .null, .null, .null, .null])) :: (((((([] ++ wL5 C q5_4 x9_6) ++ wL2 C q16_9 x20_11) ++ wL5 C q27_14 x31_16) ++ wL2 C q38_19 x42_21) ++ wL5 C q54_27 x58_29) ++ wL7 C q65_32 x69_34)) : va_W) from rfl) ?_
  refine BW.putF dX8_init_72 ip_X8_39 0 rfl rfl rfl (Nat.le_of_ble_eq_true rfl) ?_
  refine BW.eqw (show _ = (((h0, .inr (8, [.ref q5_4, .ref q16_9, .ref q27_14, .ref q38_19, vi 0, .ref q54_27, .ref q65_32, .null, .null, .null, .null, .null])) :: (((((([] ++ wL5 C q5_4 x9_6) ++ wL2 C q16_9 x20_11) ++ wL5 C q27_14 x31_16) ++ wL2 C q38_19 x42_21) ++ wL5 C q54_27 x58_29) ++ wL7 C q65_32 x69_34)) : va_W) from rfl) ?_
  refine BW.aload dX8_init_75 0 rfl rfl ?_
  refine BW.new dX8_init_76 nw_X8_43 (Nat.le_of_ble_eq_true rfl) (Nat.le_of_ble_eq_true rfl) (fun q76_37 => ?_)
  refine BW.dup dX8_init_79 rfl ?_
  refine BW.make (Cb_X3 l D C q76_37) dX8_init_80 ic_X8_45 ⟨(Nat.le_of_ble_eq_true rfl), (Nat.le_of_ble_eq_true rfl)⟩ ⟨(Nat.le_of_ble_eq_true rfl), (Nat.le_of_ble_eq_true rfl)⟩ (Nat.le_of_ble_eq_true rfl) (fun w1 hw1 => ?_)
  obtain ⟨x80_39, rfl⟩ := hw1
  refine BW.eqw (show _ = (((h0, .inr (8, [.ref q5_4, .ref q16_9, .ref q27_14, .ref q38_19, vi 0, .ref q54_27, .ref q65_32, .null, .null, .null, .null, .null])) :: ((((((([] ++ wL5 C q5_4 x9_6) ++ wL2 C q16_9 x20_11) ++ wL5 C q27_14 x31_16) ++ wL2 C q38_19 x42_21) ++ wL5 C q54_27 x58_29) ++ wL7 C q65_32 x69_34) ++ wL3 C q76_37 x80_39)) : va_W) from rfl) ?_
  refine BW.putF dX8_init_83 ip_X8_46 0 rfl rfl rfl (Nat.le_of_ble_eq_true rfl) ?_
  refine BW.eqw (show _ = (((h0, .inr (8, [.ref q5_4, .ref q16_9, .ref q27_14, .ref q38_19, vi 0, .ref q54_27, .ref q65_32, .ref q76_37, .null, .null, .null, .null])) :: ((((((([] ++ wL5 C q5_4 x9_6) ++ wL2 C q16_9 x20_11) ++ wL5 C q27_14 x31_16) ++ wL2 C q38_19 x42_21) ++ wL5 C q54_27 x58_29) ++ wL7 C q65_32 x69_34) ++ wL3 C q76_37 x80_39)) : va_W) from rfl) ?_
  refine BW.aload dX8_init_86 0 rfl rfl ?_
  refine BW.new dX8_init_87 nw_X8_50 (Nat.le_of_ble_eq_true rfl) (Nat.le_of_ble_eq_true rfl) (fun q87_42 => ?_)
  refine BW.dup dX8_init_90 rfl ?_
  refine BW.make (Cb_X4 l D C q87_42) dX8_init_91 ic_X8_52 ⟨(Nat.le_of_ble_eq_true rfl), (Nat.le_of_ble_eq_true rfl)⟩ ⟨(Nat.le_of_ble_eq_true rfl), (Nat.le_of_ble_eq_true rfl)⟩ (Nat.le_of_ble_eq_true rfl) (fun w1 hw1 => ?_)
  obtain ⟨x91_44, rfl⟩ := hw1
  refine BW.eqw (show _ = (((h0, .inr (8, [.ref q5_4, .ref q16_9, .ref q27_14, .ref q38_19, vi 0, .ref q54_27, .ref q65_32, .ref q76_37, .null, .null, .null, .null])) :: (((((((([] ++ wL5 C q5_4 x9_6) ++ wL2 C q16_9 x20_11) ++ wL5 C q27_14 x31_16) ++ wL2 C q38_19 x42_21) ++ wL5 C q54_27 x58_29) ++ wL7 C q65_32 x69_34) ++ wL3 C q76_37 x80_39) ++ wL4 C q87_42 x91_44)) : va_W) from rfl) ?_
  refine BW.putF dX8_init_94 ip_X8_53 0 rfl rfl rfl (Nat.le_of_ble_eq_true rfl) ?_
  refine BW.eqw (show _ = (((h0, .inr (8, [.ref q5_4, .ref q16_9, .ref q27_14, .ref q38_19, vi 0, .ref q54_27, .ref q65_32, .ref q76_37, .ref q87_42, .null, .null, .null])) :: (((((((([] ++ wL5 C q5_4 x9_6) ++ wL2 C q16_9 x20_11) ++ wL5 C q27_14 x31_16) ++ wL2 C q38_19 x42_21) ++ wL5 C q54_27 x58_29) ++ wL7 C q65_32 x69_34) ++ wL3 C q76_37 x80_39) ++ wL4 C q87_42 x91_44)) : va_W) from rfl) ?_
  refine BW.aload dX8_init_97 0 rfl rfl ?_
  refine BW.new dX8_init_98 nw_X8_57 (Nat.le_of_ble_eq_true rfl) (Nat.le_of_ble_eq_true rfl) (fun q98_47 => ?_)
  refine BW.dup dX8_init_101 rfl ?_
  refine BW.make (Cb_X0 l D C q98_47) dX8_init_102 ic_X8_59 ⟨(Nat.le_of_ble_eq_true rfl), (Nat.le_of_ble_eq_true rfl)⟩ ⟨(Nat.le_of_ble_eq_true rfl), (Nat.le_of_ble_eq_true rfl)⟩ (Nat.le_of_ble_eq_true rfl) (fun w1 hw1 => ?_)
  obtain ⟨x102_49, rfl⟩ := hw1
  refine BW.eqw (show _ = (((h0, .inr (8, [.ref q5_4, .ref q16_9, .ref q27_14, .ref q38_19, vi 0, .ref q54_27, .ref q65_32, .ref q76_37, .ref q87_42, .null, .null, .null])) :: ((((((((([] ++ wL5 C q5_4 x9_6) ++ wL2 C q16_9 x20_11) ++ wL5 C q27_14 x31_16) ++ wL2 C q38_19 x42_21) ++ wL5 C q54_27 x58_29) ++ wL7 C q65_32 x69_34) ++ wL3 C q76_37 x80_39) ++ wL4 C q87_42 x91_44) ++ wL0 C q98_47 x102_49)) : va_W) from rfl) ?_
  refine BW.putF dX8_init_105 ip_X8_60 0 rfl rfl rfl (Nat.le_of_ble_eq_true rfl) ?_
  refine BW.eqw (show _ = (((h0, .inr (8, [.ref q5_4, .ref q16_9, .ref q27_14, .ref q38_19, vi 0, .ref q54_27, .ref q65_32, .ref q76_37, .ref q87_42, .ref q98_47, .null, .null])) :: ((((((((([] ++ wL5 C q5_4 x9_6) ++ wL2 C q16_9 x20_11) ++ wL5 C q27_14 x31_16) ++ wL2 C q38_19 x42_21) ++ wL5 C q54_27 x58_29) ++ wL7 C q65_32 x69_34) ++ wL3 C q76_37 x80_39) ++ wL4 C q87_42 x91_44) ++ wL0 C q98_47 x102_49)) : va_W) from rfl) ?_
  refine BW.aload dX8_init_108 0 rfl rfl ?_
  refine BW.new dX8_init_109 nw_X8_64 (Nat.le_of_ble_eq_true rfl) (Nat.le_of_ble_eq_true rfl) (fun q109_52 => ?_)
  refine BW.dup dX8_init_112 rfl ?_
  refine BW.make (Cb_X6 l D C q109_52) dX8_init_113 ic_X8_66 ⟨(Nat.le_of_ble_eq_true rfl), (Nat.le_of_ble_eq_true rfl)⟩ ⟨(Nat.le_of_ble_eq_true rfl), (Nat.le_of_ble_eq_true rfl)⟩ (Nat.le_of_ble_eq_true rfl) (fun w1 hw1 => ?_)
  obtain ⟨x113_54, rfl⟩ := hw1
  refine BW.eqw (show _ = (((h0, .inr (8, [.ref q5_4, .ref q16_9, .ref q27_14, .ref q38_19, vi 0, .ref q54_27, .ref q65_32, .ref q76_37, .ref q87_42, .ref q98_47, .null, .null])) :: (((((((((([] ++ wL5 C q5_4 x9_6) ++ wL2 C q16_9 x20_11) ++ wL5 C q27_14 x31_16) ++ wL2 C q38_19 x42_21) ++ wL5 C q54_27 x58_29) ++ wL7 C q65_32 x69_34) ++ wL3 C q76_37 x80_39) ++ wL4 C q87_42 x91_44) ++ wL0 C q98_47 x102_49) ++ wL6 C q109_52 x113_54)) : va_W) from rfl) ?_
  refine BW.putF dX8_init_116 ip_X8_67 0 rfl rfl rfl (Nat.le_of_ble_eq_true rfl) ?_
  refine BW.eqw (show _ = (((h0, .inr (8, [.ref q5_4, .ref q16_9, .ref q27_14, .ref q38_19, vi 0, .ref q54_27, .ref q65_32, .ref q76_37, .ref q87_42, .ref q98_47, .ref q109_52, .null])) :: (((((((((([] ++ wL5 C q5_4 x9_6) ++ wL2 C q16_9 x20_11) ++ wL5 C q27_14 x31_16) ++ wL2 C q38_19 x42_21) ++ wL5 C q54_27 x58_29) ++ wL7 C q65_32 x69_34) ++ wL3 C q76_37 x80_39) ++ wL4 C q87_42 x91_44) ++ wL0 C q98_47 x102_49) ++ wL6 C q109_52 x113_54)) : va_W) from rfl) ?_
  refine BW.aload dX8_init_119 0 rfl rfl ?_
  refine BW.iconst dX8_init_120 ?_
  refine BW.newP (N := 4) dX8_init_121 cl_X8_71 rfl (by decide) (Nat.le_of_ble_eq_true rfl) (Nat.le_of_ble_eq_true rfl) (fun q121_58 => ?_)
  refine BW.eqw (show _ = (((h0, .inr (8, [.ref q5_4, .ref q16_9, .ref q27_14, .ref q38_19, vi 0, .ref q54_27, .ref q65_32, .ref q76_37, .ref q87_42, .ref q98_47, .ref q109_52, .null])) :: (((((((((((([] ++ wL5 C q5_4 x9_6) ++ wL2 C q16_9 x20_11) ++ wL5 C q27_14 x31_16) ++ wL2 C q38_19 x42_21) ++ wL5 C q54_27 x58_29) ++ wL7 C q65_32 x69_34) ++ wL3 C q76_37 x80_39) ++ wL4 C q87_42 x91_44) ++ wL0 C q98_47 x102_49) ++ wL6 C q109_52 x113_54) ++ [(q121_58, .inl (C 3, 4, .inr (.inr (.inr (.inr (fun _ => none))))))]) ++ ([]))) : va_W) from by simp only [List.cons_append, List.append_assoc, List.nil_append, List.append_nil]) ?_
  refine BW.putF dX8_init_124 ip_X8_73 0 rfl rfl rfl (Nat.le_of_ble_eq_true rfl) ?_
  refine BW.eqw (show _ = (((h0, .inr (8, [.ref q5_4, .ref q16_9, .ref q27_14, .ref q38_19, vi 0, .ref q54_27, .ref q65_32, .ref q76_37, .ref q87_42, .ref q98_47, .ref q109_52, .ref q121_58])) :: (((((((((((([] ++ wL5 C q5_4 x9_6) ++ wL2 C q16_9 x20_11) ++ wL5 C q27_14 x31_16) ++ wL2 C q38_19 x42_21) ++ wL5 C q54_27 x58_29) ++ wL7 C q65_32 x69_34) ++ wL3 C q76_37 x80_39) ++ wL4 C q87_42 x91_44) ++ wL0 C q98_47 x102_49) ++ wL6 C q109_52 x113_54) ++ [(q121_58, .inl (C 3, 4, .inr (.inr (.inr (.inr (fun _ => none))))))]) ++ ([]))) : va_W) from rfl) ?_
  refine BW.iconst dX8_init_127 ?_
  refine BW.istore [(1, vi (0)), (0, .ref h0)] dX8_init_128 rfl (by decide) rfl ?_
  refine BW.iload dX8_init_129 0 rfl rfl ?_
  refine BW.iconst dX8_init_130 ?_
  refine BW.ge 153 dX8_init_131 (by decide) (by decide) (by decide) (fun c => absurd c (by decide)) (fun _ => ?_)
  refine BW.aload dX8_init_134 1 rfl rfl ?_
  refine BW.getR dX8_init_135 ig_X8_73 0 rfl rfl ?_
  refine BW.iload dX8_init_138 0 rfl rfl ?_
  refine BW.new dX8_init_139 nw_X8_71 (Nat.le_of_ble_eq_true rfl) (Nat.le_of_ble_eq_true rfl) (fun q139_68 => ?_)
  refine BW.dup dX8_init_142 rfl ?_
  refine BW.make (Cb_X1 l D C q139_68) dX8_init_143 ic_X8_77 ⟨(Nat.le_of_ble_eq_true rfl), (Nat.le_of_ble_eq_true rfl)⟩ ⟨(Nat.le_of_ble_eq_true rfl), (Nat.le_of_ble_eq_true rfl)⟩ (Nat.le_of_ble_eq_true rfl) (fun w1 hw1 => ?_)
  obtain ⟨x143_70, rfl⟩ := hw1
  refine BW.eqw (show _ = (((h0, .inr (8, [.ref q5_4, .ref q16_9, .ref q27_14, .ref q38_19, vi 0, .ref q54_27, .ref q65_32, .ref q76_37, .ref q87_42, .ref q98_47, .ref q109_52, .ref q121_58])) :: (((((((((((([] ++ wL5 C q5_4 x9_6) ++ wL2 C q16_9 x20_11) ++ wL5 C q27_14 x31_16) ++ wL2 C q38_19 x42_21) ++ wL5 C q54_27 x58_29) ++ wL7 C q65_32 x69_34) ++ wL3 C q76_37 x80_39) ++ wL4 C q87_42 x91_44) ++ wL0 C q98_47 x102_49) ++ wL6 C q109_52 x113_54) ++ [(q121_58, .inl (C 3, 4, .inr (.inr (.inr (.inr (fun _ => none))))))]) ++ (wL1 C q139_68 x143_70))) : va_W) from by simp only [List.cons_append, List.append_assoc, List.nil_append]) ?_
  refine BW.aastM (A := (h0, .inr (8, [.ref q5_4, .ref q16_9, .ref q27_14, .ref q38_19, vi 0, .ref q54_27, .ref q65_32, .ref q76_37, .ref q87_42, .ref q98_47, .ref q109_52, .ref q121_58])) :: (((((((((([] ++ wL5 C q5_4 x9_6) ++ wL2 C q16_9 x20_11) ++ wL5 C q27_14 x31_16) ++ wL2 C q38_19 x42_21) ++ wL5 C q54_27 x58_29) ++ wL7 C q65_32 x69_34) ++ wL3 C q76_37 x80_39) ++ wL4 C q87_42 x91_44) ++ wL0 C q98_47 x102_49) ++ wL6 C q109_52 x113_54)) (B := wL1 C q139_68 x143_70) dX8_init_146 0 rfl (by decide) (by decide) (by decide) ?_
  refine BW.eqw (show _ = (((h0, .inr (8, [.ref q5_4, .ref q16_9, .ref q27_14, .ref q38_19, vi 0, .ref q54_27, .ref q65_32, .ref q76_37, .ref q87_42, .ref q98_47, .ref q109_52, .ref q121_58])) :: (((((((((((([] ++ wL5 C q5_4 x9_6) ++ wL2 C q16_9 x20_11) ++ wL5 C q27_14 x31_16) ++ wL2 C q38_19 x42_21) ++ wL5 C q54_27 x58_29) ++ wL7 C q65_32 x69_34) ++ wL3 C q76_37 x80_39) ++ wL4 C q87_42 x91_44) ++ wL0 C q98_47 x102_49) ++ wL6 C q109_52 x113_54) ++ [(q121_58, .inl (C 3, 4, .inr (.inr (.inr (.inr (va_up (fun _ => none) 0 (some q139_68)))))))]) ++ (wL1 C q139_68 x143_70))) : va_W) from rfl) ?_
  refine BW.iinc [(1, vi (1)), (0, .ref h0)] dX8_init_147 0 rfl (by decide) (1) rfl rfl ?_
  refine BW.goto 129 dX8_init_150 (by decide) ?_
  refine BW.iload dX8_init_129 0 rfl rfl ?_
  refine BW.iconst dX8_init_130 ?_
  refine BW.ge 153 dX8_init_131 (by decide) (by decide) (by decide) (fun c => absurd c (by decide)) (fun _ => ?_)
  refine BW.aload dX8_init_134 1 rfl rfl ?_
  refine BW.getR dX8_init_135 ig_X8_73 0 rfl rfl ?_
  refine BW.iload dX8_init_138 0 rfl rfl ?_
  refine BW.new dX8_init_139 nw_X8_71 (Nat.le_of_ble_eq_true rfl) (Nat.le_of_ble_eq_true rfl) (fun q139_80 => ?_)
  refine BW.dup dX8_init_142 rfl ?_
  refine BW.make (Cb_X1 l D C q139_80) dX8_init_143 ic_X8_77 ⟨(Nat.le_of_ble_eq_true rfl), (Nat.le_of_ble_eq_true rfl)⟩ ⟨(Nat.le_of_ble_eq_true rfl), (Nat.le_of_ble_eq_true rfl)⟩ (Nat.le_of_ble_eq_true rfl) (fun w1 hw1 => ?_)
  obtain ⟨x143_82, rfl⟩ := hw1
  refine BW.eqw (show _ = (((h0, .inr (8, [.ref q5_4, .ref q16_9, .ref q27_14, .ref q38_19, vi 0, .ref q54_27, .ref q65_32, .ref q76_37, .ref q87_42, .ref q98_47, .ref q109_52, .ref q121_58])) :: (((((((((((([] ++ wL5 C q5_4 x9_6) ++ wL2 C q16_9 x20_11) ++ wL5 C q27_14 x31_16) ++ wL2 C q38_19 x42_21) ++ wL5 C q54_27 x58_29) ++ wL7 C q65_32 x69_34) ++ wL3 C q76_37 x80_39) ++ wL4 C q87_42 x91_44) ++ wL0 C q98_47 x102_49) ++ wL6 C q109_52 x113_54) ++ [(q121_58, .inl (C 3, 4, .inr (.inr (.inr (.inr (va_up (fun _ => none) 0 (some q139_68)))))))]) ++ ((wL1 C q139_68 x143_70) ++ wL1 C q139_80 x143_82))) : va_W) from by simp only [List.cons_append, List.append_assoc, List.nil_append]) ?_
  refine BW.aastM (A := (h0, .inr (8, [.ref q5_4, .ref q16_9, .ref q27_14, .ref q38_19, vi 0, .ref q54_27, .ref q65_32, .ref q76_37, .ref q87_42, .ref q98_47, .ref q109_52, .ref q121_58])) :: (((((((((([] ++ wL5 C q5_4 x9_6) ++ wL2 C q16_9 x20_11) ++ wL5 C q27_14 x31_16) ++ wL2 C q38_19 x42_21) ++ wL5 C q54_27 x58_29) ++ wL7 C q65_32 x69_34) ++ wL3 C q76_37 x80_39) ++ wL4 C q87_42 x91_44) ++ wL0 C q98_47 x102_49) ++ wL6 C q109_52 x113_54)) (B := (wL1 C q139_68 x143_70) ++ wL1 C q139_80 x143_82) dX8_init_146 2 rfl (by decide) (by decide) (by decide) ?_
  refine BW.eqw (show _ = (((h0, .inr (8, [.ref q5_4, .ref q16_9, .ref q27_14, .ref q38_19, vi 0, .ref q54_27, .ref q65_32, .ref q76_37, .ref q87_42, .ref q98_47, .ref q109_52, .ref q121_58])) :: (((((((((((([] ++ wL5 C q5_4 x9_6) ++ wL2 C q16_9 x20_11) ++ wL5 C q27_14 x31_16) ++ wL2 C q38_19 x42_21) ++ wL5 C q54_27 x58_29) ++ wL7 C q65_32 x69_34) ++ wL3 C q76_37 x80_39) ++ wL4 C q87_42 x91_44) ++ wL0 C q98_47 x102_49) ++ wL6 C q109_52 x113_54) ++ [(q121_58, .inl (C 3, 4, .inr (.inr (.inr (.inr (va_up (va_up (fun _ => none) 0 (some q139_68)) 1 (some q139_80)))))))]) ++ ((wL1 C q139_68 x143_70) ++ wL1 C q139_80 x143_82))) : va_W) from rfl) ?_
  refine BW.iinc [(1, vi (2)), (0, .ref h0)] dX8_init_147 0 rfl (by decide) (2) rfl rfl ?_
  refine BW.goto 129 dX8_init_150 (by decide) ?_
  refine BW.iload dX8_init_129 0 rfl rfl ?_
  refine BW.iconst dX8_init_130 ?_
  refine BW.ge 153 dX8_init_131 (by decide) (by decide) (by decide) (fun c => absurd c (by decide)) (fun _ => ?_)
  refine BW.aload dX8_init_134 1 rfl rfl ?_
  refine BW.getR dX8_init_135 ig_X8_73 0 rfl rfl ?_
  refine BW.iload dX8_init_138 0 rfl rfl ?_
  refine BW.new dX8_init_139 nw_X8_71 (Nat.le_of_ble_eq_true rfl) (Nat.le_of_ble_eq_true rfl) (fun q139_92 => ?_)
  refine BW.dup dX8_init_142 rfl ?_
  refine BW.make (Cb_X1 l D C q139_92) dX8_init_143 ic_X8_77 ⟨(Nat.le_of_ble_eq_true rfl), (Nat.le_of_ble_eq_true rfl)⟩ ⟨(Nat.le_of_ble_eq_true rfl), (Nat.le_of_ble_eq_true rfl)⟩ (Nat.le_of_ble_eq_true rfl) (fun w1 hw1 => ?_)
  obtain ⟨x143_94, rfl⟩ := hw1
  refine BW.eqw (show _ = (((h0, .inr (8, [.ref q5_4, .ref q16_9, .ref q27_14, .ref q38_19, vi 0, .ref q54_27, .ref q65_32, .ref q76_37, .ref q87_42, .ref q98_47, .ref q109_52, .ref q121_58])) :: (((((((((((([] ++ wL5 C q5_4 x9_6) ++ wL2 C q16_9 x20_11) ++ wL5 C q27_14 x31_16) ++ wL2 C q38_19 x42_21) ++ wL5 C q54_27 x58_29) ++ wL7 C q65_32 x69_34) ++ wL3 C q76_37 x80_39) ++ wL4 C q87_42 x91_44) ++ wL0 C q98_47 x102_49) ++ wL6 C q109_52 x113_54) ++ [(q121_58, .inl (C 3, 4, .inr (.inr (.inr (.inr (va_up (va_up (fun _ => none) 0 (some q139_68)) 1 (some q139_80)))))))]) ++ (((wL1 C q139_68 x143_70) ++ wL1 C q139_80 x143_82) ++ wL1 C q139_92 x143_94))) : va_W) from by simp only [List.cons_append, List.append_assoc, List.nil_append]) ?_
  refine BW.aastM (A := (h0, .inr (8, [.ref q5_4, .ref q16_9, .ref q27_14, .ref q38_19, vi 0, .ref q54_27, .ref q65_32, .ref q76_37, .ref q87_42, .ref q98_47, .ref q109_52, .ref q121_58])) :: (((((((((([] ++ wL5 C q5_4 x9_6) ++ wL2 C q16_9 x20_11) ++ wL5 C q27_14 x31_16) ++ wL2 C q38_19 x42_21) ++ wL5 C q54_27 x58_29) ++ wL7 C q65_32 x69_34) ++ wL3 C q76_37 x80_39) ++ wL4 C q87_42 x91_44) ++ wL0 C q98_47 x102_49) ++ wL6 C q109_52 x113_54)) (B := ((wL1 C q139_68 x143_70) ++ wL1 C q139_80 x143_82) ++ wL1 C q139_92 x143_94) dX8_init_146 4 rfl (by decide) (by decide) (by decide) ?_
  refine BW.eqw (show _ = (((h0, .inr (8, [.ref q5_4, .ref q16_9, .ref q27_14, .ref q38_19, vi 0, .ref q54_27, .ref q65_32, .ref q76_37, .ref q87_42, .ref q98_47, .ref q109_52, .ref q121_58])) :: (((((((((((([] ++ wL5 C q5_4 x9_6) ++ wL2 C q16_9 x20_11) ++ wL5 C q27_14 x31_16) ++ wL2 C q38_19 x42_21) ++ wL5 C q54_27 x58_29) ++ wL7 C q65_32 x69_34) ++ wL3 C q76_37 x80_39) ++ wL4 C q87_42 x91_44) ++ wL0 C q98_47 x102_49) ++ wL6 C q109_52 x113_54) ++ [(q121_58, .inl (C 3, 4, .inr (.inr (.inr (.inr (va_up (va_up (va_up (fun _ => none) 0 (some q139_68)) 1 (some q139_80)) 2 (some q139_92)))))))]) ++ (((wL1 C q139_68 x143_70) ++ wL1 C q139_80 x143_82) ++ wL1 C q139_92 x143_94))) : va_W) from rfl) ?_
  refine BW.iinc [(1, vi (3)), (0, .ref h0)] dX8_init_147 0 rfl (by decide) (3) rfl rfl ?_
  refine BW.goto 129 dX8_init_150 (by decide) ?_
  refine BW.iload dX8_init_129 0 rfl rfl ?_
  refine BW.iconst dX8_init_130 ?_
  refine BW.ge 153 dX8_init_131 (by decide) (by decide) (by decide) (fun c => absurd c (by decide)) (fun _ => ?_)
  refine BW.aload dX8_init_134 1 rfl rfl ?_
  refine BW.getR dX8_init_135 ig_X8_73 0 rfl rfl ?_
  refine BW.iload dX8_init_138 0 rfl rfl ?_
  refine BW.new dX8_init_139 nw_X8_71 (Nat.le_of_ble_eq_true rfl) (Nat.le_of_ble_eq_true rfl) (fun q139_104 => ?_)
  refine BW.dup dX8_init_142 rfl ?_
  refine BW.make (Cb_X1 l D C q139_104) dX8_init_143 ic_X8_77 ⟨(Nat.le_of_ble_eq_true rfl), (Nat.le_of_ble_eq_true rfl)⟩ ⟨(Nat.le_of_ble_eq_true rfl), (Nat.le_of_ble_eq_true rfl)⟩ (Nat.le_of_ble_eq_true rfl) (fun w1 hw1 => ?_)
  obtain ⟨x143_106, rfl⟩ := hw1
  refine BW.eqw (show _ = (((h0, .inr (8, [.ref q5_4, .ref q16_9, .ref q27_14, .ref q38_19, vi 0, .ref q54_27, .ref q65_32, .ref q76_37, .ref q87_42, .ref q98_47, .ref q109_52, .ref q121_58])) :: (((((((((((([] ++ wL5 C q5_4 x9_6) ++ wL2 C q16_9 x20_11) ++ wL5 C q27_14 x31_16) ++ wL2 C q38_19 x42_21) ++ wL5 C q54_27 x58_29) ++ wL7 C q65_32 x69_34) ++ wL3 C q76_37 x80_39) ++ wL4 C q87_42 x91_44) ++ wL0 C q98_47 x102_49) ++ wL6 C q109_52 x113_54) ++ [(q121_58, .inl (C 3, 4, .inr (.inr (.inr (.inr (va_up (va_up (va_up (fun _ => none) 0 (some q139_68)) 1 (some q139_80)) 2 (some q139_92)))))))]) ++ ((((wL1 C q139_68 x143_70) ++ wL1 C q139_80 x143_82) ++ wL1 C q139_92 x143_94) ++ wL1 C q139_104 x143_106))) : va_W) from by simp only [List.cons_append, List.append_assoc, List.nil_append]) ?_
  refine BW.aastM (A := (h0, .inr (8, [.ref q5_4, .ref q16_9, .ref q27_14, .ref q38_19, vi 0, .ref q54_27, .ref q65_32, .ref q76_37, .ref q87_42, .ref q98_47, .ref q109_52, .ref q121_58])) :: (((((((((([] ++ wL5 C q5_4 x9_6) ++ wL2 C q16_9 x20_11) ++ wL5 C q27_14 x31_16) ++ wL2 C q38_19 x42_21) ++ wL5 C q54_27 x58_29) ++ wL7 C q65_32 x69_34) ++ wL3 C q76_37 x80_39) ++ wL4 C q87_42 x91_44) ++ wL0 C q98_47 x102_49) ++ wL6 C q109_52 x113_54)) (B := (((wL1 C q139_68 x143_70) ++ wL1 C q139_80 x143_82) ++ wL1 C q139_92 x143_94) ++ wL1 C q139_104 x143_106) dX8_init_146 6 rfl (by decide) (by decide) (by decide) ?_
  refine BW.eqw (show _ = (((h0, .inr (8, [.ref q5_4, .ref q16_9, .ref q27_14, .ref q38_19, vi 0, .ref q54_27, .ref q65_32, .ref q76_37, .ref q87_42, .ref q98_47, .ref q109_52, .ref q121_58])) :: (((((((((((([] ++ wL5 C q5_4 x9_6) ++ wL2 C q16_9 x20_11) ++ wL5 C q27_14 x31_16) ++ wL2 C q38_19 x42_21) ++ wL5 C q54_27 x58_29) ++ wL7 C q65_32 x69_34) ++ wL3 C q76_37 x80_39) ++ wL4 C q87_42 x91_44) ++ wL0 C q98_47 x102_49) ++ wL6 C q109_52 x113_54) ++ [(q121_58, .inl (C 3, 4, .inr (.inr (.inr (.inr (va_up (va_up (va_up (va_up (fun _ => none) 0 (some q139_68)) 1 (some q139_80)) 2 (some q139_92)) 3 (some q139_104)))))))]) ++ ((((wL1 C q139_68 x143_70) ++ wL1 C q139_80 x143_82) ++ wL1 C q139_92 x143_94) ++ wL1 C q139_104 x143_106))) : va_W) from rfl) ?_
  refine BW.iinc [(1, vi (4)), (0, .ref h0)] dX8_init_147 0 rfl (by decide) (4) rfl rfl ?_
  refine BW.goto 129 dX8_init_150 (by decide) ?_
  refine BW.iload dX8_init_129 0 rfl rfl ?_
  refine BW.iconst dX8_init_130 ?_
  refine BW.ge 153 dX8_init_131 (by decide) (by decide) (by decide) (fun _ => ?_) (fun c => absurd (by decide) c)
  rw [up4]
  exact BW.vret dX8_init_153 (Nat.le_of_ble_eq_true rfl) (Nat.le_of_ble_eq_true rfl) ⟨fun c => match c with | 1 => q5_4 | 2 => q16_9 | 3 => q27_14 | 4 => q38_19 | 5 => q54_27 | 6 => q65_32 | 7 => q76_37 | 8 => q87_42 | 9 => q98_47 | 10 => q109_52 | 11 => q121_58 | 12 => q139_68 | 13 => q139_80 | 14 => q139_92 | 15 => q139_104 | _ => 0, fun c => match c with | 1 => x9_6 | 2 => x20_11 | 3 => x31_16 | 4 => x42_21 | 5 => x58_29 | 6 => x69_34 | 7 => x80_39 | 8 => x91_44 | 9 => x102_49 | 10 => x113_54 | 11 => id | 12 => x143_70 | 13 => x143_82 | 14 => x143_94 | 15 => x143_106 | _ => id, rfl⟩
