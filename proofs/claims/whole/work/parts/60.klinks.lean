/-! ===== links of the constructors ===== -/
theorem al_int : Cond.arrayClass .int ∈ mtbl := mtb 46 (by decide +kernel) rfl
theorem al_boolean : Cond.arrayClass .boolean ∈ mtbl := mtb 1050 (by decide +kernel) rfl
set_option maxRecDepth 20000 in
theorem nn_L_7 : nNW "DodgemDebateLaw" 7 9 11 := ⟨(RX10, TX10, 11), rfl, rfl, iw_9, tyX10_ok, (mtb 22 (by decide +kernel) rfl), (mtb 23 (by decide +kernel) rfl), (mtb 1 (by decide +kernel) rfl)⟩
set_option maxRecDepth 20000 in
theorem nn_X10_9 : nNW "DodgemDebate" 9 7 2 := ⟨(RX7, TX7, 2), rfl, rfl, iw_7, tyX7_ok, (mtb 30 (by decide +kernel) rfl), (mtb 31 (by decide +kernel) rfl), (mtb 2 (by decide +kernel) rfl)⟩
set_option maxRecDepth 20000 in
theorem nn_X10_19 : nNW "DodgemDebate" 19 0 5 := ⟨(RX0, TX0, 5), rfl, rfl, iw_0, tyX0_ok, (mtb 47 (by decide +kernel) rfl), (mtb 48 (by decide +kernel) rfl), (mtb 4 (by decide +kernel) rfl)⟩
set_option maxRecDepth 20000 in
theorem ag_X0_5 : Cond.classLink "DodgemDebate$Cars" 5 "[[I" ∈ mtbl := mtb 52 (by decide +kernel) rfl
set_option maxRecDepth 20000 in
theorem nn_X10_26 : nNW "DodgemDebate" 26 6 5 := ⟨(RX6, TX6, 5), rfl, rfl, iw_6, tyX6_ok, (mtb 95 (by decide +kernel) rfl), (mtb 96 (by decide +kernel) rfl), (mtb 5 (by decide +kernel) rfl)⟩
set_option maxRecDepth 20000 in
theorem ag_X6_5 : Cond.classLink "DodgemDebate$Steers" 5 "[[I" ∈ mtbl := mtb 100 (by decide +kernel) rfl
set_option maxRecDepth 20000 in
theorem nn_X10_33 : nNW "DodgemDebate" 33 1 4 := ⟨(RX1, TX1, 4), rfl, rfl, iw_1, tyX1_ok, (mtb 108 (by decide +kernel) rfl), (mtb 109 (by decide +kernel) rfl), (mtb 6 (by decide +kernel) rfl)⟩
set_option maxRecDepth 20000 in
theorem nn_X10_40 : nNW "DodgemDebate" 40 5 5 := ⟨(RX5, TX5, 5), rfl, rfl, iw_5, tyX5_ok, (mtb 133 (by decide +kernel) rfl), (mtb 134 (by decide +kernel) rfl), (mtb 7 (by decide +kernel) rfl)⟩
set_option maxRecDepth 20000 in
theorem nn_X10_47 : nNW "DodgemDebate" 47 4 4 := ⟨(RX4, TX4, 4), rfl, rfl, iw_4, tyX4_ok, (mtb 156 (by decide +kernel) rfl), (mtb 157 (by decide +kernel) rfl), (mtb 8 (by decide +kernel) rfl)⟩
set_option maxRecDepth 20000 in
theorem ag_X4_11 : Cond.classLink "DodgemDebate$Sheets" 11 "[[I" ∈ mtbl := mtb 162 (by decide +kernel) rfl
set_option maxRecDepth 20000 in
theorem nn_X10_54 : nNW "DodgemDebate" 54 3 10 := ⟨(RX3, TX3, 10), rfl, rfl, iw_3, tyX3_ok, (mtb 180 (by decide +kernel) rfl), (mtb 181 (by decide +kernel) rfl), (mtb 9 (by decide +kernel) rfl)⟩
set_option maxRecDepth 20000 in
theorem ag_X3_11 : Cond.classLink "DodgemDebate$Run" 11 "[[I" ∈ mtbl := mtb 186 (by decide +kernel) rfl
set_option maxRecDepth 20000 in
theorem nn_X10_61 : nNW "DodgemDebate" 61 8 10 := ⟨(RX9, TX9, 10), rfl, rfl, iw_8, tyX9_ok, (mtb 225 (by decide +kernel) rfl), (mtb 226 (by decide +kernel) rfl), (mtb 10 (by decide +kernel) rfl)⟩
set_option maxRecDepth 20000 in
theorem nn_X9_9 : nNW "DodgemDebate$Trials" 9 0 5 := ⟨(RX0, TX0, 5), rfl, rfl, iw_0, tyX0_ok, (mtb 231 (by decide +kernel) rfl), (mtb 48 (by decide +kernel) rfl), (mtb 4 (by decide +kernel) rfl)⟩
set_option maxRecDepth 20000 in
theorem nn_X9_18 : nNW "DodgemDebate$Trials" 18 1 4 := ⟨(RX1, TX1, 4), rfl, rfl, iw_1, tyX1_ok, (mtb 233 (by decide +kernel) rfl), (mtb 109 (by decide +kernel) rfl), (mtb 6 (by decide +kernel) rfl)⟩
set_option maxRecDepth 20000 in
theorem nn_X9_25 : nNW "DodgemDebate$Trials" 25 3 10 := ⟨(RX3, TX3, 10), rfl, rfl, iw_3, tyX3_ok, (mtb 235 (by decide +kernel) rfl), (mtb 181 (by decide +kernel) rfl), (mtb 9 (by decide +kernel) rfl)⟩
set_option maxRecDepth 20000 in
theorem ag_X9_32 : Cond.classLink "DodgemDebate$Trials" 32 "[[I" ∈ mtbl := mtb 237 (by decide +kernel) rfl
set_option maxRecDepth 20000 in
theorem nn_X10_70 : nNW "DodgemDebate" 70 2 1 := ⟨(RX2, TX2, 1), rfl, rfl, iw_2, tyX2_ok, (mtb 271 (by decide +kernel) rfl), (mtb 272 (by decide +kernel) rfl), (mtb 11 (by decide +kernel) rfl)⟩
set_option maxRecDepth 20000 in
theorem nn_L_10 : nNW "DodgemDebateLaw" 10 10 53 := ⟨(RX11, TX11, 53), rfl, rfl, iw_10, tyX11_ok, (mtb 884 (by decide +kernel) rfl), (mtb 885 (by decide +kernel) rfl), (mtb 12 (by decide +kernel) rfl)⟩
set_option maxRecDepth 20000 in
theorem oi_inst : Cond.instanceMethod Lib.objectInit ∈ mtbl := mtb 28 (by decide +kernel) rfl
set_option maxRecDepth 20000 in
theorem oi_code : Cond.code Lib.objectInit ⟨#[0xb1]⟩ 1 none ∈ mtbl := mtb 29 (by rfl) rfl
set_option maxRecDepth 20000 in
theorem oi_X10 : Cond.methodLink "DodgemDebate" 3 Lib.objectInit ∈ mtbl := mtb 27 (by decide +kernel) rfl
set_option maxRecDepth 20000 in
theorem oi_X7 : Cond.methodLink "DodgemDebate$Text" 3 Lib.objectInit ∈ mtbl := mtb 35 (by decide +kernel) rfl
set_option maxRecDepth 20000 in
theorem oi_X8 : Cond.methodLink "DodgemDebate$Told" 3 Lib.objectInit ∈ mtbl := mtb 57 (by decide +kernel) rfl
set_option maxRecDepth 20000 in
theorem oi_X1 : Cond.methodLink "DodgemDebate$Events" 3 Lib.objectInit ∈ mtbl := mtb 113 (by decide +kernel) rfl
set_option maxRecDepth 20000 in
theorem oi_X5 : Cond.methodLink "DodgemDebate$Sightings" 3 Lib.objectInit ∈ mtbl := mtb 138 (by decide +kernel) rfl
set_option maxRecDepth 20000 in
theorem oi_X4 : Cond.methodLink "DodgemDebate$Sheets" 3 Lib.objectInit ∈ mtbl := mtb 161 (by decide +kernel) rfl
set_option maxRecDepth 20000 in
theorem oi_X3 : Cond.methodLink "DodgemDebate$Run" 3 Lib.objectInit ∈ mtbl := mtb 185 (by decide +kernel) rfl
set_option maxRecDepth 20000 in
theorem oi_X9 : Cond.methodLink "DodgemDebate$Trials" 3 Lib.objectInit ∈ mtbl := mtb 230 (by decide +kernel) rfl
set_option maxRecDepth 20000 in
theorem oi_X2 : Cond.methodLink "DodgemDebate$Hash" 1 Lib.objectInit ∈ mtbl := mtb 276 (by decide +kernel) rfl
set_option maxRecDepth 20000 in
theorem oi_X11 : Cond.methodLink "DodgemDebateModel" 1 Lib.objectInit ∈ mtbl := mtb 889 (by decide +kernel) rfl
set_option maxRecDepth 20000 in
theorem ci_L_9 : nCI "DodgemDebateLaw" 9 0 kX10_init := ⟨cm_X10_init, Or.inl (mtb 24 (by decide +kernel) rfl), (mtb 25 (by decide +kernel) rfl), (mtb 1 (by decide +kernel) rfl), ⟨by decide +kernel, by decide +kernel, by decide +kernel⟩, by decide, rfl, rfl⟩
set_option maxRecDepth 20000 in
theorem ci_X10_21 : nCI "DodgemDebate" 21 0 kX0_init := ⟨cm_X0_init, Or.inl (mtb 49 (by decide +kernel) rfl), (mtb 50 (by decide +kernel) rfl), (mtb 4 (by decide +kernel) rfl), ⟨by decide +kernel, by decide +kernel, by decide +kernel⟩, by decide, rfl, rfl⟩
set_option maxRecDepth 20000 in
theorem ci_X0_7 : nCI "DodgemDebate$Cars" 7 3 kX8_init := ⟨cm_X8_init, Or.inl (mtb 54 (by decide +kernel) rfl), (mtb 55 (by decide +kernel) rfl), (mtb 3 (by decide +kernel) rfl), ⟨by decide +kernel, by decide +kernel, by decide +kernel⟩, by decide, rfl, rfl⟩
set_option maxRecDepth 20000 in
theorem ci_X10_28 : nCI "DodgemDebate" 28 0 kX6_init := ⟨cm_X6_init, Or.inl (mtb 97 (by decide +kernel) rfl), (mtb 98 (by decide +kernel) rfl), (mtb 5 (by decide +kernel) rfl), ⟨by decide +kernel, by decide +kernel, by decide +kernel⟩, by decide, rfl, rfl⟩
set_option maxRecDepth 20000 in
theorem ci_X6_7 : nCI "DodgemDebate$Steers" 7 3 kX8_init := ⟨cm_X8_init, Or.inl (mtb 101 (by decide +kernel) rfl), (mtb 55 (by decide +kernel) rfl), (mtb 3 (by decide +kernel) rfl), ⟨by decide +kernel, by decide +kernel, by decide +kernel⟩, by decide, rfl, rfl⟩
set_option maxRecDepth 20000 in
theorem ci_X10_63 : nCI "DodgemDebate" 63 4 kX9_init := ⟨cm_X9_init, Or.inl (mtb 227 (by decide +kernel) rfl), (mtb 228 (by decide +kernel) rfl), (mtb 10 (by decide +kernel) rfl), ⟨by decide +kernel, by decide +kernel, by decide +kernel⟩, by decide, rfl, rfl⟩
set_option maxRecDepth 20000 in
theorem ci_X9_11 : nCI "DodgemDebate$Trials" 11 0 kX0_init := ⟨cm_X0_init, Or.inl (mtb 232 (by decide +kernel) rfl), (mtb 50 (by decide +kernel) rfl), (mtb 4 (by decide +kernel) rfl), ⟨by decide +kernel, by decide +kernel, by decide +kernel⟩, by decide, rfl, rfl⟩
set_option maxRecDepth 20000 in
theorem ci_L_12 : nCI "DodgemDebateLaw" 12 0 kX11_init := ⟨cm_X11_init, Or.inl (mtb 886 (by decide +kernel) rfl), (mtb 887 (by decide +kernel) rfl), (mtb 12 (by decide +kernel) rfl), ⟨by decide +kernel, by decide +kernel, by decide +kernel⟩, by decide, rfl, rfl⟩
set_option maxRecDepth 20000 in
theorem ci_X10_11 : nCI "DodgemDebate" 11 0 kX7_init := ⟨cm_X7_init, Or.inr (by decide +kernel), (mtb 33 (by decide +kernel) rfl), (mtb 2 (by decide +kernel) rfl), ⟨by decide +kernel, by decide +kernel, by decide +kernel⟩, by decide, rfl, rfl⟩
set_option maxRecDepth 20000 in
theorem ci_X10_35 : nCI "DodgemDebate" 35 0 kX1_init := ⟨cm_X1_init, Or.inr (by decide +kernel), (mtb 111 (by decide +kernel) rfl), (mtb 6 (by decide +kernel) rfl), ⟨by decide +kernel, by decide +kernel, by decide +kernel⟩, by decide, rfl, rfl⟩
set_option maxRecDepth 20000 in
theorem ci_X10_42 : nCI "DodgemDebate" 42 0 kX5_init := ⟨cm_X5_init, Or.inr (by decide +kernel), (mtb 136 (by decide +kernel) rfl), (mtb 7 (by decide +kernel) rfl), ⟨by decide +kernel, by decide +kernel, by decide +kernel⟩, by decide, rfl, rfl⟩
set_option maxRecDepth 20000 in
theorem ci_X10_49 : nCI "DodgemDebate" 49 0 kX4_init := ⟨cm_X4_init, Or.inr (by decide +kernel), (mtb 159 (by decide +kernel) rfl), (mtb 8 (by decide +kernel) rfl), ⟨by decide +kernel, by decide +kernel, by decide +kernel⟩, by decide, rfl, rfl⟩
set_option maxRecDepth 20000 in
theorem ci_X10_56 : nCI "DodgemDebate" 56 0 kX3_init := ⟨cm_X3_init, Or.inr (by decide +kernel), (mtb 183 (by decide +kernel) rfl), (mtb 9 (by decide +kernel) rfl), ⟨by decide +kernel, by decide +kernel, by decide +kernel⟩, by decide, rfl, rfl⟩
set_option maxRecDepth 20000 in
theorem ci_X9_20 : nCI "DodgemDebate$Trials" 20 0 kX1_init := ⟨cm_X1_init, Or.inr (by decide +kernel), (mtb 111 (by decide +kernel) rfl), (mtb 6 (by decide +kernel) rfl), ⟨by decide +kernel, by decide +kernel, by decide +kernel⟩, by decide, rfl, rfl⟩
set_option maxRecDepth 20000 in
theorem ci_X9_27 : nCI "DodgemDebate$Trials" 27 0 kX3_init := ⟨cm_X3_init, Or.inr (by decide +kernel), (mtb 183 (by decide +kernel) rfl), (mtb 9 (by decide +kernel) rfl), ⟨by decide +kernel, by decide +kernel, by decide +kernel⟩, by decide, rfl, rfl⟩
set_option maxRecDepth 20000 in
theorem ci_X10_72 : nCI "DodgemDebate" 72 0 kX2_init := ⟨cm_X2_init, Or.inr (by decide +kernel), (mtb 274 (by decide +kernel) rfl), (mtb 11 (by decide +kernel) rfl), ⟨by decide +kernel, by decide +kernel, by decide +kernel⟩, by decide, rfl, rfl⟩
theorem ff_X7_9_7 : mFF "DodgemDebate$Text" 9 7 0 := ⟨fl_X7_9_7, (RX7, TX7, 2), rfl, rfl, rfl, tyX7_ok, nmX7⟩
theorem ff_X8_15_0 : mFF "DodgemDebate$Told" 15 0 0 := ⟨fl_X8_15_0, (RX0, TX0, 5), rfl, rfl, rfl, tyX0_ok, nmX0⟩
theorem ff_X8_15_6 : mFF "DodgemDebate$Told" 15 6 0 := ⟨fl_X8_15_6, (RX6, TX6, 5), rfl, rfl, rfl, tyX6_ok, nmX6⟩
theorem ff_X8_19_0 : mFF "DodgemDebate$Told" 19 0 1 := ⟨fl_X8_19_0, (RX0, TX0, 5), rfl, rfl, rfl, tyX0_ok, nmX0⟩
theorem ff_X8_19_6 : mFF "DodgemDebate$Told" 19 6 1 := ⟨fl_X8_19_6, (RX6, TX6, 5), rfl, rfl, rfl, tyX6_ok, nmX6⟩
theorem ff_X8_22_0 : mFF "DodgemDebate$Told" 22 0 2 := ⟨fl_X8_22_0, (RX0, TX0, 5), rfl, rfl, rfl, tyX0_ok, nmX0⟩
theorem ff_X8_22_6 : mFF "DodgemDebate$Told" 22 6 2 := ⟨fl_X8_22_6, (RX6, TX6, 5), rfl, rfl, rfl, tyX6_ok, nmX6⟩
theorem ff_X1_9_1 : mFF "DodgemDebate$Events" 9 1 0 := ⟨fl_X1_9_1, (RX1, TX1, 4), rfl, rfl, rfl, tyX1_ok, nmX1⟩
theorem ff_X1_15_1 : mFF "DodgemDebate$Events" 15 1 1 := ⟨fl_X1_15_1, (RX1, TX1, 4), rfl, rfl, rfl, tyX1_ok, nmX1⟩
theorem ff_X1_18_1 : mFF "DodgemDebate$Events" 18 1 2 := ⟨fl_X1_18_1, (RX1, TX1, 4), rfl, rfl, rfl, tyX1_ok, nmX1⟩
theorem ff_X5_9_5 : mFF "DodgemDebate$Sightings" 9 5 0 := ⟨fl_X5_9_5, (RX5, TX5, 5), rfl, rfl, rfl, tyX5_ok, nmX5⟩
theorem ff_X5_15_5 : mFF "DodgemDebate$Sightings" 15 5 1 := ⟨fl_X5_15_5, (RX5, TX5, 5), rfl, rfl, rfl, tyX5_ok, nmX5⟩
theorem ff_X5_18_5 : mFF "DodgemDebate$Sightings" 18 5 2 := ⟨fl_X5_18_5, (RX5, TX5, 5), rfl, rfl, rfl, tyX5_ok, nmX5⟩
theorem ff_X5_21_5 : mFF "DodgemDebate$Sightings" 21 5 3 := ⟨fl_X5_21_5, (RX5, TX5, 5), rfl, rfl, rfl, tyX5_ok, nmX5⟩
theorem ff_X4_13_4 : mFF "DodgemDebate$Sheets" 13 4 0 := ⟨fl_X4_13_4, (RX4, TX4, 4), rfl, rfl, rfl, tyX4_ok, nmX4⟩
theorem ff_X4_16_4 : mFF "DodgemDebate$Sheets" 16 4 1 := ⟨fl_X4_16_4, (RX4, TX4, 4), rfl, rfl, rfl, tyX4_ok, nmX4⟩
theorem ff_X4_20_4 : mFF "DodgemDebate$Sheets" 20 4 2 := ⟨fl_X4_20_4, (RX4, TX4, 4), rfl, rfl, rfl, tyX4_ok, nmX4⟩
theorem ff_X3_13_3 : mFF "DodgemDebate$Run" 13 3 0 := ⟨fl_X3_13_3, (RX3, TX3, 10), rfl, rfl, rfl, tyX3_ok, nmX3⟩
theorem ff_X3_16_3 : mFF "DodgemDebate$Run" 16 3 1 := ⟨fl_X3_16_3, (RX3, TX3, 10), rfl, rfl, rfl, tyX3_ok, nmX3⟩
theorem ff_X3_19_3 : mFF "DodgemDebate$Run" 19 3 2 := ⟨fl_X3_19_3, (RX3, TX3, 10), rfl, rfl, rfl, tyX3_ok, nmX3⟩
theorem ff_X3_23_3 : mFF "DodgemDebate$Run" 23 3 3 := ⟨fl_X3_23_3, (RX3, TX3, 10), rfl, rfl, rfl, tyX3_ok, nmX3⟩
theorem ff_X3_26_3 : mFF "DodgemDebate$Run" 26 3 4 := ⟨fl_X3_26_3, (RX3, TX3, 10), rfl, rfl, rfl, tyX3_ok, nmX3⟩
theorem ff_X9_41_8 : mFF "DodgemDebate$Trials" 41 8 0 := ⟨fl_X9_41_8, (RX9, TX9, 10), rfl, rfl, rfl, tyX9_ok, nmX9⟩
theorem ff_X9_44_8 : mFF "DodgemDebate$Trials" 44 8 1 := ⟨fl_X9_44_8, (RX9, TX9, 10), rfl, rfl, rfl, tyX9_ok, nmX9⟩
theorem ff_X9_48_8 : mFF "DodgemDebate$Trials" 48 8 2 := ⟨fl_X9_48_8, (RX9, TX9, 10), rfl, rfl, rfl, tyX9_ok, nmX9⟩
theorem ff_X9_51_8 : mFF "DodgemDebate$Trials" 51 8 3 := ⟨fl_X9_51_8, (RX9, TX9, 10), rfl, rfl, rfl, tyX9_ok, nmX9⟩
theorem ff_X9_12_8 : mFF "DodgemDebate$Trials" 12 8 4 := ⟨fl_X9_12_8, (RX9, TX9, 10), rfl, rfl, rfl, tyX9_ok, nmX9⟩
theorem ff_X9_21_8 : mFF "DodgemDebate$Trials" 21 8 5 := ⟨fl_X9_21_8, (RX9, TX9, 10), rfl, rfl, rfl, tyX9_ok, nmX9⟩
theorem ff_X9_28_8 : mFF "DodgemDebate$Trials" 28 8 6 := ⟨fl_X9_28_8, (RX9, TX9, 10), rfl, rfl, rfl, tyX9_ok, nmX9⟩
theorem ff_X9_34_8 : mFF "DodgemDebate$Trials" 34 8 7 := ⟨fl_X9_34_8, (RX9, TX9, 10), rfl, rfl, rfl, tyX9_ok, nmX9⟩
theorem ff_X9_37_8 : mFF "DodgemDebate$Trials" 37 8 8 := ⟨fl_X9_37_8, (RX9, TX9, 10), rfl, rfl, rfl, tyX9_ok, nmX9⟩
theorem ff_X10_12_9 : mFF "DodgemDebate" 12 9 0 := ⟨fl_X10_12_9, (RX10, TX10, 11), rfl, rfl, rfl, tyX10_ok, nmX10⟩
theorem ff_X10_16_9 : mFF "DodgemDebate" 16 9 1 := ⟨fl_X10_16_9, (RX10, TX10, 11), rfl, rfl, rfl, tyX10_ok, nmX10⟩
theorem ff_X10_22_9 : mFF "DodgemDebate" 22 9 2 := ⟨fl_X10_22_9, (RX10, TX10, 11), rfl, rfl, rfl, tyX10_ok, nmX10⟩
theorem ff_X10_29_9 : mFF "DodgemDebate" 29 9 3 := ⟨fl_X10_29_9, (RX10, TX10, 11), rfl, rfl, rfl, tyX10_ok, nmX10⟩
theorem ff_X10_36_9 : mFF "DodgemDebate" 36 9 4 := ⟨fl_X10_36_9, (RX10, TX10, 11), rfl, rfl, rfl, tyX10_ok, nmX10⟩
theorem ff_X10_43_9 : mFF "DodgemDebate" 43 9 5 := ⟨fl_X10_43_9, (RX10, TX10, 11), rfl, rfl, rfl, tyX10_ok, nmX10⟩
theorem ff_X10_50_9 : mFF "DodgemDebate" 50 9 6 := ⟨fl_X10_50_9, (RX10, TX10, 11), rfl, rfl, rfl, tyX10_ok, nmX10⟩
theorem ff_X10_57_9 : mFF "DodgemDebate" 57 9 7 := ⟨fl_X10_57_9, (RX10, TX10, 11), rfl, rfl, rfl, tyX10_ok, nmX10⟩
theorem ff_X10_66_9 : mFF "DodgemDebate" 66 9 8 := ⟨fl_X10_66_9, (RX10, TX10, 11), rfl, rfl, rfl, tyX10_ok, nmX10⟩
theorem ff_X10_73_9 : mFF "DodgemDebate" 73 9 9 := ⟨fl_X10_73_9, (RX10, TX10, 11), rfl, rfl, rfl, tyX10_ok, nmX10⟩
theorem ff_X11_7_10 : mFF "DodgemDebateModel" 7 10 0 := ⟨fl_X11_7_10, (RX11, TX11, 53), rfl, rfl, rfl, tyX11_ok, nmX11⟩
theorem ff_X11_13_10 : mFF "DodgemDebateModel" 13 10 1 := ⟨fl_X11_13_10, (RX11, TX11, 53), rfl, rfl, rfl, tyX11_ok, nmX11⟩
theorem ff_X11_16_10 : mFF "DodgemDebateModel" 16 10 3 := ⟨fl_X11_16_10, (RX11, TX11, 53), rfl, rfl, rfl, tyX11_ok, nmX11⟩
theorem ff_X11_19_10 : mFF "DodgemDebateModel" 19 10 4 := ⟨fl_X11_19_10, (RX11, TX11, 53), rfl, rfl, rfl, tyX11_ok, nmX11⟩
theorem ff_X11_22_10 : mFF "DodgemDebateModel" 22 10 5 := ⟨fl_X11_22_10, (RX11, TX11, 53), rfl, rfl, rfl, tyX11_ok, nmX11⟩
theorem ff_X11_25_10 : mFF "DodgemDebateModel" 25 10 6 := ⟨fl_X11_25_10, (RX11, TX11, 53), rfl, rfl, rfl, tyX11_ok, nmX11⟩
theorem ff_X11_28_10 : mFF "DodgemDebateModel" 28 10 7 := ⟨fl_X11_28_10, (RX11, TX11, 53), rfl, rfl, rfl, tyX11_ok, nmX11⟩
theorem ff_X11_31_10 : mFF "DodgemDebateModel" 31 10 9 := ⟨fl_X11_31_10, (RX11, TX11, 53), rfl, rfl, rfl, tyX11_ok, nmX11⟩
theorem ff_X11_34_10 : mFF "DodgemDebateModel" 34 10 10 := ⟨fl_X11_34_10, (RX11, TX11, 53), rfl, rfl, rfl, tyX11_ok, nmX11⟩
theorem ff_X11_37_10 : mFF "DodgemDebateModel" 37 10 11 := ⟨fl_X11_37_10, (RX11, TX11, 53), rfl, rfl, rfl, tyX11_ok, nmX11⟩
theorem ff_X11_40_10 : mFF "DodgemDebateModel" 40 10 13 := ⟨fl_X11_40_10, (RX11, TX11, 53), rfl, rfl, rfl, tyX11_ok, nmX11⟩
theorem ff_X11_43_10 : mFF "DodgemDebateModel" 43 10 14 := ⟨fl_X11_43_10, (RX11, TX11, 53), rfl, rfl, rfl, tyX11_ok, nmX11⟩
theorem ff_X11_46_10 : mFF "DodgemDebateModel" 46 10 15 := ⟨fl_X11_46_10, (RX11, TX11, 53), rfl, rfl, rfl, tyX11_ok, nmX11⟩
theorem ff_X11_49_10 : mFF "DodgemDebateModel" 49 10 18 := ⟨fl_X11_49_10, (RX11, TX11, 53), rfl, rfl, rfl, tyX11_ok, nmX11⟩
theorem ff_X11_52_10 : mFF "DodgemDebateModel" 52 10 19 := ⟨fl_X11_52_10, (RX11, TX11, 53), rfl, rfl, rfl, tyX11_ok, nmX11⟩
theorem ff_X11_55_10 : mFF "DodgemDebateModel" 55 10 20 := ⟨fl_X11_55_10, (RX11, TX11, 53), rfl, rfl, rfl, tyX11_ok, nmX11⟩
theorem ff_X11_58_10 : mFF "DodgemDebateModel" 58 10 22 := ⟨fl_X11_58_10, (RX11, TX11, 53), rfl, rfl, rfl, tyX11_ok, nmX11⟩
theorem ff_X11_61_10 : mFF "DodgemDebateModel" 61 10 23 := ⟨fl_X11_61_10, (RX11, TX11, 53), rfl, rfl, rfl, tyX11_ok, nmX11⟩
theorem ff_X11_64_10 : mFF "DodgemDebateModel" 64 10 24 := ⟨fl_X11_64_10, (RX11, TX11, 53), rfl, rfl, rfl, tyX11_ok, nmX11⟩
theorem ff_X11_67_10 : mFF "DodgemDebateModel" 67 10 25 := ⟨fl_X11_67_10, (RX11, TX11, 53), rfl, rfl, rfl, tyX11_ok, nmX11⟩
theorem ff_X11_70_10 : mFF "DodgemDebateModel" 70 10 26 := ⟨fl_X11_70_10, (RX11, TX11, 53), rfl, rfl, rfl, tyX11_ok, nmX11⟩
theorem ff_X11_73_10 : mFF "DodgemDebateModel" 73 10 27 := ⟨fl_X11_73_10, (RX11, TX11, 53), rfl, rfl, rfl, tyX11_ok, nmX11⟩
theorem ff_X11_76_10 : mFF "DodgemDebateModel" 76 10 32 := ⟨fl_X11_76_10, (RX11, TX11, 53), rfl, rfl, rfl, tyX11_ok, nmX11⟩
theorem ff_X11_79_10 : mFF "DodgemDebateModel" 79 10 33 := ⟨fl_X11_79_10, (RX11, TX11, 53), rfl, rfl, rfl, tyX11_ok, nmX11⟩
theorem ff_X11_82_10 : mFF "DodgemDebateModel" 82 10 34 := ⟨fl_X11_82_10, (RX11, TX11, 53), rfl, rfl, rfl, tyX11_ok, nmX11⟩
theorem ff_X11_85_10 : mFF "DodgemDebateModel" 85 10 35 := ⟨fl_X11_85_10, (RX11, TX11, 53), rfl, rfl, rfl, tyX11_ok, nmX11⟩
theorem ff_X11_88_10 : mFF "DodgemDebateModel" 88 10 36 := ⟨fl_X11_88_10, (RX11, TX11, 53), rfl, rfl, rfl, tyX11_ok, nmX11⟩
theorem ff_X11_91_10 : mFF "DodgemDebateModel" 91 10 37 := ⟨fl_X11_91_10, (RX11, TX11, 53), rfl, rfl, rfl, tyX11_ok, nmX11⟩
theorem ff_X11_94_10 : mFF "DodgemDebateModel" 94 10 38 := ⟨fl_X11_94_10, (RX11, TX11, 53), rfl, rfl, rfl, tyX11_ok, nmX11⟩
theorem ff_X11_97_10 : mFF "DodgemDebateModel" 97 10 39 := ⟨fl_X11_97_10, (RX11, TX11, 53), rfl, rfl, rfl, tyX11_ok, nmX11⟩
theorem ff_X11_100_10 : mFF "DodgemDebateModel" 100 10 40 := ⟨fl_X11_100_10, (RX11, TX11, 53), rfl, rfl, rfl, tyX11_ok, nmX11⟩
theorem ff_X11_103_10 : mFF "DodgemDebateModel" 103 10 42 := ⟨fl_X11_103_10, (RX11, TX11, 53), rfl, rfl, rfl, tyX11_ok, nmX11⟩
theorem ff_X11_106_10 : mFF "DodgemDebateModel" 106 10 43 := ⟨fl_X11_106_10, (RX11, TX11, 53), rfl, rfl, rfl, tyX11_ok, nmX11⟩
theorem ff_X11_109_10 : mFF "DodgemDebateModel" 109 10 44 := ⟨fl_X11_109_10, (RX11, TX11, 53), rfl, rfl, rfl, tyX11_ok, nmX11⟩
theorem ff_X11_112_10 : mFF "DodgemDebateModel" 112 10 45 := ⟨fl_X11_112_10, (RX11, TX11, 53), rfl, rfl, rfl, tyX11_ok, nmX11⟩
theorem ff_X11_115_10 : mFF "DodgemDebateModel" 115 10 46 := ⟨fl_X11_115_10, (RX11, TX11, 53), rfl, rfl, rfl, tyX11_ok, nmX11⟩
theorem ff_X11_118_10 : mFF "DodgemDebateModel" 118 10 47 := ⟨fl_X11_118_10, (RX11, TX11, 53), rfl, rfl, rfl, tyX11_ok, nmX11⟩
theorem ff_X11_122_10 : mFF "DodgemDebateModel" 122 10 48 := ⟨fl_X11_122_10, (RX11, TX11, 53), rfl, rfl, rfl, tyX11_ok, nmX11⟩
theorem ff_X11_125_10 : mFF "DodgemDebateModel" 125 10 49 := ⟨fl_X11_125_10, (RX11, TX11, 53), rfl, rfl, rfl, tyX11_ok, nmX11⟩
theorem ff_X11_128_10 : mFF "DodgemDebateModel" 128 10 50 := ⟨fl_X11_128_10, (RX11, TX11, 53), rfl, rfl, rfl, tyX11_ok, nmX11⟩
theorem ff_X11_131_10 : mFF "DodgemDebateModel" 131 10 51 := ⟨fl_X11_131_10, (RX11, TX11, 53), rfl, rfl, rfl, tyX11_ok, nmX11⟩
