theorem ol_X0_3 : Cond.methodLink RX0 3 Lib.objectInit ∈ UW := uw_t (tb1 (i := 98) rfl) rfl
set_option maxRecDepth 100000 in
theorem df_X0 : ∀ b0 j, j < 5 → defaultValue (tyX0 j) = vp_V (fld b0 (fun _ => 0) (fun _ => none) 0) j := fun b0 j hj => match j, hj with
  | 0, _ => rfl
  | 1, _ => rfl
  | 2, _ => rfl
  | 3, _ => rfl
  | 4, _ => rfl
  | k + 5, h => absurd h (by omega)
theorem ol_X1_1 : Cond.methodLink RX1 1 Lib.objectInit ∈ UW := uw_t (tb1 (i := 31) rfl) rfl
set_option maxRecDepth 100000 in
theorem df_X1 : ∀ b0 j, j < 3 → defaultValue (tyX1 j) = vp_V (fld b0 (fun _ => 0) (fun _ => none) 1) j := fun b0 j hj => match j, hj with
  | 0, _ => rfl
  | 1, _ => rfl
  | 2, _ => rfl
  | k + 3, h => absurd h (by omega)
theorem ol_X2_3 : Cond.methodLink RX2 3 Lib.objectInit ∈ UW := uw_t (tb1 (i := 139) rfl) rfl
set_option maxRecDepth 100000 in
theorem df_X2 : ∀ b0 j, j < 13 → defaultValue (tyX2 j) = vp_V (fld b0 (fun _ => 0) (fun _ => none) 2) j := fun b0 j hj => match j, hj with
  | 0, _ => rfl
  | 1, _ => rfl
  | 2, _ => rfl
  | 3, _ => rfl
  | 4, _ => rfl
  | 5, _ => rfl
  | 6, _ => rfl
  | 7, _ => rfl
  | 8, _ => rfl
  | 9, _ => rfl
  | 10, _ => rfl
  | 11, _ => rfl
  | 12, _ => rfl
  | k + 13, h => absurd h (by omega)
theorem ol_X3_1 : Cond.methodLink RX3 1 Lib.objectInit ∈ UW := uw_t (tb1 (i := 124) rfl) rfl
set_option maxRecDepth 100000 in
theorem df_X3 : ∀ b0 j, j < 2 → defaultValue (tyX3 j) = vp_V (fld b0 (fun _ => 0) (fun _ => none) 3) j := fun b0 j hj => match j, hj with
  | 0, _ => rfl
  | 1, _ => rfl
  | k + 2, h => absurd h (by omega)
theorem ol_X4_1 : Cond.methodLink RX4 1 Lib.objectInit ∈ UW := uw_t (tb1 (i := 68) rfl) rfl
set_option maxRecDepth 100000 in
theorem df_X4 : ∀ b0 j, j < 7 → defaultValue (tyX4 j) = vp_V (fld b0 (fun _ => 0) (fun _ => none) 4) j := fun b0 j hj => match j, hj with
  | 0, _ => rfl
  | 1, _ => rfl
  | 2, _ => rfl
  | 3, _ => rfl
  | 4, _ => rfl
  | 5, _ => rfl
  | 6, _ => rfl
  | k + 7, h => absurd h (by omega)
theorem ol_X5_1 : Cond.methodLink RX5 1 Lib.objectInit ∈ UW := uw_t (tb1 (i := 37) rfl) rfl
set_option maxRecDepth 100000 in
theorem df_X5 : ∀ b0 j, j < 3 → defaultValue (tyX5 j) = vp_V (fld b0 (fun _ => 0) (fun _ => none) 5) j := fun b0 j hj => match j, hj with
  | 0, _ => rfl
  | 1, _ => rfl
  | 2, _ => rfl
  | k + 3, h => absurd h (by omega)
theorem ol_X6_1 : Cond.methodLink RX6 1 Lib.objectInit ∈ UW := uw_t (tb1 (i := 195) rfl) rfl
set_option maxRecDepth 100000 in
theorem df_X6 : ∀ b0 j, j < 3 → defaultValue (tyX6 j) = vp_V (fld b0 (fun _ => 0) (fun _ => none) 6) j := fun b0 j hj => match j, hj with
  | 0, _ => rfl
  | 1, _ => rfl
  | 2, _ => rfl
  | k + 3, h => absurd h (by omega)
theorem ol_X8_3 : Cond.methodLink RX8 3 Lib.objectInit ∈ UW := uw_t (tb1 (i := 23) rfl) rfl
set_option maxRecDepth 100000 in
theorem df_X8 : ∀ b0 j, j < 10 → defaultValue (tyX8 j) = vp_V (fld b0 (fun _ => 0) (fun _ => none) 7) j := fun b0 j hj => match j, hj with
  | 0, _ => rfl
  | 1, _ => rfl
  | 2, _ => rfl
  | 3, _ => rfl
  | 4, _ => rfl
  | 5, _ => rfl
  | 6, _ => rfl
  | 7, _ => rfl
  | 8, _ => rfl
  | 9, _ => rfl
  | k + 10, h => absurd h (by omega)
theorem ol_X9_1 : Cond.methodLink RX9 1 Lib.objectInit ∈ UW := uw_t (tb4 (i := 18) rfl) rfl
set_option maxRecDepth 100000 in
theorem df_X9 : ∀ b0 j, j < 73 → defaultValue (tyX9 j) = vp_V (fld b0 (fun _ => 0) (fun _ => none) 8) j := fun b0 j hj => match j, hj with
  | 0, _ => rfl
  | 1, _ => rfl
  | 2, _ => rfl
  | 3, _ => rfl
  | 4, _ => rfl
  | 5, _ => rfl
  | 6, _ => rfl
  | 7, _ => rfl
  | 8, _ => rfl
  | 9, _ => rfl
  | 10, _ => rfl
  | 11, _ => rfl
  | 12, _ => rfl
  | 13, _ => rfl
  | 14, _ => rfl
  | 15, _ => rfl
  | 16, _ => rfl
  | 17, _ => rfl
  | 18, _ => rfl
  | 19, _ => rfl
  | 20, _ => rfl
  | 21, _ => rfl
  | 22, _ => rfl
  | 23, _ => rfl
  | 24, _ => rfl
  | 25, _ => rfl
  | 26, _ => rfl
  | 27, _ => rfl
  | 28, _ => rfl
  | 29, _ => rfl
  | 30, _ => rfl
  | 31, _ => rfl
  | 32, _ => rfl
  | 33, _ => rfl
  | 34, _ => rfl
  | 35, _ => rfl
  | 36, _ => rfl
  | 37, _ => rfl
  | 38, _ => rfl
  | 39, _ => rfl
  | 40, _ => rfl
  | 41, _ => rfl
  | 42, _ => rfl
  | 43, _ => rfl
  | 44, _ => rfl
  | 45, _ => rfl
  | 46, _ => rfl
  | 47, _ => rfl
  | 48, _ => rfl
  | 49, _ => rfl
  | 50, _ => rfl
  | 51, _ => rfl
  | 52, _ => rfl
  | 53, _ => rfl
  | 54, _ => rfl
  | 55, _ => rfl
  | 56, _ => rfl
  | 57, _ => rfl
  | 58, _ => rfl
  | 59, _ => rfl
  | 60, _ => rfl
  | 61, _ => rfl
  | 62, _ => rfl
  | 63, _ => rfl
  | 64, _ => rfl
  | 65, _ => rfl
  | 66, _ => rfl
  | 67, _ => rfl
  | 68, _ => rfl
  | 69, _ => rfl
  | 70, _ => rfl
  | 71, _ => rfl
  | 72, _ => rfl
  | k + 73, h => absurd h (by omega)
theorem oim : Cond.instanceMethod Lib.objectInit ∈ UW := uw_t (tb1 (i := 24) rfl) rfl
theorem oco : Cond.code Lib.objectInit ⟨#[0xb1]⟩ 1 none ∈ UW := uw_t (tb1 (i := 25) rfl) rfl
theorem nk_L_7 : Nk RL 7 7 10 := ⟨RX8, TX8, tyX8, rfl, uw_t (tb1 (i := 18) rfl) rfl, uw_t (tb1 (i := 19) rfl) rfl, uw_t (tb1 (i := 1) rfl) rfl, hin_X8, tyX8_ok, df_X8⟩
theorem nk_X8_9 : Nk RX8 9 1 3 := ⟨RX1, TX1, tyX1, rfl, uw_t (tb1 (i := 26) rfl) rfl, uw_t (tb1 (i := 27) rfl) rfl, uw_t (tb1 (i := 2) rfl) rfl, hin_X1, tyX1_ok, df_X1⟩
theorem nk_X1_7 : Nk RX1 7 5 3 := ⟨RX5, TX5, tyX5, rfl, uw_t (tb1 (i := 32) rfl) rfl, uw_t (tb1 (i := 33) rfl) rfl, uw_t (tb1 (i := 3) rfl) rfl, hin_X5, tyX5_ok, df_X5⟩
theorem nk_X8_21 : Nk RX8 21 4 7 := ⟨RX4, TX4, tyX4, rfl, uw_t (tb1 (i := 63) rfl) rfl, uw_t (tb1 (i := 64) rfl) rfl, uw_t (tb1 (i := 4) rfl) rfl, hin_X4, tyX4_ok, df_X4⟩
theorem nk_X8_28 : Nk RX8 28 0 5 := ⟨RX0, TX0, tyX0, rfl, uw_t (tb1 (i := 93) rfl) rfl, uw_t (tb1 (i := 94) rfl) rfl, uw_t (tb1 (i := 5) rfl) rfl, hin_X0, tyX0_ok, df_X0⟩
theorem nk_X8_35 : Nk RX8 35 6 3 := ⟨RX6, TX6, tyX6, rfl, uw_t (tb1 (i := 117) rfl) rfl, uw_t (tb1 (i := 191) rfl) rfl, uw_t (tb1 (i := 8) rfl) rfl, hin_X6, tyX6_ok, df_X6⟩
theorem cl_X8_35 : Cond.classLink RX8 35 RX6 ∈ UW := uw_t (tb1 (i := 117) rfl) rfl
theorem nk_X8_41 : Nk RX8 41 3 2 := ⟨RX3, TX3, tyX3, rfl, uw_t (tb1 (i := 119) rfl) rfl, uw_t (tb1 (i := 120) rfl) rfl, uw_t (tb1 (i := 6) rfl) rfl, hin_X3, tyX3_ok, df_X3⟩
theorem nk_X8_46 : Nk RX8 46 2 13 := ⟨RX2, TX2, tyX2, rfl, uw_t (tb1 (i := 134) rfl) rfl, uw_t (tb1 (i := 135) rfl) rfl, uw_t (tb1 (i := 7) rfl) rfl, hin_X2, tyX2_ok, df_X2⟩
theorem nk_X4_43 : Nk RX4 43 3 2 := ⟨RX3, TX3, tyX3, rfl, uw_t (tb3 (i := 44) rfl) rfl, uw_t (tb1 (i := 120) rfl) rfl, uw_t (tb1 (i := 6) rfl) rfl, hin_X3, tyX3_ok, df_X3⟩
theorem nk_L_10 : Nk RL 10 8 73 := ⟨RX9, TX9, tyX9, rfl, uw_t (tb4 (i := 13) rfl) rfl, uw_t (tb4 (i := 14) rfl) rfl, uw_t (tb1 (i := 9) rfl) rfl, hin_X9, tyX9_ok, df_X9⟩
theorem pf_X5_7 : Pf RX5 7 5 1 .int := ⟨RX5, TX5, 3, tyX5, rfl, by decide, uw_t (tb1 (i := 40) rfl) rfl, hin_X5, tyX5_ok, nmX5, rfl, rfl, by decide +kernel⟩
theorem pf_X5_13 : Pf RX5 13 5 2 (.array .int) := ⟨RX5, TX5, 3, tyX5, rfl, by decide, uw_t (tb1 (i := 41) rfl) rfl, hin_X5, tyX5_ok, nmX5, rfl, rfl, by decide +kernel⟩
theorem pf_X1_12 : Pf RX1 12 1 0 (.object "RefusalMaps$Rows") := ⟨RX1, TX1, 3, tyX1, rfl, by decide, uw_t (tb1 (i := 50) rfl) rfl, hin_X1, tyX1_ok, nmX1, rfl, rfl, by decide +kernel⟩
theorem pf_X1_18 : Pf RX1 18 1 1 (.object "RefusalMaps$Rows") := ⟨RX1, TX1, 3, tyX1, rfl, by decide, uw_t (tb1 (i := 52) rfl) rfl, hin_X1, tyX1_ok, nmX1, rfl, rfl, by decide +kernel⟩
theorem pf_X1_21 : Pf RX1 21 1 2 (.object "RefusalMaps$Rows") := ⟨RX1, TX1, 3, tyX1, rfl, by decide, uw_t (tb1 (i := 54) rfl) rfl, hin_X1, tyX1_ok, nmX1, rfl, rfl, by decide +kernel⟩
theorem pf_X4_9 : Pf RX4 9 4 2 (.array .int) := ⟨RX4, TX4, 7, tyX4, rfl, by decide, uw_t (tb1 (i := 73) rfl) rfl, hin_X4, tyX4_ok, nmX4, rfl, rfl, by decide +kernel⟩
theorem pf_X4_13 : Pf RX4 13 4 3 (.array .int) := ⟨RX4, TX4, 7, tyX4, rfl, by decide, uw_t (tb1 (i := 74) rfl) rfl, hin_X4, tyX4_ok, nmX4, rfl, rfl, by decide +kernel⟩
theorem pf_X0_11 : Pf RX0 11 0 4 (.array .int) := ⟨RX0, TX0, 5, tyX0, rfl, by decide, uw_t (tb1 (i := 104) rfl) rfl, hin_X0, tyX0_ok, nmX0, rfl, rfl, by decide +kernel⟩
theorem pf_X3_13 : Pf RX3 13 3 0 .int := ⟨RX3, TX3, 2, tyX3, rfl, by decide, uw_t (tb1 (i := 125) rfl) rfl, hin_X3, tyX3_ok, nmX3, rfl, rfl, by decide +kernel⟩
theorem pf_X3_7 : Pf RX3 7 3 1 (.array .int) := ⟨RX3, TX3, 2, tyX3, rfl, by decide, uw_t (tb1 (i := 128) rfl) rfl, hin_X3, tyX3_ok, nmX3, rfl, rfl, by decide +kernel⟩
theorem pf_X2_9 : Pf RX2 9 2 0 (.array .int) := ⟨RX2, TX2, 13, tyX2, rfl, by decide, uw_t (tb1 (i := 140) rfl) rfl, hin_X2, tyX2_ok, nmX2, rfl, rfl, by decide +kernel⟩
theorem pf_X2_15 : Pf RX2 15 2 2 (.array .int) := ⟨RX2, TX2, 13, tyX2, rfl, by decide, uw_t (tb1 (i := 144) rfl) rfl, hin_X2, tyX2_ok, nmX2, rfl, rfl, by decide +kernel⟩
theorem pf_X2_18 : Pf RX2 18 2 3 (.array .int) := ⟨RX2, TX2, 13, tyX2, rfl, by decide, uw_t (tb1 (i := 146) rfl) rfl, hin_X2, tyX2_ok, nmX2, rfl, rfl, by decide +kernel⟩
theorem pf_X2_21 : Pf RX2 21 2 4 (.array .int) := ⟨RX2, TX2, 13, tyX2, rfl, by decide, uw_t (tb1 (i := 148) rfl) rfl, hin_X2, tyX2_ok, nmX2, rfl, rfl, by decide +kernel⟩
theorem pf_X2_24 : Pf RX2 24 2 5 (.array .int) := ⟨RX2, TX2, 13, tyX2, rfl, by decide, uw_t (tb1 (i := 150) rfl) rfl, hin_X2, tyX2_ok, nmX2, rfl, rfl, by decide +kernel⟩
theorem pf_X2_27 : Pf RX2 27 2 6 (.array .int) := ⟨RX2, TX2, 13, tyX2, rfl, by decide, uw_t (tb1 (i := 152) rfl) rfl, hin_X2, tyX2_ok, nmX2, rfl, rfl, by decide +kernel⟩
theorem pf_X2_30 : Pf RX2 30 2 7 (.array .int) := ⟨RX2, TX2, 13, tyX2, rfl, by decide, uw_t (tb1 (i := 154) rfl) rfl, hin_X2, tyX2_ok, nmX2, rfl, rfl, by decide +kernel⟩
theorem pf_X2_33 : Pf RX2 33 2 8 (.array .int) := ⟨RX2, TX2, 13, tyX2, rfl, by decide, uw_t (tb1 (i := 156) rfl) rfl, hin_X2, tyX2_ok, nmX2, rfl, rfl, by decide +kernel⟩
theorem pf_X2_42 : Pf RX2 42 2 12 (.array .int) := ⟨RX2, TX2, 13, tyX2, rfl, by decide, uw_t (tb1 (i := 163) rfl) rfl, hin_X2, tyX2_ok, nmX2, rfl, rfl, by decide +kernel⟩
theorem pf_X6_13 : Pf RX6 13 6 2 (.array .long) := ⟨RX6, TX6, 3, tyX6, rfl, by decide, uw_t (tb1 (i := 200) rfl) rfl, hin_X6, tyX6_ok, nmX6, rfl, rfl, by decide +kernel⟩
theorem pf_X8_51 : Pf RX8 51 7 0 (.object "RefusalMaps$Land") := ⟨RX8, TX8, 10, tyX8, rfl, by decide, uw_t (tb1 (i := 210) rfl) rfl, hin_X8, tyX8_ok, nmX8, rfl, rfl, by decide +kernel⟩
theorem pf_X8_55 : Pf RX8 55 7 1 (.object "RefusalMaps$Land") := ⟨RX8, TX8, 10, tyX8, rfl, by decide, uw_t (tb1 (i := 211) rfl) rfl, hin_X8, tyX8_ok, nmX8, rfl, rfl, by decide +kernel⟩
theorem pf_X8_12 : Pf RX8 12 7 2 (.object "RefusalMaps$Hand") := ⟨RX8, TX8, 10, tyX8, rfl, by decide, uw_t (tb1 (i := 212) rfl) rfl, hin_X8, tyX8_ok, nmX8, rfl, rfl, by decide +kernel⟩
theorem pf_X8_58 : Pf RX8 58 7 3 (.object "RefusalMaps$Land") := ⟨RX8, TX8, 10, tyX8, rfl, by decide, uw_t (tb1 (i := 213) rfl) rfl, hin_X8, tyX8_ok, nmX8, rfl, rfl, by decide +kernel⟩
theorem pf_X8_18 : Pf RX8 18 7 4 (.object "RefusalMaps$Hand") := ⟨RX8, TX8, 10, tyX8, rfl, by decide, uw_t (tb1 (i := 214) rfl) rfl, hin_X8, tyX8_ok, nmX8, rfl, rfl, by decide +kernel⟩
theorem pf_X8_24 : Pf RX8 24 7 6 (.object "RefusalMaps$Reader") := ⟨RX8, TX8, 10, tyX8, rfl, by decide, uw_t (tb1 (i := 216) rfl) rfl, hin_X8, tyX8_ok, nmX8, rfl, rfl, by decide +kernel⟩
theorem pf_X8_31 : Pf RX8 31 7 8 (.object "RefusalMaps$Acts") := ⟨RX8, TX8, 10, tyX8, rfl, by decide, uw_t (tb1 (i := 218) rfl) rfl, hin_X8, tyX8_ok, nmX8, rfl, rfl, by decide +kernel⟩
theorem pf_X8_37 : Pf RX8 37 7 9 (.array (.object "RefusalMaps$Tape")) := ⟨RX8, TX8, 10, tyX8, rfl, by decide, uw_t (tb1 (i := 219) rfl) rfl, hin_X8, tyX8_ok, nmX8, rfl, rfl, by decide +kernel⟩
theorem pf_X9_16 : Pf RX9 16 8 2 (.array .int) := ⟨RX9, TX9, 73, tyX9, rfl, by decide, uw_t (tb4 (i := 21) rfl) rfl, hin_X9, tyX9_ok, nmX9, rfl, rfl, by decide +kernel⟩
theorem pf_X9_20 : Pf RX9 20 8 3 (.array .int) := ⟨RX9, TX9, 73, tyX9, rfl, by decide, uw_t (tb4 (i := 22) rfl) rfl, hin_X9, tyX9_ok, nmX9, rfl, rfl, by decide +kernel⟩
theorem pf_X9_23 : Pf RX9 23 8 4 (.array .int) := ⟨RX9, TX9, 73, tyX9, rfl, by decide, uw_t (tb4 (i := 23) rfl) rfl, hin_X9, tyX9_ok, nmX9, rfl, rfl, by decide +kernel⟩
theorem pf_X9_26 : Pf RX9 26 8 5 (.array .int) := ⟨RX9, TX9, 73, tyX9, rfl, by decide, uw_t (tb4 (i := 24) rfl) rfl, hin_X9, tyX9_ok, nmX9, rfl, rfl, by decide +kernel⟩
theorem pf_X9_29 : Pf RX9 29 8 6 (.array .int) := ⟨RX9, TX9, 73, tyX9, rfl, by decide, uw_t (tb4 (i := 25) rfl) rfl, hin_X9, tyX9_ok, nmX9, rfl, rfl, by decide +kernel⟩
theorem pf_X9_32 : Pf RX9 32 8 7 (.array .int) := ⟨RX9, TX9, 73, tyX9, rfl, by decide, uw_t (tb4 (i := 26) rfl) rfl, hin_X9, tyX9_ok, nmX9, rfl, rfl, by decide +kernel⟩
theorem pf_X9_35 : Pf RX9 35 8 8 (.array .int) := ⟨RX9, TX9, 73, tyX9, rfl, by decide, uw_t (tb4 (i := 27) rfl) rfl, hin_X9, tyX9_ok, nmX9, rfl, rfl, by decide +kernel⟩
theorem pf_X9_38 : Pf RX9 38 8 9 (.array .int) := ⟨RX9, TX9, 73, tyX9, rfl, by decide, uw_t (tb4 (i := 28) rfl) rfl, hin_X9, tyX9_ok, nmX9, rfl, rfl, by decide +kernel⟩
theorem pf_X9_56 : Pf RX9 56 8 15 (.array .int) := ⟨RX9, TX9, 73, tyX9, rfl, by decide, uw_t (tb4 (i := 34) rfl) rfl, hin_X9, tyX9_ok, nmX9, rfl, rfl, by decide +kernel⟩
theorem pf_X9_59 : Pf RX9 59 8 16 (.array .int) := ⟨RX9, TX9, 73, tyX9, rfl, by decide, uw_t (tb4 (i := 35) rfl) rfl, hin_X9, tyX9_ok, nmX9, rfl, rfl, by decide +kernel⟩
theorem pf_X9_62 : Pf RX9 62 8 17 (.array .int) := ⟨RX9, TX9, 73, tyX9, rfl, by decide, uw_t (tb4 (i := 36) rfl) rfl, hin_X9, tyX9_ok, nmX9, rfl, rfl, by decide +kernel⟩
theorem pf_X9_65 : Pf RX9 65 8 18 (.array .int) := ⟨RX9, TX9, 73, tyX9, rfl, by decide, uw_t (tb4 (i := 37) rfl) rfl, hin_X9, tyX9_ok, nmX9, rfl, rfl, by decide +kernel⟩
theorem pf_X9_68 : Pf RX9 68 8 19 (.array .int) := ⟨RX9, TX9, 73, tyX9, rfl, by decide, uw_t (tb4 (i := 38) rfl) rfl, hin_X9, tyX9_ok, nmX9, rfl, rfl, by decide +kernel⟩
theorem pf_X9_71 : Pf RX9 71 8 20 (.array .int) := ⟨RX9, TX9, 73, tyX9, rfl, by decide, uw_t (tb4 (i := 39) rfl) rfl, hin_X9, tyX9_ok, nmX9, rfl, rfl, by decide +kernel⟩
theorem pf_X9_74 : Pf RX9 74 8 21 (.array .int) := ⟨RX9, TX9, 73, tyX9, rfl, by decide, uw_t (tb4 (i := 40) rfl) rfl, hin_X9, tyX9_ok, nmX9, rfl, rfl, by decide +kernel⟩
theorem pf_X9_77 : Pf RX9 77 8 22 (.array .int) := ⟨RX9, TX9, 73, tyX9, rfl, by decide, uw_t (tb4 (i := 41) rfl) rfl, hin_X9, tyX9_ok, nmX9, rfl, rfl, by decide +kernel⟩
theorem pf_X9_89 : Pf RX9 89 8 26 (.array .int) := ⟨RX9, TX9, 73, tyX9, rfl, by decide, uw_t (tb4 (i := 45) rfl) rfl, hin_X9, tyX9_ok, nmX9, rfl, rfl, by decide +kernel⟩
theorem pf_X9_92 : Pf RX9 92 8 27 (.array .boolean) := ⟨RX9, TX9, 73, tyX9, rfl, by decide, uw_t (tb4 (i := 46) rfl) rfl, hin_X9, tyX9_ok, nmX9, rfl, rfl, by decide +kernel⟩
theorem pf_X9_96 : Pf RX9 96 8 28 (.array .int) := ⟨RX9, TX9, 73, tyX9, rfl, by decide, uw_t (tb4 (i := 47) rfl) rfl, hin_X9, tyX9_ok, nmX9, rfl, rfl, by decide +kernel⟩
theorem pf_X9_105 : Pf RX9 105 8 31 (.array .int) := ⟨RX9, TX9, 73, tyX9, rfl, by decide, uw_t (tb4 (i := 50) rfl) rfl, hin_X9, tyX9_ok, nmX9, rfl, rfl, by decide +kernel⟩
theorem pf_X9_108 : Pf RX9 108 8 32 (.array .int) := ⟨RX9, TX9, 73, tyX9, rfl, by decide, uw_t (tb4 (i := 51) rfl) rfl, hin_X9, tyX9_ok, nmX9, rfl, rfl, by decide +kernel⟩
theorem pf_X9_111 : Pf RX9 111 8 33 (.array .int) := ⟨RX9, TX9, 73, tyX9, rfl, by decide, uw_t (tb4 (i := 52) rfl) rfl, hin_X9, tyX9_ok, nmX9, rfl, rfl, by decide +kernel⟩
theorem pf_X9_114 : Pf RX9 114 8 34 (.array .int) := ⟨RX9, TX9, 73, tyX9, rfl, by decide, uw_t (tb4 (i := 53) rfl) rfl, hin_X9, tyX9_ok, nmX9, rfl, rfl, by decide +kernel⟩
theorem pf_X9_120 : Pf RX9 120 8 36 (.array .int) := ⟨RX9, TX9, 73, tyX9, rfl, by decide, uw_t (tb4 (i := 55) rfl) rfl, hin_X9, tyX9_ok, nmX9, rfl, rfl, by decide +kernel⟩
theorem pf_X9_123 : Pf RX9 123 8 37 (.array .int) := ⟨RX9, TX9, 73, tyX9, rfl, by decide, uw_t (tb4 (i := 56) rfl) rfl, hin_X9, tyX9_ok, nmX9, rfl, rfl, by decide +kernel⟩
theorem pf_X9_126 : Pf RX9 126 8 38 (.array .int) := ⟨RX9, TX9, 73, tyX9, rfl, by decide, uw_t (tb4 (i := 57) rfl) rfl, hin_X9, tyX9_ok, nmX9, rfl, rfl, by decide +kernel⟩
theorem pf_X9_135 : Pf RX9 135 8 41 (.array .int) := ⟨RX9, TX9, 73, tyX9, rfl, by decide, uw_t (tb4 (i := 60) rfl) rfl, hin_X9, tyX9_ok, nmX9, rfl, rfl, by decide +kernel⟩
theorem pf_X9_138 : Pf RX9 138 8 42 (.array .int) := ⟨RX9, TX9, 73, tyX9, rfl, by decide, uw_t (tb4 (i := 61) rfl) rfl, hin_X9, tyX9_ok, nmX9, rfl, rfl, by decide +kernel⟩
theorem pf_X9_141 : Pf RX9 141 8 43 (.array .int) := ⟨RX9, TX9, 73, tyX9, rfl, by decide, uw_t (tb4 (i := 62) rfl) rfl, hin_X9, tyX9_ok, nmX9, rfl, rfl, by decide +kernel⟩
theorem pf_X9_144 : Pf RX9 144 8 44 (.array .int) := ⟨RX9, TX9, 73, tyX9, rfl, by decide, uw_t (tb4 (i := 63) rfl) rfl, hin_X9, tyX9_ok, nmX9, rfl, rfl, by decide +kernel⟩
theorem pf_X9_169 : Pf RX9 169 8 52 (.array .int) := ⟨RX9, TX9, 73, tyX9, rfl, by decide, uw_t (tb4 (i := 71) rfl) rfl, hin_X9, tyX9_ok, nmX9, rfl, rfl, by decide +kernel⟩
theorem pf_X9_172 : Pf RX9 172 8 53 (.array .int) := ⟨RX9, TX9, 73, tyX9, rfl, by decide, uw_t (tb4 (i := 72) rfl) rfl, hin_X9, tyX9_ok, nmX9, rfl, rfl, by decide +kernel⟩
theorem pf_X9_175 : Pf RX9 175 8 54 (.array .int) := ⟨RX9, TX9, 73, tyX9, rfl, by decide, uw_t (tb4 (i := 73) rfl) rfl, hin_X9, tyX9_ok, nmX9, rfl, rfl, by decide +kernel⟩
theorem pf_X9_178 : Pf RX9 178 8 55 (.array .int) := ⟨RX9, TX9, 73, tyX9, rfl, by decide, uw_t (tb4 (i := 74) rfl) rfl, hin_X9, tyX9_ok, nmX9, rfl, rfl, by decide +kernel⟩
theorem pf_X9_181 : Pf RX9 181 8 56 (.array .int) := ⟨RX9, TX9, 73, tyX9, rfl, by decide, uw_t (tb4 (i := 75) rfl) rfl, hin_X9, tyX9_ok, nmX9, rfl, rfl, by decide +kernel⟩
theorem pf_X9_184 : Pf RX9 184 8 57 (.array .int) := ⟨RX9, TX9, 73, tyX9, rfl, by decide, uw_t (tb4 (i := 76) rfl) rfl, hin_X9, tyX9_ok, nmX9, rfl, rfl, by decide +kernel⟩
theorem pf_X9_187 : Pf RX9 187 8 58 (.array .int) := ⟨RX9, TX9, 73, tyX9, rfl, by decide, uw_t (tb4 (i := 77) rfl) rfl, hin_X9, tyX9_ok, nmX9, rfl, rfl, by decide +kernel⟩
theorem pf_X9_190 : Pf RX9 190 8 59 (.array .int) := ⟨RX9, TX9, 73, tyX9, rfl, by decide, uw_t (tb4 (i := 78) rfl) rfl, hin_X9, tyX9_ok, nmX9, rfl, rfl, by decide +kernel⟩
theorem pf_X9_193 : Pf RX9 193 8 60 (.array .int) := ⟨RX9, TX9, 73, tyX9, rfl, by decide, uw_t (tb4 (i := 79) rfl) rfl, hin_X9, tyX9_ok, nmX9, rfl, rfl, by decide +kernel⟩
theorem pf_X9_196 : Pf RX9 196 8 61 (.array .int) := ⟨RX9, TX9, 73, tyX9, rfl, by decide, uw_t (tb4 (i := 80) rfl) rfl, hin_X9, tyX9_ok, nmX9, rfl, rfl, by decide +kernel⟩
theorem pf_X9_199 : Pf RX9 199 8 62 (.array .int) := ⟨RX9, TX9, 73, tyX9, rfl, by decide, uw_t (tb4 (i := 81) rfl) rfl, hin_X9, tyX9_ok, nmX9, rfl, rfl, by decide +kernel⟩
theorem pf_X9_202 : Pf RX9 202 8 63 (.array .int) := ⟨RX9, TX9, 73, tyX9, rfl, by decide, uw_t (tb4 (i := 82) rfl) rfl, hin_X9, tyX9_ok, nmX9, rfl, rfl, by decide +kernel⟩
theorem pf_X9_205 : Pf RX9 205 8 64 (.array .int) := ⟨RX9, TX9, 73, tyX9, rfl, by decide, uw_t (tb4 (i := 83) rfl) rfl, hin_X9, tyX9_ok, nmX9, rfl, rfl, by decide +kernel⟩
theorem pf_X9_208 : Pf RX9 208 8 65 (.array .int) := ⟨RX9, TX9, 73, tyX9, rfl, by decide, uw_t (tb4 (i := 84) rfl) rfl, hin_X9, tyX9_ok, nmX9, rfl, rfl, by decide +kernel⟩
theorem pf_X9_211 : Pf RX9 211 8 66 (.array .int) := ⟨RX9, TX9, 73, tyX9, rfl, by decide, uw_t (tb4 (i := 85) rfl) rfl, hin_X9, tyX9_ok, nmX9, rfl, rfl, by decide +kernel⟩
theorem pf_X9_217 : Pf RX9 217 8 68 (.array .int) := ⟨RX9, TX9, 73, tyX9, rfl, by decide, uw_t (tb4 (i := 87) rfl) rfl, hin_X9, tyX9_ok, nmX9, rfl, rfl, by decide +kernel⟩
theorem pf_X9_220 : Pf RX9 220 8 69 (.array .int) := ⟨RX9, TX9, 73, tyX9, rfl, by decide, uw_t (tb4 (i := 88) rfl) rfl, hin_X9, tyX9_ok, nmX9, rfl, rfl, by decide +kernel⟩
theorem pf_X9_223 : Pf RX9 223 8 70 (.array .int) := ⟨RX9, TX9, 73, tyX9, rfl, by decide, uw_t (tb4 (i := 89) rfl) rfl, hin_X9, tyX9_ok, nmX9, rfl, rfl, by decide +kernel⟩
theorem pf_X9_226 : Pf RX9 226 8 71 (.array .long) := ⟨RX9, TX9, 73, tyX9, rfl, by decide, uw_t (tb4 (i := 90) rfl) rfl, hin_X9, tyX9_ok, nmX9, rfl, rfl, by decide +kernel⟩
theorem pf_X9_230 : Pf RX9 230 8 72 (.array .long) := ⟨RX9, TX9, 73, tyX9, rfl, by decide, uw_t (tb4 (i := 91) rfl) rfl, hin_X9, tyX9_ok, nmX9, rfl, rfl, by decide +kernel⟩
theorem ac_int : Cond.arrayClass (newarray.typeOf .int) ∈ UW := uw_t (tb1 (i := 49) rfl) rfl
theorem ac_long : Cond.arrayClass (newarray.typeOf .long) ∈ UW := uw_t (tb1 (i := 209) rfl) rfl
theorem ac_boolean : Cond.arrayClass (newarray.typeOf .boolean) ∈ UW := uw_t (tb4 (i := 239) rfl) rfl
def Zi : Nat → Int32 := fun _ => 0
def Zl : Nat → Int64 := fun _ => 0
def Zr : Nat → Option Nat := fun _ => none
def rput (R : TR) (o j t : Nat) : TR := va_up R o (va_up (R o) j (some t))
section
variable {g : Gl} {F : Fx} {cc : ByteArray} {own : String} {nL d pc : Nat} {lv : List (Nat × Value)} {st : List Value} {I : Ty} {L : TL} {R : TR} {N : TN} {n kr sr : Nat}
theorem w_newo {index ci M : Nat} (ha : Nk own index ci M) (hd : decode cc pc = .ok (.new index, 3)) (hk : kd n = ci) (hc : ci < 9) (n2 kr2 sr2 : Nat) (e1 : n + 1 = n2) (e2 : kr = kr2 + 1) (e3 : sr = sr2 + M) (kk : V g F cc own nL d (pc + 3) lv (.ref (g.1 + n) :: st) (va_up I n Zi) L (va_up R n Zr) N n2 kr2 sr2) : V g F cc own nL d pc lv st I L R N n kr sr := by
  subst e1; subst e2; subst e3
  exact v_newo ha hd hk hc (up_at _ _ _) (up_at _ _ _) (fun k hk => ⟨up_off _ _ (by omega), rfl, up_off _ _ (by omega), rfl⟩) (Nat.le_add_left _ _) (Nat.le_add_left _ _) (by rw [Nat.add_sub_cancel, Nat.add_sub_cancel]; exact kk)
theorem w_newi {x : Int32} {len : Nat} (hd : decode cc pc = .ok (.newarray .int, 2)) (hk : kd n = 9) (hx : x = nI len) (hlen : len < 2 ^ 26) (n2 kr2 sr2 : Nat) (e1 : n + 1 = n2) (e2 : kr = kr2 + 1) (e3 : sr = sr2 + len) (kk : V g F cc own nL d (pc + 2) lv (.ref (g.1 + n) :: st) (va_up I n Zi) L R (va_up N n len) n2 kr2 sr2) : V g F cc own nL d pc lv (.int x :: st) I L R N n kr sr := by
  subst e1; subst e2; subst e3
  exact v_newi ac_int hd hk hx hlen (up_at _ _ _) (up_at _ _ _) (fun k hk => ⟨up_off _ _ (by omega), rfl, rfl, up_off _ _ (by omega)⟩) (Nat.le_add_left _ _) (Nat.le_add_left _ _) (by rw [Nat.add_sub_cancel, Nat.add_sub_cancel]; exact kk)
theorem w_newz {x : Int32} {len : Nat} (hd : decode cc pc = .ok (.newarray .boolean, 2)) (hk : kd n = 11) (hx : x = nI len) (hlen : len < 2 ^ 26) (n2 kr2 sr2 : Nat) (e1 : n + 1 = n2) (e2 : kr = kr2 + 1) (e3 : sr = sr2 + len) (kk : V g F cc own nL d (pc + 2) lv (.ref (g.1 + n) :: st) (va_up I n Zi) L R (va_up N n len) n2 kr2 sr2) : V g F cc own nL d pc lv (.int x :: st) I L R N n kr sr := by
  subst e1; subst e2; subst e3
  exact v_newz ac_boolean hd hk hx hlen (up_at _ _ _) (up_at _ _ _) (fun k hk => ⟨up_off _ _ (by omega), rfl, rfl, up_off _ _ (by omega)⟩) (Nat.le_add_left _ _) (Nat.le_add_left _ _) (by rw [Nat.add_sub_cancel, Nat.add_sub_cancel]; exact kk)
theorem w_newl {x : Int32} {len : Nat} (hd : decode cc pc = .ok (.newarray .long, 2)) (hk : kd n = 10) (hx : x = nI len) (hlen : len < 2 ^ 26) (n2 kr2 sr2 : Nat) (e1 : n + 1 = n2) (e2 : kr = kr2 + 1) (e3 : sr = sr2 + len) (kk : V g F cc own nL d (pc + 2) lv (.ref (g.1 + n) :: st) I (va_up L n Zl) R (va_up N n len) n2 kr2 sr2) : V g F cc own nL d pc lv (.int x :: st) I L R N n kr sr := by
  subst e1; subst e2; subst e3
  exact v_newl ac_long hd hk hx hlen (up_at _ _ _) (up_at _ _ _) (fun k hk => ⟨rfl, up_off _ _ (by omega), rfl, up_off _ _ (by omega)⟩) (Nat.le_add_left _ _) (Nat.le_add_left _ _) (by rw [Nat.add_sub_cancel, Nat.add_sub_cancel]; exact kk)
theorem w_newr {index : Nat} {x : Int32} {len : Nat} (hcl : Cond.classLink own index RX6 ∈ UW) (hd : decode cc pc = .ok (.anewarray index, 3)) (hk : kd n = 12) (hx : x = nI len) (hlen : len < 2 ^ 26) (n2 kr2 sr2 : Nat) (e1 : n + 1 = n2) (e2 : kr = kr2 + 1) (e3 : sr = sr2 + len) (kk : V g F cc own nL d (pc + 3) lv (.ref (g.1 + n) :: st) I L (va_up R n Zr) (va_up N n len) n2 kr2 sr2) : V g F cc own nL d pc lv (.int x :: st) I L R N n kr sr := by
  subst e1; subst e2; subst e3
  exact v_newr hcl hd hk hx hlen (up_at _ _ _) (up_at _ _ _) (fun k hk => ⟨rfl, rfl, up_off _ _ (by omega), up_off _ _ (by omega)⟩) (Nat.le_add_left _ _) (Nat.le_add_left _ _) (by rw [Nat.add_sub_cancel, Nat.add_sub_cancel]; exact kk)
theorem v_callIv {index na mL dc mc ms k : Nat} {y : MethodName} {bytes : ByteArray} {As rest : List Value} {I0 : Ty} {L0 : TL} {R0 : TR} {N0 : TN} {n0 : Nat} (hl : LkI own index y bytes mL na) (hM : Ct g y bytes mL none dc mc ms (.ref (g.1 + k) :: As) I L R N n (Ps none I0 L0 R0 N0 n0)) (hd : decode cc pc = .ok (.invokespecial index, 3))
    (hna : As.length = na) (hst : st = As.reverse ++ .ref (g.1 + k) :: rest) (hrest : rest.length ≤ 4) (hdc : dc + 1 ≤ d) (kr2 sr2 : Nat) (hmc : kr = kr2 + mc) (hms : sr = sr2 + ms) (kk : V g F cc own nL d (pc + 3) lv rest I0 L0 R0 N0 n0 kr2 sr2) : V g F cc own nL d pc lv st I L R N n kr sr := by
  subst hmc; subst hms
  exact v_callI hl hM hd hna hst hrest hdc (Nat.le_add_left _ _) (Nat.le_add_left _ _) (fun v I' L' R' N' n' h => by obtain ⟨rfl, rfl, rfl, rfl, rfl, rfl⟩ := h; rw [Nat.add_sub_cancel, Nat.add_sub_cancel]; exact kk)
theorem v_callNv {dc mc ms k : Nat} {rest : List Value} {I0 : Ty} {L0 : TL} {R0 : TR} {N0 : TN} {n0 : Nat} (ho8 : own = RX8) (hM : Ct g yX4_init cX4_init 1 none dc mc ms [.ref (g.1 + k)] I L R N n (Ps none I0 L0 R0 N0 n0)) (hd : decode cc pc = .ok (.invokespecial 23, 3))
    (hst : st = .ref (g.1 + k) :: rest) (hrest : rest.length ≤ 4) (hdc : dc + 1 ≤ d) (kr2 sr2 : Nat) (hmc : kr = kr2 + mc) (hms : sr = sr2 + ms) (kk : V g F cc own nL d (pc + 3) lv rest I0 L0 R0 N0 n0 kr2 sr2) : V g F cc own nL d pc lv st I L R N n kr sr := by
  subst hmc; subst hms
  exact v_callN (uw_t (tb1 (i := 67) rfl) rfl) (uw_t (tb1 (i := 4) rfl) rfl) (uw_t (tb1 (i := 66) rfl) rfl) ho8 hM hd hst hrest hdc (Nat.le_add_left _ _) (Nat.le_add_left _ _) (fun v I' L' R' N' n' h => by obtain ⟨rfl, rfl, rfl, rfl, rfl, rfl⟩ := h; rw [Nat.add_sub_cancel, Nat.add_sub_cancel]; exact kk)
theorem w_putFi {index ci j k : Nat} {x : Int32} (ha : Pf own index ci j .int) (hnm : F.2.2.2.2.2.2.2.2.1.name = "<init>") (hd : decode cc pc = .ok (.putfield index, 3)) (hk : kd k = ci) (hc : ci < 9) (hn : k < n) (hl9 : j < (fld g.1 (I k) (R k) ci).length) (hv : (fld g.1 (I k) (R k) ci).set j (.int x) = fld g.1 (va_up (I k) j x) (R k) ci) (kk : V g F cc own nL d (pc + 3) lv st (wr I k j x) L R N n kr sr) : V g F cc own nL d pc lv (.int x :: .ref (g.1 + k) :: st) I L R N n kr sr := v_putFi ha hnm hd hk hc hn hl9 hv kk
theorem w_putFr {index ci j k t : Nat} {ty : FieldType} (ha : Pf own index ci j ty) (hty : narrow ty (.ref (g.1 + t)) = .ref (g.1 + t) ∧ fits ty (.ref (g.1 + t)) = true) (hnm : F.2.2.2.2.2.2.2.2.1.name = "<init>") (hd : decode cc pc = .ok (.putfield index, 3)) (hk : kd k = ci) (hc : ci < 9) (hn : k < n) (hl9 : j < (fld g.1 (I k) (R k) ci).length) (hv : (fld g.1 (I k) (R k) ci).set j (.ref (g.1 + t)) = fld g.1 (I k) (va_up (R k) j (some t)) ci)
    (kk : V g F cc own nL d (pc + 3) lv st I L (rput R k j t) N n kr sr) : V g F cc own nL d pc lv (.ref (g.1 + t) :: .ref (g.1 + k) :: st) I L R N n kr sr := v_putFr ha hty hnm hd hk hc hn hl9 hv kk
theorem w_puti {index ci j k : Nat} {x : Int32} (ha : Pa own index ci j .int) (hd : decode cc pc = .ok (.putfield index, 3)) (hk : kd k = ci) (hc : ci < 9) (hn : k < n) (hl9 : j < (fld g.1 (I k) (R k) ci).length) (hv : (fld g.1 (I k) (R k) ci).set j (.int x) = fld g.1 (va_up (I k) j x) (R k) ci) (kk : V g F cc own nL d (pc + 3) lv st (wr I k j x) L R N n kr sr) : V g F cc own nL d pc lv (.int x :: .ref (g.1 + k) :: st) I L R N n kr sr := v_puti ha hd hk hc hn hl9 hv kk
theorem w_putr {index ci j k t : Nat} {C0 : String} (ha : Pa own index ci j (.object C0)) (hd : decode cc pc = .ok (.putfield index, 3)) (hk : kd k = ci) (hc : ci < 9) (hn : k < n) (hl9 : j < (fld g.1 (I k) (R k) ci).length) (hv : (fld g.1 (I k) (R k) ci).set j (.ref (g.1 + t)) = fld g.1 (I k) (va_up (R k) j (some t)) ci) (kk : V g F cc own nL d (pc + 3) lv st I L (rput R k j t) N n kr sr) : V g F cc own nL d pc lv (.ref (g.1 + t) :: .ref (g.1 + k) :: st) I L R N n kr sr := v_putr ha hd hk hc hn hl9 hv kk
theorem w_aastore {k j len t : Nat} {x : Int32} (hd : decode cc pc = .ok (.aastore, 1)) (hk : kd k = 12) (hn : k < n) (ht : kd t = 6) (htn : t < n) (hN : N k = len) (hlen : len < 2 ^ 31) (hx : x = nI j) (hj : j < len) (kk : V g F cc own nL d (pc + 1) lv st I L (rput R k j t) N n kr sr) : V g F cc own nL d pc lv (.ref (g.1 + t) :: .int x :: .ref (g.1 + k) :: st) I L R N n kr sr := v_aastore hd hk hn ht htn hN hlen hx hj kk
theorem w_iastore {k j len : Nat} {x : Int32} {x2 : Int32} (hd : decode cc pc = .ok (.iastore, 1)) (hk : kd k = 9) (hn : k < n) (hN : N k = len) (hlen : len < 2 ^ 31) (hx : x = nI j) (hj : j < len) (kk : V g F cc own nL d (pc + 1) lv st (wr I k j x2) L R N n kr sr) : V g F cc own nL d pc lv (.int x2 :: .int x :: .ref (g.1 + k) :: st) I L R N n kr sr := v_iastore hd hk hn hN hlen hx hj kk
end
theorem fit_ref {a : Nat} {t : FieldType} (h : narrow t (.ref a) = .ref a ∧ fits t (.ref a) = true) : narrow t (.ref a) = .ref a ∧ fits t (.ref a) = true := h
