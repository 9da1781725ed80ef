/-! ===== words of the tables ===== -/
theorem wfl_X0_9 : FL RX0 9 0 0 := ⟨by decide, by decide, rfl, Or.inl (h_tblm 203 (by decide +kernel) rfl)⟩
theorem wff_X0_9 : FF RX0 9 0 0 FVr := ⟨by decide, by decide, rfl, rfl, h_tblm 203 (by decide +kernel) rfl, rfl, fun v hv => by obtain ⟨x, rfl⟩ := hv; exact ⟨rfl, rfl⟩⟩
theorem wfl_X0_15 : FL RX0 15 0 1 := ⟨by decide, by decide, rfl, Or.inl (h_tblm 204 (by decide +kernel) rfl)⟩
theorem wff_X0_15 : FF RX0 15 0 1 FVr := ⟨by decide, by decide, rfl, rfl, h_tblm 204 (by decide +kernel) rfl, rfl, fun v hv => by obtain ⟨x, rfl⟩ := hv; exact ⟨rfl, rfl⟩⟩
theorem wfl_X0_18 : FL RX0 18 0 2 := ⟨by decide, by decide, rfl, Or.inl (h_tblm 205 (by decide +kernel) rfl)⟩
theorem wff_X0_18 : FF RX0 18 0 2 FVr := ⟨by decide, by decide, rfl, rfl, h_tblm 205 (by decide +kernel) rfl, rfl, fun v hv => by obtain ⟨x, rfl⟩ := hv; exact ⟨rfl, rfl⟩⟩
theorem wfl_X0_21 : FL RX0 21 0 4 := ⟨by decide, by decide, rfl, Or.inl (h_tblm 207 (by decide +kernel) rfl)⟩
theorem wfp_X0_21 : FP RX0 21 0 4 FVr := ⟨wfl_X0_21, rfl, fun v hv => by obtain ⟨x, rfl⟩ := hv; exact ⟨rfl, rfl⟩⟩
theorem wfl_X0_50 : FL RX0 50 2 5 := ⟨by decide, by decide, rfl, Or.inr ⟨"MixedMill", h_nestm 153 (by decide +kernel) rfl⟩⟩
theorem wfl_X0_53 : FL RX0 53 0 3 := ⟨by decide, by decide, rfl, Or.inl (h_tblm 206 (by decide +kernel) rfl)⟩
theorem wfp_X0_53 : FP RX0 53 0 3 FVi := ⟨wfl_X0_53, rfl, fun v hv => by obtain ⟨x, rfl⟩ := hv; exact ⟨rfl, rfl⟩⟩
theorem wfl_X0_71 : FL RX0 71 2 0 := ⟨by decide, by decide, rfl, Or.inr ⟨"MixedMill", h_nestm 137 (by decide +kernel) rfl⟩⟩
theorem wfl_X0_104 : FL RX0 104 2 9 := ⟨by decide, by decide, rfl, Or.inr ⟨"MixedMill", h_nestm 164 (by decide +kernel) rfl⟩⟩
theorem wfl_X0_107 : FL RX0 107 2 10 := ⟨by decide, by decide, rfl, Or.inr ⟨"MixedMill", h_nestm 167 (by decide +kernel) rfl⟩⟩
theorem wfl_X0_125 : FL RX0 125 2 3 := ⟨by decide, by decide, rfl, Or.inr ⟨"MixedMill", h_nestm 147 (by decide +kernel) rfl⟩⟩
theorem wfl_X0_128 : FL RX0 128 2 4 := ⟨by decide, by decide, rfl, Or.inr ⟨"MixedMill", h_nestm 151 (by decide +kernel) rfl⟩⟩
theorem wfl_X1_9 : FL RX1 9 1 0 := ⟨by decide, by decide, rfl, Or.inl (h_tblm 225 (by decide +kernel) rfl)⟩
theorem wff_X1_9 : FF RX1 9 1 0 FVr := ⟨by decide, by decide, rfl, rfl, h_tblm 225 (by decide +kernel) rfl, rfl, fun v hv => by obtain ⟨x, rfl⟩ := hv; exact ⟨rfl, rfl⟩⟩
theorem wfl_X1_15 : FL RX1 15 1 1 := ⟨by decide, by decide, rfl, Or.inl (h_tblm 226 (by decide +kernel) rfl)⟩
theorem wff_X1_15 : FF RX1 15 1 1 FVr := ⟨by decide, by decide, rfl, rfl, h_tblm 226 (by decide +kernel) rfl, rfl, fun v hv => by obtain ⟨x, rfl⟩ := hv; exact ⟨rfl, rfl⟩⟩
theorem wfl_X1_18 : FL RX1 18 1 2 := ⟨by decide, by decide, rfl, Or.inl (h_tblm 227 (by decide +kernel) rfl)⟩
theorem wff_X1_18 : FF RX1 18 1 2 FVr := ⟨by decide, by decide, rfl, rfl, h_tblm 227 (by decide +kernel) rfl, rfl, fun v hv => by obtain ⟨x, rfl⟩ := hv; exact ⟨rfl, rfl⟩⟩
theorem wfl_X1_21 : FL RX1 21 1 3 := ⟨by decide, by decide, rfl, Or.inl (h_tblm 228 (by decide +kernel) rfl)⟩
theorem wff_X1_21 : FF RX1 21 1 3 FVr := ⟨by decide, by decide, rfl, rfl, h_tblm 228 (by decide +kernel) rfl, rfl, fun v hv => by obtain ⟨x, rfl⟩ := hv; exact ⟨rfl, rfl⟩⟩
theorem wfl_X1_24 : FL RX1 24 1 6 := ⟨by decide, by decide, rfl, Or.inl (h_tblm 231 (by decide +kernel) rfl)⟩
theorem wff_X1_24 : FF RX1 24 1 6 FVr := ⟨by decide, by decide, rfl, rfl, h_tblm 231 (by decide +kernel) rfl, rfl, fun v hv => by obtain ⟨x, rfl⟩ := hv; exact ⟨rfl, rfl⟩⟩
theorem wfl_X1_27 : FL RX1 27 1 8 := ⟨by decide, by decide, rfl, Or.inl (h_tblm 233 (by decide +kernel) rfl)⟩
theorem wfp_X1_27 : FP RX1 27 1 8 FVr := ⟨wfl_X1_27, rfl, fun v hv => by obtain ⟨x, rfl⟩ := hv; exact ⟨rfl, rfl⟩⟩
theorem wfl_X1_30 : FL RX1 30 1 9 := ⟨by decide, by decide, rfl, Or.inl (h_tblm 234 (by decide +kernel) rfl)⟩
theorem wfp_X1_30 : FP RX1 30 1 9 FVr := ⟨wfl_X1_30, rfl, fun v hv => by obtain ⟨x, rfl⟩ := hv; exact ⟨rfl, rfl⟩⟩
theorem wfl_X1_33 : FL RX1 33 1 10 := ⟨by decide, by decide, rfl, Or.inl (h_tblm 235 (by decide +kernel) rfl)⟩
theorem wfp_X1_33 : FP RX1 33 1 10 FVr := ⟨wfl_X1_33, rfl, fun v hv => by obtain ⟨x, rfl⟩ := hv; exact ⟨rfl, rfl⟩⟩
theorem wfl_X1_40 : FL RX1 40 1 5 := ⟨by decide, by decide, rfl, Or.inl (h_tblm 230 (by decide +kernel) rfl)⟩
theorem wfp_X1_40 : FP RX1 40 1 5 FVi := ⟨wfl_X1_40, rfl, fun v hv => by obtain ⟨x, rfl⟩ := hv; exact ⟨rfl, rfl⟩⟩
theorem wfl_X1_48 : FL RX1 48 2 0 := ⟨by decide, by decide, rfl, Or.inr ⟨"MixedMill", h_nestm 135 (by decide +kernel) rfl⟩⟩
theorem wfl_X1_53 : FL RX1 53 2 8 := ⟨by decide, by decide, rfl, Or.inr ⟨"MixedMill", h_nestm 161 (by decide +kernel) rfl⟩⟩
theorem wfl_X1_80 : FL RX1 80 1 11 := ⟨by decide, by decide, rfl, Or.inl (h_tblm 236 (by decide +kernel) rfl)⟩
theorem wfp_X1_80 : FP RX1 80 1 11 FVi := ⟨wfl_X1_80, rfl, fun v hv => by obtain ⟨x, rfl⟩ := hv; exact ⟨rfl, rfl⟩⟩
theorem wfl_X1_83 : FL RX1 83 1 12 := ⟨by decide, by decide, rfl, Or.inl (h_tblm 238 (by decide +kernel) rfl)⟩
theorem wfp_X1_83 : FP RX1 83 1 12 FVi := ⟨wfl_X1_83, rfl, fun v hv => by obtain ⟨x, rfl⟩ := hv; exact ⟨rfl, rfl⟩⟩
theorem wfl_X1_92 : FL RX1 92 1 4 := ⟨by decide, by decide, rfl, Or.inl (h_tblm 229 (by decide +kernel) rfl)⟩
theorem wfp_X1_92 : FP RX1 92 1 4 FVi := ⟨wfl_X1_92, rfl, fun v hv => by obtain ⟨x, rfl⟩ := hv; exact ⟨rfl, rfl⟩⟩
theorem wfl_X1_99 : FL RX1 99 2 3 := ⟨by decide, by decide, rfl, Or.inr ⟨"MixedMill", h_nestm 145 (by decide +kernel) rfl⟩⟩
theorem wfl_X1_100 : FL RX1 100 2 4 := ⟨by decide, by decide, rfl, Or.inr ⟨"MixedMill", h_nestm 149 (by decide +kernel) rfl⟩⟩
theorem wfl_X1_101 : FL RX1 101 2 6 := ⟨by decide, by decide, rfl, Or.inr ⟨"MixedMill", h_nestm 156 (by decide +kernel) rfl⟩⟩
theorem wfl_X1_122 : FL RX1 122 1 7 := ⟨by decide, by decide, rfl, Or.inl (h_tblm 232 (by decide +kernel) rfl)⟩
theorem wfp_X1_122 : FP RX1 122 1 7 FVi := ⟨wfl_X1_122, rfl, fun v hv => by obtain ⟨x, rfl⟩ := hv; exact ⟨rfl, rfl⟩⟩
theorem wfl_X2_9 : FL RX2 9 2 3 := ⟨by decide, by decide, rfl, Or.inl (h_tblm 144 (by decide +kernel) rfl)⟩
theorem wff_X2_9 : FF RX2 9 2 3 FVr := ⟨by decide, by decide, rfl, rfl, h_tblm 144 (by decide +kernel) rfl, rfl, fun v hv => by obtain ⟨x, rfl⟩ := hv; exact ⟨rfl, rfl⟩⟩
theorem wfl_X2_15 : FL RX2 15 2 4 := ⟨by decide, by decide, rfl, Or.inl (h_tblm 148 (by decide +kernel) rfl)⟩
theorem wff_X2_15 : FF RX2 15 2 4 FVr := ⟨by decide, by decide, rfl, rfl, h_tblm 148 (by decide +kernel) rfl, rfl, fun v hv => by obtain ⟨x, rfl⟩ := hv; exact ⟨rfl, rfl⟩⟩
theorem wfl_X2_18 : FL RX2 18 2 5 := ⟨by decide, by decide, rfl, Or.inl (h_tblm 152 (by decide +kernel) rfl)⟩
theorem wff_X2_18 : FF RX2 18 2 5 FVr := ⟨by decide, by decide, rfl, rfl, h_tblm 152 (by decide +kernel) rfl, rfl, fun v hv => by obtain ⟨x, rfl⟩ := hv; exact ⟨rfl, rfl⟩⟩
theorem wfl_X2_21 : FL RX2 21 2 6 := ⟨by decide, by decide, rfl, Or.inl (h_tblm 155 (by decide +kernel) rfl)⟩
theorem wff_X2_21 : FF RX2 21 2 6 FVr := ⟨by decide, by decide, rfl, rfl, h_tblm 155 (by decide +kernel) rfl, rfl, fun v hv => by obtain ⟨x, rfl⟩ := hv; exact ⟨rfl, rfl⟩⟩
theorem wfl_X2_24 : FL RX2 24 2 7 := ⟨by decide, by decide, rfl, Or.inl (h_tblm 158 (by decide +kernel) rfl)⟩
theorem wff_X2_24 : FF RX2 24 2 7 FVr := ⟨by decide, by decide, rfl, rfl, h_tblm 158 (by decide +kernel) rfl, rfl, fun v hv => by obtain ⟨x, rfl⟩ := hv; exact ⟨rfl, rfl⟩⟩
theorem wfl_X2_30 : FL RX2 30 2 0 := ⟨by decide, by decide, rfl, Or.inl (h_tblm 134 (by decide +kernel) rfl)⟩
theorem wfp_X2_30 : FP RX2 30 2 0 FVi := ⟨wfl_X2_30, rfl, fun v hv => by obtain ⟨x, rfl⟩ := hv; exact ⟨rfl, rfl⟩⟩
theorem wfl_X2_34 : FL RX2 34 2 1 := ⟨by decide, by decide, rfl, Or.inl (h_tblm 139 (by decide +kernel) rfl)⟩
theorem wfp_X2_34 : FP RX2 34 2 1 FVi := ⟨wfl_X2_34, rfl, fun v hv => by obtain ⟨x, rfl⟩ := hv; exact ⟨rfl, rfl⟩⟩
theorem wfl_X2_37 : FL RX2 37 2 2 := ⟨by decide, by decide, rfl, Or.inl (h_tblm 141 (by decide +kernel) rfl)⟩
theorem wfp_X2_37 : FP RX2 37 2 2 FVi := ⟨wfl_X2_37, rfl, fun v hv => by obtain ⟨x, rfl⟩ := hv; exact ⟨rfl, rfl⟩⟩
theorem wfl_X2_40 : FL RX2 40 2 8 := ⟨by decide, by decide, rfl, Or.inl (h_tblm 160 (by decide +kernel) rfl)⟩
theorem wfp_X2_40 : FP RX2 40 2 8 FVi := ⟨wfl_X2_40, rfl, fun v hv => by obtain ⟨x, rfl⟩ := hv; exact ⟨rfl, rfl⟩⟩
theorem wfl_X2_43 : FL RX2 43 2 9 := ⟨by decide, by decide, rfl, Or.inl (h_tblm 163 (by decide +kernel) rfl)⟩
theorem wfp_X2_43 : FP RX2 43 2 9 FVi := ⟨wfl_X2_43, rfl, fun v hv => by obtain ⟨x, rfl⟩ := hv; exact ⟨rfl, rfl⟩⟩
theorem wfl_X2_46 : FL RX2 46 2 10 := ⟨by decide, by decide, rfl, Or.inl (h_tblm 166 (by decide +kernel) rfl)⟩
theorem wfp_X2_46 : FP RX2 46 2 10 FVi := ⟨wfl_X2_46, rfl, fun v hv => by obtain ⟨x, rfl⟩ := hv; exact ⟨rfl, rfl⟩⟩
theorem wfl_X2_49 : FL RX2 49 2 11 := ⟨by decide, by decide, rfl, Or.inl (h_tblm 169 (by decide +kernel) rfl)⟩
theorem wfp_X2_49 : FP RX2 49 2 11 FVi := ⟨wfl_X2_49, rfl, fun v hv => by obtain ⟨x, rfl⟩ := hv; exact ⟨rfl, rfl⟩⟩
theorem wfl_X3_9 : FL RX3 9 3 0 := ⟨by decide, by decide, rfl, Or.inl (h_tblm 273 (by decide +kernel) rfl)⟩
theorem wff_X3_9 : FF RX3 9 3 0 FVr := ⟨by decide, by decide, rfl, rfl, h_tblm 273 (by decide +kernel) rfl, rfl, fun v hv => by obtain ⟨x, rfl⟩ := hv; exact ⟨rfl, rfl⟩⟩
theorem wfl_X3_15 : FL RX3 15 3 1 := ⟨by decide, by decide, rfl, Or.inl (h_tblm 274 (by decide +kernel) rfl)⟩
theorem wff_X3_15 : FF RX3 15 3 1 FVr := ⟨by decide, by decide, rfl, rfl, h_tblm 274 (by decide +kernel) rfl, rfl, fun v hv => by obtain ⟨x, rfl⟩ := hv; exact ⟨rfl, rfl⟩⟩
theorem wfl_X3_19 : FL RX3 19 3 2 := ⟨by decide, by decide, rfl, Or.inl (h_tblm 275 (by decide +kernel) rfl)⟩
theorem wff_X3_19 : FF RX3 19 3 2 FVr := ⟨by decide, by decide, rfl, rfl, h_tblm 275 (by decide +kernel) rfl, rfl, fun v hv => by obtain ⟨x, rfl⟩ := hv; exact ⟨rfl, rfl⟩⟩
theorem wfl_X3_32 : FL RX3 32 3 3 := ⟨by decide, by decide, rfl, Or.inl (h_tblm 276 (by decide +kernel) rfl)⟩
theorem wfp_X3_32 : FP RX3 32 3 3 FVi := ⟨wfl_X3_32, rfl, fun v hv => by obtain ⟨x, rfl⟩ := hv; exact ⟨rfl, rfl⟩⟩
theorem wfl_X4_11 : FL RX4 11 4 0 := ⟨by decide, by decide, rfl, Or.inl (h_tblm 115 (by decide +kernel) rfl)⟩
theorem wff_X4_11 : FF RX4 11 4 0 FVr := ⟨by decide, by decide, rfl, rfl, h_tblm 115 (by decide +kernel) rfl, rfl, fun v hv => by obtain ⟨x, rfl⟩ := hv; exact ⟨rfl, rfl⟩⟩
theorem wfl_X4_20 : FL RX4 20 4 1 := ⟨by decide, by decide, rfl, Or.inl (h_tblm 116 (by decide +kernel) rfl)⟩
theorem wfp_X4_20 : FP RX4 20 4 1 FVi := ⟨wfl_X4_20, rfl, fun v hv => by obtain ⟨x, rfl⟩ := hv; exact ⟨rfl, rfl⟩⟩
theorem wfl_X4_59 : FL RX4 59 2 2 := ⟨by decide, by decide, rfl, Or.inr ⟨"MixedMill", h_nestm 143 (by decide +kernel) rfl⟩⟩
theorem wfl_X4_73 : FL RX4 73 2 0 := ⟨by decide, by decide, rfl, Or.inr ⟨"MixedMill", h_nestm 136 (by decide +kernel) rfl⟩⟩
theorem wfp_X4_73 : FP RX4 73 2 0 FVi := ⟨wfl_X4_73, rfl, fun v hv => by obtain ⟨x, rfl⟩ := hv; exact ⟨rfl, rfl⟩⟩
theorem wfl_X4_76 : FL RX4 76 2 1 := ⟨by decide, by decide, rfl, Or.inr ⟨"MixedMill", h_nestm 140 (by decide +kernel) rfl⟩⟩
theorem wfp_X4_76 : FP RX4 76 2 1 FVi := ⟨wfl_X4_76, rfl, fun v hv => by obtain ⟨x, rfl⟩ := hv; exact ⟨rfl, rfl⟩⟩
theorem wfl_X5_9 : FL RX5 9 5 1 := ⟨by decide, by decide, rfl, Or.inl (h_tblm 295 (by decide +kernel) rfl)⟩
theorem wff_X5_9 : FF RX5 9 5 1 FVr := ⟨by decide, by decide, rfl, rfl, h_tblm 295 (by decide +kernel) rfl, rfl, fun v hv => by obtain ⟨x, rfl⟩ := hv; exact ⟨rfl, rfl⟩⟩
theorem wfl_X5_15 : FL RX5 15 5 0 := ⟨by decide, by decide, rfl, Or.inl (h_tblm 294 (by decide +kernel) rfl)⟩
theorem wfp_X5_15 : FP RX5 15 5 0 FVi := ⟨wfl_X5_15, rfl, fun v hv => by obtain ⟨x, rfl⟩ := hv; exact ⟨rfl, rfl⟩⟩
theorem wfl_X5_25 : FL RX5 25 5 2 := ⟨by decide, by decide, rfl, Or.inl (h_tblm 296 (by decide +kernel) rfl)⟩
theorem wfp_X5_25 : FP RX5 25 5 2 FVi := ⟨wfl_X5_25, rfl, fun v hv => by obtain ⟨x, rfl⟩ := hv; exact ⟨rfl, rfl⟩⟩
theorem wfl_X5_28 : FL RX5 28 5 3 := ⟨by decide, by decide, rfl, Or.inl (h_tblm 297 (by decide +kernel) rfl)⟩
theorem wfp_X5_28 : FP RX5 28 5 3 FVi := ⟨wfl_X5_28, rfl, fun v hv => by obtain ⟨x, rfl⟩ := hv; exact ⟨rfl, rfl⟩⟩
theorem wfl_X5_31 : FL RX5 31 5 4 := ⟨by decide, by decide, rfl, Or.inl (h_tblm 298 (by decide +kernel) rfl)⟩
theorem wfp_X5_31 : FP RX5 31 5 4 FVi := ⟨wfl_X5_31, rfl, fun v hv => by obtain ⟨x, rfl⟩ := hv; exact ⟨rfl, rfl⟩⟩
theorem wfl_X6_9 : FL RX6 9 6 0 := ⟨by decide, by decide, rfl, Or.inl (h_tblm 315 (by decide +kernel) rfl)⟩
theorem wff_X6_9 : FF RX6 9 6 0 FVr := ⟨by decide, by decide, rfl, rfl, h_tblm 315 (by decide +kernel) rfl, rfl, fun v hv => by obtain ⟨x, rfl⟩ := hv; exact ⟨rfl, rfl⟩⟩
theorem wfl_X6_16 : FL RX6 16 6 2 := ⟨by decide, by decide, rfl, Or.inl (h_tblm 317 (by decide +kernel) rfl)⟩
theorem wff_X6_16 : FF RX6 16 6 2 FVr := ⟨by decide, by decide, rfl, rfl, h_tblm 317 (by decide +kernel) rfl, rfl, fun v hv => by obtain ⟨x, rfl⟩ := hv; exact ⟨rfl, rfl⟩⟩
theorem wfl_X6_23 : FL RX6 23 6 3 := ⟨by decide, by decide, rfl, Or.inl (h_tblm 318 (by decide +kernel) rfl)⟩
theorem wff_X6_23 : FF RX6 23 6 3 FVr := ⟨by decide, by decide, rfl, rfl, h_tblm 318 (by decide +kernel) rfl, rfl, fun v hv => by obtain ⟨x, rfl⟩ := hv; exact ⟨rfl, rfl⟩⟩
theorem wfl_X6_27 : FL RX6 27 6 4 := ⟨by decide, by decide, rfl, Or.inl (h_tblm 319 (by decide +kernel) rfl)⟩
theorem wff_X6_27 : FF RX6 27 6 4 FVr := ⟨by decide, by decide, rfl, rfl, h_tblm 319 (by decide +kernel) rfl, rfl, fun v hv => by obtain ⟨x, rfl⟩ := hv; exact ⟨rfl, rfl⟩⟩
theorem wfl_X6_30 : FL RX6 30 6 5 := ⟨by decide, by decide, rfl, Or.inl (h_tblm 320 (by decide +kernel) rfl)⟩
theorem wff_X6_30 : FF RX6 30 6 5 FVr := ⟨by decide, by decide, rfl, rfl, h_tblm 320 (by decide +kernel) rfl, rfl, fun v hv => by obtain ⟨x, rfl⟩ := hv; exact ⟨rfl, rfl⟩⟩
theorem wfl_X6_34 : FL RX6 34 6 7 := ⟨by decide, by decide, rfl, Or.inl (h_tblm 322 (by decide +kernel) rfl)⟩
theorem wff_X6_34 : FF RX6 34 6 7 FVr := ⟨by decide, by decide, rfl, rfl, h_tblm 322 (by decide +kernel) rfl, rfl, fun v hv => by obtain ⟨x, rfl⟩ := hv; exact ⟨rfl, rfl⟩⟩
theorem wfl_X6_37 : FL RX6 37 6 9 := ⟨by decide, by decide, rfl, Or.inl (h_tblm 324 (by decide +kernel) rfl)⟩
theorem wff_X6_37 : FF RX6 37 6 9 FVr := ⟨by decide, by decide, rfl, rfl, h_tblm 324 (by decide +kernel) rfl, rfl, fun v hv => by obtain ⟨x, rfl⟩ := hv; exact ⟨rfl, rfl⟩⟩
theorem wfl_X6_44 : FL RX6 44 6 11 := ⟨by decide, by decide, rfl, Or.inl (h_tblm 326 (by decide +kernel) rfl)⟩
theorem wff_X6_44 : FF RX6 44 6 11 FVr := ⟨by decide, by decide, rfl, rfl, h_tblm 326 (by decide +kernel) rfl, rfl, fun v hv => by obtain ⟨x, rfl⟩ := hv; exact ⟨rfl, rfl⟩⟩
theorem wfl_X6_51 : FL RX6 51 6 12 := ⟨by decide, by decide, rfl, Or.inl (h_tblm 327 (by decide +kernel) rfl)⟩
theorem wff_X6_51 : FF RX6 51 6 12 FVr := ⟨by decide, by decide, rfl, rfl, h_tblm 327 (by decide +kernel) rfl, rfl, fun v hv => by obtain ⟨x, rfl⟩ := hv; exact ⟨rfl, rfl⟩⟩
theorem wfl_X6_58 : FL RX6 58 6 13 := ⟨by decide, by decide, rfl, Or.inl (h_tblm 328 (by decide +kernel) rfl)⟩
theorem wff_X6_58 : FF RX6 58 6 13 FVr := ⟨by decide, by decide, rfl, rfl, h_tblm 328 (by decide +kernel) rfl, rfl, fun v hv => by obtain ⟨x, rfl⟩ := hv; exact ⟨rfl, rfl⟩⟩
theorem wfl_X6_65 : FL RX6 65 6 14 := ⟨by decide, by decide, rfl, Or.inl (h_tblm 329 (by decide +kernel) rfl)⟩
theorem wff_X6_65 : FF RX6 65 6 14 FVr := ⟨by decide, by decide, rfl, rfl, h_tblm 329 (by decide +kernel) rfl, rfl, fun v hv => by obtain ⟨x, rfl⟩ := hv; exact ⟨rfl, rfl⟩⟩
theorem wfl_X6_73 : FL RX6 73 6 1 := ⟨by decide, by decide, rfl, Or.inl (h_tblm 316 (by decide +kernel) rfl)⟩
theorem wfp_X6_73 : FP RX6 73 6 1 FVi := ⟨wfl_X6_73, rfl, fun v hv => by obtain ⟨x, rfl⟩ := hv; exact ⟨rfl, rfl⟩⟩
theorem wfl_X6_81 : FL RX6 81 2 2 := ⟨by decide, by decide, rfl, Or.inr ⟨"MixedMill", h_nestm 142 (by decide +kernel) rfl⟩⟩
theorem wfl_X6_88 : FL RX6 88 6 10 := ⟨by decide, by decide, rfl, Or.inl (h_tblm 325 (by decide +kernel) rfl)⟩
theorem wfp_X6_88 : FP RX6 88 6 10 FVi := ⟨wfl_X6_88, rfl, fun v hv => by obtain ⟨x, rfl⟩ := hv; exact ⟨rfl, rfl⟩⟩
theorem wfl_X6_91 : FL RX6 91 6 6 := ⟨by decide, by decide, rfl, Or.inl (h_tblm 321 (by decide +kernel) rfl)⟩
theorem wfp_X6_91 : FP RX6 91 6 6 FVi := ⟨wfl_X6_91, rfl, fun v hv => by obtain ⟨x, rfl⟩ := hv; exact ⟨rfl, rfl⟩⟩
theorem wfl_X6_94 : FL RX6 94 6 8 := ⟨by decide, by decide, rfl, Or.inl (h_tblm 323 (by decide +kernel) rfl)⟩
theorem wfp_X6_94 : FP RX6 94 6 8 FVi := ⟨wfl_X6_94, rfl, fun v hv => by obtain ⟨x, rfl⟩ := hv; exact ⟨rfl, rfl⟩⟩
theorem wfl_X6_101 : FL RX6 101 2 3 := ⟨by decide, by decide, rfl, Or.inr ⟨"MixedMill", h_nestm 146 (by decide +kernel) rfl⟩⟩
theorem wfl_X6_104 : FL RX6 104 2 4 := ⟨by decide, by decide, rfl, Or.inr ⟨"MixedMill", h_nestm 150 (by decide +kernel) rfl⟩⟩
theorem wfl_X6_107 : FL RX6 107 2 5 := ⟨by decide, by decide, rfl, Or.inr ⟨"MixedMill", h_nestm 154 (by decide +kernel) rfl⟩⟩
theorem wfl_X6_110 : FL RX6 110 2 6 := ⟨by decide, by decide, rfl, Or.inr ⟨"MixedMill", h_nestm 157 (by decide +kernel) rfl⟩⟩
theorem wfl_X6_113 : FL RX6 113 2 7 := ⟨by decide, by decide, rfl, Or.inr ⟨"MixedMill", h_nestm 159 (by decide +kernel) rfl⟩⟩
theorem wfl_X6_129 : FL RX6 129 2 8 := ⟨by decide, by decide, rfl, Or.inr ⟨"MixedMill", h_nestm 162 (by decide +kernel) rfl⟩⟩
theorem wfl_X6_136 : FL RX6 136 2 11 := ⟨by decide, by decide, rfl, Or.inr ⟨"MixedMill", h_nestm 170 (by decide +kernel) rfl⟩⟩
theorem wfl_X6_156 : FL RX6 156 2 9 := ⟨by decide, by decide, rfl, Or.inr ⟨"MixedMill", h_nestm 165 (by decide +kernel) rfl⟩⟩
theorem wfl_X6_159 : FL RX6 159 2 10 := ⟨by decide, by decide, rfl, Or.inr ⟨"MixedMill", h_nestm 168 (by decide +kernel) rfl⟩⟩
theorem wfl_X6_170 : FL RX6 170 2 0 := ⟨by decide, by decide, rfl, Or.inr ⟨"MixedMill", h_nestm 138 (by decide +kernel) rfl⟩⟩
theorem wfl_X6_216 : FL RX6 216 3 3 := ⟨by decide, by decide, rfl, Or.inr ⟨"MixedMill", h_nestm 277 (by decide +kernel) rfl⟩⟩
theorem wfl_X6_233 : FL RX6 233 1 11 := ⟨by decide, by decide, rfl, Or.inr ⟨"MixedMill", h_nestm 237 (by decide +kernel) rfl⟩⟩
theorem wfl_X6_236 : FL RX6 236 1 12 := ⟨by decide, by decide, rfl, Or.inr ⟨"MixedMill", h_nestm 239 (by decide +kernel) rfl⟩⟩
theorem wfl_X6_248 : FL RX6 248 5 4 := ⟨by decide, by decide, rfl, Or.inr ⟨"MixedMill", h_nestm 299 (by decide +kernel) rfl⟩⟩
theorem wfl_X7_7 : FL RX7 7 7 1 := ⟨by decide, by decide, rfl, Or.inl (h_tblm 802 (by decide +kernel) rfl)⟩
theorem wff_X7_7 : FF RX7 7 7 1 FVr := ⟨by decide, by decide, rfl, rfl, h_tblm 802 (by decide +kernel) rfl, rfl, fun v hv => by obtain ⟨x, rfl⟩ := hv; exact ⟨rfl, rfl⟩⟩
theorem wfl_X7_13 : FL RX7 13 7 3 := ⟨by decide, by decide, rfl, Or.inl (h_tblm 804 (by decide +kernel) rfl)⟩
theorem wff_X7_13 : FF RX7 13 7 3 FVr := ⟨by decide, by decide, rfl, rfl, h_tblm 804 (by decide +kernel) rfl, rfl, fun v hv => by obtain ⟨x, rfl⟩ := hv; exact ⟨rfl, rfl⟩⟩
theorem wfl_X7_17 : FL RX7 17 7 4 := ⟨by decide, by decide, rfl, Or.inl (h_tblm 805 (by decide +kernel) rfl)⟩
theorem wff_X7_17 : FF RX7 17 7 4 FVr := ⟨by decide, by decide, rfl, rfl, h_tblm 805 (by decide +kernel) rfl, rfl, fun v hv => by obtain ⟨x, rfl⟩ := hv; exact ⟨rfl, rfl⟩⟩
theorem wfl_X7_20 : FL RX7 20 7 5 := ⟨by decide, by decide, rfl, Or.inl (h_tblm 806 (by decide +kernel) rfl)⟩
theorem wff_X7_20 : FF RX7 20 7 5 FVr := ⟨by decide, by decide, rfl, rfl, h_tblm 806 (by decide +kernel) rfl, rfl, fun v hv => by obtain ⟨x, rfl⟩ := hv; exact ⟨rfl, rfl⟩⟩
theorem wfl_X7_23 : FL RX7 23 7 6 := ⟨by decide, by decide, rfl, Or.inl (h_tblm 807 (by decide +kernel) rfl)⟩
theorem wff_X7_23 : FF RX7 23 7 6 FVr := ⟨by decide, by decide, rfl, rfl, h_tblm 807 (by decide +kernel) rfl, rfl, fun v hv => by obtain ⟨x, rfl⟩ := hv; exact ⟨rfl, rfl⟩⟩
theorem wfl_X7_26 : FL RX7 26 7 10 := ⟨by decide, by decide, rfl, Or.inl (h_tblm 811 (by decide +kernel) rfl)⟩
theorem wff_X7_26 : FF RX7 26 7 10 FVr := ⟨by decide, by decide, rfl, rfl, h_tblm 811 (by decide +kernel) rfl, rfl, fun v hv => by obtain ⟨x, rfl⟩ := hv; exact ⟨rfl, rfl⟩⟩
theorem wfl_X7_30 : FL RX7 30 7 11 := ⟨by decide, by decide, rfl, Or.inl (h_tblm 812 (by decide +kernel) rfl)⟩
theorem wff_X7_30 : FF RX7 30 7 11 FVr := ⟨by decide, by decide, rfl, rfl, h_tblm 812 (by decide +kernel) rfl, rfl, fun v hv => by obtain ⟨x, rfl⟩ := hv; exact ⟨rfl, rfl⟩⟩
theorem wfl_X7_33 : FL RX7 33 7 12 := ⟨by decide, by decide, rfl, Or.inl (h_tblm 813 (by decide +kernel) rfl)⟩
theorem wff_X7_33 : FF RX7 33 7 12 FVr := ⟨by decide, by decide, rfl, rfl, h_tblm 813 (by decide +kernel) rfl, rfl, fun v hv => by obtain ⟨x, rfl⟩ := hv; exact ⟨rfl, rfl⟩⟩
theorem wfl_X7_36 : FL RX7 36 7 13 := ⟨by decide, by decide, rfl, Or.inl (h_tblm 814 (by decide +kernel) rfl)⟩
theorem wff_X7_36 : FF RX7 36 7 13 FVr := ⟨by decide, by decide, rfl, rfl, h_tblm 814 (by decide +kernel) rfl, rfl, fun v hv => by obtain ⟨x, rfl⟩ := hv; exact ⟨rfl, rfl⟩⟩
theorem wfl_X7_39 : FL RX7 39 7 14 := ⟨by decide, by decide, rfl, Or.inl (h_tblm 815 (by decide +kernel) rfl)⟩
theorem wff_X7_39 : FF RX7 39 7 14 FVr := ⟨by decide, by decide, rfl, rfl, h_tblm 815 (by decide +kernel) rfl, rfl, fun v hv => by obtain ⟨x, rfl⟩ := hv; exact ⟨rfl, rfl⟩⟩
theorem wfl_X7_42 : FL RX7 42 7 16 := ⟨by decide, by decide, rfl, Or.inl (h_tblm 817 (by decide +kernel) rfl)⟩
theorem wff_X7_42 : FF RX7 42 7 16 FVr := ⟨by decide, by decide, rfl, rfl, h_tblm 817 (by decide +kernel) rfl, rfl, fun v hv => by obtain ⟨x, rfl⟩ := hv; exact ⟨rfl, rfl⟩⟩
theorem wfl_X7_45 : FL RX7 45 7 17 := ⟨by decide, by decide, rfl, Or.inl (h_tblm 818 (by decide +kernel) rfl)⟩
theorem wff_X7_45 : FF RX7 45 7 17 FVr := ⟨by decide, by decide, rfl, rfl, h_tblm 818 (by decide +kernel) rfl, rfl, fun v hv => by obtain ⟨x, rfl⟩ := hv; exact ⟨rfl, rfl⟩⟩
theorem wfl_X7_48 : FL RX7 48 7 18 := ⟨by decide, by decide, rfl, Or.inl (h_tblm 819 (by decide +kernel) rfl)⟩
theorem wff_X7_48 : FF RX7 48 7 18 FVr := ⟨by decide, by decide, rfl, rfl, h_tblm 819 (by decide +kernel) rfl, rfl, fun v hv => by obtain ⟨x, rfl⟩ := hv; exact ⟨rfl, rfl⟩⟩
theorem wfl_X7_51 : FL RX7 51 7 19 := ⟨by decide, by decide, rfl, Or.inl (h_tblm 820 (by decide +kernel) rfl)⟩
theorem wff_X7_51 : FF RX7 51 7 19 FVr := ⟨by decide, by decide, rfl, rfl, h_tblm 820 (by decide +kernel) rfl, rfl, fun v hv => by obtain ⟨x, rfl⟩ := hv; exact ⟨rfl, rfl⟩⟩
theorem wfl_X7_54 : FL RX7 54 7 20 := ⟨by decide, by decide, rfl, Or.inl (h_tblm 821 (by decide +kernel) rfl)⟩
theorem wff_X7_54 : FF RX7 54 7 20 FVr := ⟨by decide, by decide, rfl, rfl, h_tblm 821 (by decide +kernel) rfl, rfl, fun v hv => by obtain ⟨x, rfl⟩ := hv; exact ⟨rfl, rfl⟩⟩
theorem wfl_X7_57 : FL RX7 57 7 21 := ⟨by decide, by decide, rfl, Or.inl (h_tblm 822 (by decide +kernel) rfl)⟩
theorem wff_X7_57 : FF RX7 57 7 21 FVr := ⟨by decide, by decide, rfl, rfl, h_tblm 822 (by decide +kernel) rfl, rfl, fun v hv => by obtain ⟨x, rfl⟩ := hv; exact ⟨rfl, rfl⟩⟩
theorem wfl_X7_73 : FL RX7 73 7 0 := ⟨by decide, by decide, rfl, Or.inl (h_tblm 801 (by decide +kernel) rfl)⟩
theorem wfp_X7_73 : FP RX7 73 7 0 FVi := ⟨wfl_X7_73, rfl, fun v hv => by obtain ⟨x, rfl⟩ := hv; exact ⟨rfl, rfl⟩⟩
theorem wfl_X7_77 : FL RX7 77 7 2 := ⟨by decide, by decide, rfl, Or.inl (h_tblm 803 (by decide +kernel) rfl)⟩
theorem wfp_X7_77 : FP RX7 77 7 2 FVi := ⟨wfl_X7_77, rfl, fun v hv => by obtain ⟨x, rfl⟩ := hv; exact ⟨rfl, rfl⟩⟩
theorem wfl_X7_98 : FL RX7 98 7 9 := ⟨by decide, by decide, rfl, Or.inl (h_tblm 810 (by decide +kernel) rfl)⟩
theorem wfp_X7_98 : FP RX7 98 7 9 FVi := ⟨wfl_X7_98, rfl, fun v hv => by obtain ⟨x, rfl⟩ := hv; exact ⟨rfl, rfl⟩⟩
theorem wfl_X7_101 : FL RX7 101 7 8 := ⟨by decide, by decide, rfl, Or.inl (h_tblm 809 (by decide +kernel) rfl)⟩
theorem wfp_X7_101 : FP RX7 101 7 8 FVi := ⟨wfl_X7_101, rfl, fun v hv => by obtain ⟨x, rfl⟩ := hv; exact ⟨rfl, rfl⟩⟩
theorem wfl_X7_104 : FL RX7 104 7 7 := ⟨by decide, by decide, rfl, Or.inl (h_tblm 808 (by decide +kernel) rfl)⟩
theorem wfp_X7_104 : FP RX7 104 7 7 FVi := ⟨wfl_X7_104, rfl, fun v hv => by obtain ⟨x, rfl⟩ := hv; exact ⟨rfl, rfl⟩⟩
theorem wfl_X7_162 : FL RX7 162 7 15 := ⟨by decide, by decide, rfl, Or.inl (h_tblm 816 (by decide +kernel) rfl)⟩
theorem wfp_X7_162 : FP RX7 162 7 15 FVi := ⟨wfl_X7_162, rfl, fun v hv => by obtain ⟨x, rfl⟩ := hv; exact ⟨rfl, rfl⟩⟩
theorem wfl_X7_196 : FL RX7 196 7 22 := ⟨by decide, by decide, rfl, Or.inl (h_tblm 823 (by decide +kernel) rfl)⟩
theorem wfp_X7_196 : FP RX7 196 7 22 FVi := ⟨wfl_X7_196, rfl, fun v hv => by obtain ⟨x, rfl⟩ := hv; exact ⟨rfl, rfl⟩⟩
theorem wfl_X7_199 : FL RX7 199 7 23 := ⟨by decide, by decide, rfl, Or.inl (h_tblm 824 (by decide +kernel) rfl)⟩
theorem wfp_X7_199 : FP RX7 199 7 23 FVi := ⟨wfl_X7_199, rfl, fun v hv => by obtain ⟨x, rfl⟩ := hv; exact ⟨rfl, rfl⟩⟩
theorem wml_L_9 : ML RL 9 yX6_init := Or.inl (h_tblm 103 (by decide +kernel) rfl)
theorem wml_L_12 : ML RL 12 yX7_init := Or.inl (h_tblm 788 (by decide +kernel) rfl)
theorem wml_L_15 : ML RL 15 yX6_write := Or.inl (h_tblm 361 (by decide +kernel) rfl)
theorem wml_L_19 : ML RL 19 yX7_write := Or.inl (h_tblm 875 (by decide +kernel) rfl)
theorem wml_L_20 : ML RL 20 yX6_wipe := Or.inl (h_tblm 365 (by decide +kernel) rfl)
theorem wml_L_24 : ML RL 24 yX7_wipe := Or.inl (h_tblm 883 (by decide +kernel) rfl)
theorem wml_L_25 : ML RL 25 yX6_fault := Or.inl (h_tblm 369 (by decide +kernel) rfl)
theorem wml_L_28 : ML RL 28 yX7_fault := Or.inl (h_tblm 887 (by decide +kernel) rfl)
theorem wml_L_29 : ML RL 29 yX6_lay := Or.inl (h_tblm 420 (by decide +kernel) rfl)
theorem wml_L_32 : ML RL 32 yX7_lay := Or.inl (h_tblm 908 (by decide +kernel) rfl)
theorem wml_L_33 : ML RL 33 yX6_sack := Or.inl (h_tblm 431 (by decide +kernel) rfl)
theorem wml_L_37 : ML RL 37 yX7_sack := Or.inl (h_tblm 913 (by decide +kernel) rfl)
theorem wml_L_38 : ML RL 38 yX6_may := Or.inl (h_tblm 439 (by decide +kernel) rfl)
theorem wml_L_42 : ML RL 42 yX7_may := Or.inl (h_tblm 925 (by decide +kernel) rfl)
theorem wml_L_43 : ML RL 43 yX6_pour := Or.inl (h_tblm 459 (by decide +kernel) rfl)
theorem wml_L_46 : ML RL 46 yX7_pour := Or.inl (h_tblm 941 (by decide +kernel) rfl)
theorem wml_L_47 : ML RL 47 yX6_halve := Or.inl (h_tblm 479 (by decide +kernel) rfl)
theorem wml_L_50 : ML RL 50 yX7_halve := Or.inl (h_tblm 957 (by decide +kernel) rfl)
theorem wml_L_51 : ML RL 51 yX6_sell := Or.inl (h_tblm 488 (by decide +kernel) rfl)
theorem wml_L_54 : ML RL 54 yX7_sell := Or.inl (h_tblm 961 (by decide +kernel) rfl)
theorem wml_L_55 : ML RL 55 yX6_undo := Or.inl (h_tblm 492 (by decide +kernel) rfl)
theorem wml_L_58 : ML RL 58 yX7_undo := Or.inl (h_tblm 965 (by decide +kernel) rfl)
theorem wml_L_59 : ML RL 59 yX6_cost := Or.inl (h_tblm 496 (by decide +kernel) rfl)
