/-! the tables' words that the walks use, by their places: fields (fl_, fp_), calls (ml_), methods (yw_, ys_, yi_) -/
theorem o_gT {i : Nat} {w : Cond} (h : tables_1[i]? = some w) (g : goodWord w = true) : w ∈ o_gW := List.mem_filter.mpr ⟨List.mem_append_right _ (List.mem_append_right _ (List.mem_of_getElem? h)), g⟩
theorem o_gS {i : Nat} {w : Cond} (h : (k2_sels lw_privs)[i]? = some w) (g : goodWord w = true) : w ∈ o_gW := List.mem_filter.mpr ⟨List.mem_append_right _ (List.mem_append_left _ (List.mem_of_getElem? h)), g⟩
theorem o_gM {w : Cond} (h : w ∈ o_more) (g : goodWord w = true) : w ∈ o_gW := List.mem_filter.mpr ⟨List.mem_append_left _ h, g⟩
def o_fl (own : String) (i ci k : Nat) : Prop := ∃ (C : String) (T : u_T) (N : Nat), o_cl[ci]? = some (C, T, N) ∧ k < N ∧ Cond.fieldLink own i (T k).1 (T k).2.1 (T k).2.2.1 ∈ o_gW
def o_fp (own : String) (i ci k : Nat) (ty : FieldType) : Prop := ∃ (C : String) (T : u_T) (N : Nat), o_cl[ci]? = some (C, T, N) ∧ k < N ∧ Cond.fieldLink own i (T k).1 (T k).2.1 (T k).2.2.1 ∈ o_gW ∧ (T k).2.2.2 = false ∧ parseFieldDescriptor (T k).2.2.1 = some ty
theorem fl_X10_32 : o_fl RX10 32 2 0 := ⟨_, _, _, rfl, by decide, o_gT (i := 60) (by decide +kernel) rfl⟩
theorem fp_X10_32 : o_fp RX10 32 2 0 .int := ⟨_, _, _, rfl, by decide, o_gT (i := 60) (by decide +kernel) rfl, rfl, by decide +kernel⟩
theorem fl_X9_21 : o_fl RX9 21 2 0 := ⟨_, _, _, rfl, by decide, o_gT (i := 61) (by decide +kernel) rfl⟩
theorem fp_X9_21 : o_fp RX9 21 2 0 .int := ⟨_, _, _, rfl, by decide, o_gT (i := 61) (by decide +kernel) rfl, rfl, by decide +kernel⟩
theorem fl_X3_42 : o_fl RX3 42 2 0 := ⟨_, _, _, rfl, by decide, o_gT (i := 62) (by decide +kernel) rfl⟩
theorem fp_X3_42 : o_fp RX3 42 2 0 .int := ⟨_, _, _, rfl, by decide, o_gT (i := 62) (by decide +kernel) rfl, rfl, by decide +kernel⟩
theorem fl_X11_145 : o_fl RX11 145 2 0 := ⟨_, _, _, rfl, by decide, o_gT (i := 63) (by decide +kernel) rfl⟩
theorem fp_X11_145 : o_fp RX11 145 2 0 .int := ⟨_, _, _, rfl, by decide, o_gT (i := 63) (by decide +kernel) rfl, rfl, by decide +kernel⟩
theorem fl_X9_9 : o_fl RX9 9 2 1 := ⟨_, _, _, rfl, by decide, o_gT (i := 64) (by decide +kernel) rfl⟩
theorem fl_X11_152 : o_fl RX11 152 2 1 := ⟨_, _, _, rfl, by decide, o_gT (i := 65) (by decide +kernel) rfl⟩
theorem fl_X10_80 : o_fl RX10 80 2 1 := ⟨_, _, _, rfl, by decide, o_gT (i := 66) (by decide +kernel) rfl⟩
theorem fl_X9_15 : o_fl RX9 15 2 2 := ⟨_, _, _, rfl, by decide, o_gT (i := 67) (by decide +kernel) rfl⟩
theorem fl_X11_156 : o_fl RX11 156 2 2 := ⟨_, _, _, rfl, by decide, o_gT (i := 68) (by decide +kernel) rfl⟩
theorem fl_X10_139 : o_fl RX10 139 2 2 := ⟨_, _, _, rfl, by decide, o_gT (i := 69) (by decide +kernel) rfl⟩
theorem fl_X9_18 : o_fl RX9 18 2 3 := ⟨_, _, _, rfl, by decide, o_gT (i := 70) (by decide +kernel) rfl⟩
theorem fl_X11_159 : o_fl RX11 159 2 3 := ⟨_, _, _, rfl, by decide, o_gT (i := 71) (by decide +kernel) rfl⟩
theorem fl_X10_142 : o_fl RX10 142 2 3 := ⟨_, _, _, rfl, by decide, o_gT (i := 72) (by decide +kernel) rfl⟩
theorem fl_X7_28 : o_fl RX7 28 3 0 := ⟨_, _, _, rfl, by decide, o_gT (i := 89) (by decide +kernel) rfl⟩
theorem fp_X7_28 : o_fp RX7 28 3 0 .int := ⟨_, _, _, rfl, by decide, o_gT (i := 89) (by decide +kernel) rfl, rfl, by decide +kernel⟩
theorem fl_X10_36 : o_fl RX10 36 3 0 := ⟨_, _, _, rfl, by decide, o_gT (i := 90) (by decide +kernel) rfl⟩
theorem fp_X10_36 : o_fp RX10 36 3 0 .int := ⟨_, _, _, rfl, by decide, o_gT (i := 90) (by decide +kernel) rfl, rfl, by decide +kernel⟩
theorem fl_X4_37 : o_fl RX4 37 3 0 := ⟨_, _, _, rfl, by decide, o_gT (i := 91) (by decide +kernel) rfl⟩
theorem fp_X4_37 : o_fp RX4 37 3 0 .int := ⟨_, _, _, rfl, by decide, o_gT (i := 91) (by decide +kernel) rfl, rfl, by decide +kernel⟩
theorem fl_X11_168 : o_fl RX11 168 3 0 := ⟨_, _, _, rfl, by decide, o_gT (i := 92) (by decide +kernel) rfl⟩
theorem fp_X11_168 : o_fp RX11 168 3 0 .int := ⟨_, _, _, rfl, by decide, o_gT (i := 92) (by decide +kernel) rfl, rfl, by decide +kernel⟩
theorem fl_X7_9 : o_fl RX7 9 3 1 := ⟨_, _, _, rfl, by decide, o_gT (i := 93) (by decide +kernel) rfl⟩
theorem fl_X4_44 : o_fl RX4 44 3 1 := ⟨_, _, _, rfl, by decide, o_gT (i := 94) (by decide +kernel) rfl⟩
theorem fl_X10_63 : o_fl RX10 63 3 1 := ⟨_, _, _, rfl, by decide, o_gT (i := 95) (by decide +kernel) rfl⟩
theorem fl_X11_172 : o_fl RX11 172 3 1 := ⟨_, _, _, rfl, by decide, o_gT (i := 96) (by decide +kernel) rfl⟩
theorem fl_X7_15 : o_fl RX7 15 3 2 := ⟨_, _, _, rfl, by decide, o_gT (i := 97) (by decide +kernel) rfl⟩
theorem fl_X10_71 : o_fl RX10 71 3 2 := ⟨_, _, _, rfl, by decide, o_gT (i := 98) (by decide +kernel) rfl⟩
theorem fl_X11_179 : o_fl RX11 179 3 2 := ⟨_, _, _, rfl, by decide, o_gT (i := 99) (by decide +kernel) rfl⟩
theorem fl_X7_18 : o_fl RX7 18 3 3 := ⟨_, _, _, rfl, by decide, o_gT (i := 100) (by decide +kernel) rfl⟩
theorem fl_X10_74 : o_fl RX10 74 3 3 := ⟨_, _, _, rfl, by decide, o_gT (i := 101) (by decide +kernel) rfl⟩
theorem fl_X11_182 : o_fl RX11 182 3 3 := ⟨_, _, _, rfl, by decide, o_gT (i := 102) (by decide +kernel) rfl⟩
theorem fl_X7_21 : o_fl RX7 21 3 4 := ⟨_, _, _, rfl, by decide, o_gT (i := 103) (by decide +kernel) rfl⟩
theorem fl_X10_125 : o_fl RX10 125 3 4 := ⟨_, _, _, rfl, by decide, o_gT (i := 104) (by decide +kernel) rfl⟩
theorem fl_X11_185 : o_fl RX11 185 3 4 := ⟨_, _, _, rfl, by decide, o_gT (i := 105) (by decide +kernel) rfl⟩
theorem fl_X7_24 : o_fl RX7 24 3 5 := ⟨_, _, _, rfl, by decide, o_gT (i := 106) (by decide +kernel) rfl⟩
theorem fl_X10_121 : o_fl RX10 121 3 5 := ⟨_, _, _, rfl, by decide, o_gT (i := 107) (by decide +kernel) rfl⟩
theorem fl_X11_188 : o_fl RX11 188 3 5 := ⟨_, _, _, rfl, by decide, o_gT (i := 108) (by decide +kernel) rfl⟩
theorem fl_X8_18 : o_fl RX8 18 4 0 := ⟨_, _, _, rfl, by decide, o_gT (i := 129) (by decide +kernel) rfl⟩
theorem fp_X8_18 : o_fp RX8 18 4 0 .int := ⟨_, _, _, rfl, by decide, o_gT (i := 129) (by decide +kernel) rfl, rfl, by decide +kernel⟩
theorem fl_X10_106 : o_fl RX10 106 4 0 := ⟨_, _, _, rfl, by decide, o_gT (i := 130) (by decide +kernel) rfl⟩
theorem fp_X10_106 : o_fp RX10 106 4 0 .int := ⟨_, _, _, rfl, by decide, o_gT (i := 130) (by decide +kernel) rfl, rfl, by decide +kernel⟩
theorem fl_X11_227 : o_fl RX11 227 4 0 := ⟨_, _, _, rfl, by decide, o_gT (i := 131) (by decide +kernel) rfl⟩
theorem fp_X11_227 : o_fp RX11 227 4 0 .int := ⟨_, _, _, rfl, by decide, o_gT (i := 131) (by decide +kernel) rfl, rfl, by decide +kernel⟩
theorem fl_X8_9 : o_fl RX8 9 4 1 := ⟨_, _, _, rfl, by decide, o_gT (i := 132) (by decide +kernel) rfl⟩
theorem fl_X10_107 : o_fl RX10 107 4 1 := ⟨_, _, _, rfl, by decide, o_gT (i := 133) (by decide +kernel) rfl⟩
theorem fl_X11_231 : o_fl RX11 231 4 1 := ⟨_, _, _, rfl, by decide, o_gT (i := 134) (by decide +kernel) rfl⟩
theorem fl_X8_15 : o_fl RX8 15 4 2 := ⟨_, _, _, rfl, by decide, o_gT (i := 135) (by decide +kernel) rfl⟩
theorem fl_X10_109 : o_fl RX10 109 4 2 := ⟨_, _, _, rfl, by decide, o_gT (i := 136) (by decide +kernel) rfl⟩
theorem fl_X11_233 : o_fl RX11 233 4 2 := ⟨_, _, _, rfl, by decide, o_gT (i := 137) (by decide +kernel) rfl⟩
theorem fl_X10_12 : o_fl RX10 12 1 0 := ⟨_, _, _, rfl, by decide, o_gT (i := 145) (by decide +kernel) rfl⟩
theorem fl_X3_22 : o_fl RX3 22 1 0 := ⟨_, _, _, rfl, by decide, o_gT (i := 146) (by decide +kernel) rfl⟩
theorem fl_X11_80 : o_fl RX11 80 1 0 := ⟨_, _, _, rfl, by decide, o_gT (i := 147) (by decide +kernel) rfl⟩
theorem fl_X10_21 : o_fl RX10 21 1 1 := ⟨_, _, _, rfl, by decide, o_gT (i := 148) (by decide +kernel) rfl⟩
theorem fl_X4_21 : o_fl RX4 21 1 1 := ⟨_, _, _, rfl, by decide, o_gT (i := 149) (by decide +kernel) rfl⟩
theorem fl_X11_94 : o_fl RX11 94 1 1 := ⟨_, _, _, rfl, by decide, o_gT (i := 150) (by decide +kernel) rfl⟩
theorem fl_X3_53 : o_fl RX3 53 1 1 := ⟨_, _, _, rfl, by decide, o_gT (i := 151) (by decide +kernel) rfl⟩
theorem fl_X10_28 : o_fl RX10 28 1 2 := ⟨_, _, _, rfl, by decide, o_gT (i := 152) (by decide +kernel) rfl⟩
theorem fl_X11_121 : o_fl RX11 121 1 2 := ⟨_, _, _, rfl, by decide, o_gT (i := 153) (by decide +kernel) rfl⟩
theorem fl_X4_15 : o_fl RX4 15 1 3 := ⟨_, _, _, rfl, by decide, o_gT (i := 154) (by decide +kernel) rfl⟩
theorem fp_X4_15 : o_fp RX4 15 1 3 .int := ⟨_, _, _, rfl, by decide, o_gT (i := 154) (by decide +kernel) rfl, rfl, by decide +kernel⟩
theorem fl_X3_63 : o_fl RX3 63 1 3 := ⟨_, _, _, rfl, by decide, o_gT (i := 155) (by decide +kernel) rfl⟩
theorem fp_X3_63 : o_fp RX3 63 1 3 .int := ⟨_, _, _, rfl, by decide, o_gT (i := 155) (by decide +kernel) rfl, rfl, by decide +kernel⟩
theorem fl_X10_37 : o_fl RX10 37 1 3 := ⟨_, _, _, rfl, by decide, o_gT (i := 156) (by decide +kernel) rfl⟩
theorem fp_X10_37 : o_fp RX10 37 1 3 .int := ⟨_, _, _, rfl, by decide, o_gT (i := 156) (by decide +kernel) rfl, rfl, by decide +kernel⟩
theorem fl_X11_195 : o_fl RX11 195 1 3 := ⟨_, _, _, rfl, by decide, o_gT (i := 157) (by decide +kernel) rfl⟩
theorem fp_X11_195 : o_fp RX11 195 1 3 .int := ⟨_, _, _, rfl, by decide, o_gT (i := 157) (by decide +kernel) rfl, rfl, by decide +kernel⟩
theorem fl_X4_25 : o_fl RX4 25 1 4 := ⟨_, _, _, rfl, by decide, o_gT (i := 158) (by decide +kernel) rfl⟩
theorem fp_X4_25 : o_fp RX4 25 1 4 .int := ⟨_, _, _, rfl, by decide, o_gT (i := 158) (by decide +kernel) rfl, rfl, by decide +kernel⟩
theorem fl_X11_142 : o_fl RX11 142 1 4 := ⟨_, _, _, rfl, by decide, o_gT (i := 159) (by decide +kernel) rfl⟩
theorem fp_X11_142 : o_fp RX11 142 1 4 .int := ⟨_, _, _, rfl, by decide, o_gT (i := 159) (by decide +kernel) rfl, rfl, by decide +kernel⟩
theorem fl_X10_77 : o_fl RX10 77 1 4 := ⟨_, _, _, rfl, by decide, o_gT (i := 160) (by decide +kernel) rfl⟩
theorem fp_X10_77 : o_fp RX10 77 1 4 .int := ⟨_, _, _, rfl, by decide, o_gT (i := 160) (by decide +kernel) rfl, rfl, by decide +kernel⟩
theorem fl_X10_83 : o_fl RX10 83 1 5 := ⟨_, _, _, rfl, by decide, o_gT (i := 161) (by decide +kernel) rfl⟩
theorem fp_X10_83 : o_fp RX10 83 1 5 .int := ⟨_, _, _, rfl, by decide, o_gT (i := 161) (by decide +kernel) rfl, rfl, by decide +kernel⟩
theorem fl_X11_239 : o_fl RX11 239 1 5 := ⟨_, _, _, rfl, by decide, o_gT (i := 162) (by decide +kernel) rfl⟩
theorem fp_X11_239 : o_fp RX11 239 1 5 .int := ⟨_, _, _, rfl, by decide, o_gT (i := 162) (by decide +kernel) rfl, rfl, by decide +kernel⟩
theorem fl_X10_118 : o_fl RX10 118 1 6 := ⟨_, _, _, rfl, by decide, o_gT (i := 163) (by decide +kernel) rfl⟩
theorem fp_X10_118 : o_fp RX10 118 1 6 .int := ⟨_, _, _, rfl, by decide, o_gT (i := 163) (by decide +kernel) rfl, rfl, by decide +kernel⟩
theorem fl_X11_236 : o_fl RX11 236 1 6 := ⟨_, _, _, rfl, by decide, o_gT (i := 164) (by decide +kernel) rfl⟩
theorem fp_X11_236 : o_fp RX11 236 1 6 .int := ⟨_, _, _, rfl, by decide, o_gT (i := 164) (by decide +kernel) rfl, rfl, by decide +kernel⟩
theorem fl_X5_11 : o_fl RX5 11 5 0 := ⟨_, _, _, rfl, by decide, o_gT (i := 189) (by decide +kernel) rfl⟩
theorem fl_X5_18 : o_fl RX5 18 5 1 := ⟨_, _, _, rfl, by decide, o_gT (i := 190) (by decide +kernel) rfl⟩
theorem fp_X5_18 : o_fp RX5 18 5 1 .int := ⟨_, _, _, rfl, by decide, o_gT (i := 190) (by decide +kernel) rfl, rfl, by decide +kernel⟩
theorem fl_X5_22 : o_fl RX5 22 5 2 := ⟨_, _, _, rfl, by decide, o_gT (i := 191) (by decide +kernel) rfl⟩
theorem fp_X5_22 : o_fp RX5 22 5 2 .int := ⟨_, _, _, rfl, by decide, o_gT (i := 191) (by decide +kernel) rfl, rfl, by decide +kernel⟩
theorem fl_X11_372 : o_fl RX11 372 5 2 := ⟨_, _, _, rfl, by decide, o_gT (i := 192) (by decide +kernel) rfl⟩
theorem fp_X11_372 : o_fp RX11 372 5 2 .int := ⟨_, _, _, rfl, by decide, o_gT (i := 192) (by decide +kernel) rfl, rfl, by decide +kernel⟩
theorem fl_X4_9 : o_fl RX4 9 6 0 := ⟨_, _, _, rfl, by decide, o_gT (i := 206) (by decide +kernel) rfl⟩
theorem fl_X3_9 : o_fl RX3 9 7 0 := ⟨_, _, _, rfl, by decide, o_gT (i := 216) (by decide +kernel) rfl⟩
theorem fl_X3_15 : o_fl RX3 15 7 1 := ⟨_, _, _, rfl, by decide, o_gT (i := 217) (by decide +kernel) rfl⟩
theorem fl_X3_18 : o_fl RX3 18 7 2 := ⟨_, _, _, rfl, by decide, o_gT (i := 218) (by decide +kernel) rfl⟩
theorem fl_X3_38 : o_fl RX3 38 7 3 := ⟨_, _, _, rfl, by decide, o_gT (i := 219) (by decide +kernel) rfl⟩
theorem fp_X3_38 : o_fp RX3 38 7 3 .int := ⟨_, _, _, rfl, by decide, o_gT (i := 219) (by decide +kernel) rfl, rfl, by decide +kernel⟩
theorem fl_X1_15 : o_fl RX1 15 9 0 := ⟨_, _, _, rfl, by decide, o_gT (i := 244) (by decide +kernel) rfl⟩
theorem fp_X1_15 : o_fp RX1 15 9 0 (.object "LampLeaseOffice$Keyword") := ⟨_, _, _, rfl, by decide, o_gT (i := 244) (by decide +kernel) rfl, rfl, by decide +kernel⟩
theorem fl_X2_44 : o_fl RX2 44 9 0 := ⟨_, _, _, rfl, by decide, o_gT (i := 245) (by decide +kernel) rfl⟩
theorem fp_X2_44 : o_fp RX2 44 9 0 (.object "LampLeaseOffice$Keyword") := ⟨_, _, _, rfl, by decide, o_gT (i := 245) (by decide +kernel) rfl, rfl, by decide +kernel⟩
theorem fl_X11_327 : o_fl RX11 327 9 0 := ⟨_, _, _, rfl, by decide, o_gT (i := 246) (by decide +kernel) rfl⟩
theorem fp_X11_327 : o_fp RX11 327 9 0 (.object "LampLeaseOffice$Keyword") := ⟨_, _, _, rfl, by decide, o_gT (i := 246) (by decide +kernel) rfl, rfl, by decide +kernel⟩
theorem fl_X1_20 : o_fl RX1 20 9 1 := ⟨_, _, _, rfl, by decide, o_gT (i := 247) (by decide +kernel) rfl⟩
theorem fl_X2_9 : o_fl RX2 9 8 0 := ⟨_, _, _, rfl, by decide, o_gT (i := 254) (by decide +kernel) rfl⟩
theorem fl_X2_17 : o_fl RX2 17 8 1 := ⟨_, _, _, rfl, by decide, o_gT (i := 255) (by decide +kernel) rfl⟩
theorem fl_X11_305 : o_fl RX11 305 8 1 := ⟨_, _, _, rfl, by decide, o_gT (i := 256) (by decide +kernel) rfl⟩
theorem fl_X2_22 : o_fl RX2 22 8 2 := ⟨_, _, _, rfl, by decide, o_gT (i := 257) (by decide +kernel) rfl⟩
theorem fp_X2_22 : o_fp RX2 22 8 2 .int := ⟨_, _, _, rfl, by decide, o_gT (i := 257) (by decide +kernel) rfl, rfl, by decide +kernel⟩
theorem fl_X11_274 : o_fl RX11 274 8 2 := ⟨_, _, _, rfl, by decide, o_gT (i := 258) (by decide +kernel) rfl⟩
theorem fp_X11_274 : o_fp RX11 274 8 2 .int := ⟨_, _, _, rfl, by decide, o_gT (i := 258) (by decide +kernel) rfl, rfl, by decide +kernel⟩
theorem fl_X2_29 : o_fl RX2 29 8 3 := ⟨_, _, _, rfl, by decide, o_gT (i := 259) (by decide +kernel) rfl⟩
theorem fp_X2_29 : o_fp RX2 29 8 3 .int := ⟨_, _, _, rfl, by decide, o_gT (i := 259) (by decide +kernel) rfl, rfl, by decide +kernel⟩
theorem fl_X11_302 : o_fl RX11 302 8 3 := ⟨_, _, _, rfl, by decide, o_gT (i := 260) (by decide +kernel) rfl⟩
theorem fp_X11_302 : o_fp RX11 302 8 3 .int := ⟨_, _, _, rfl, by decide, o_gT (i := 260) (by decide +kernel) rfl, rfl, by decide +kernel⟩
theorem fl_X2_26 : o_fl RX2 26 8 4 := ⟨_, _, _, rfl, by decide, o_gT (i := 261) (by decide +kernel) rfl⟩
theorem fp_X2_26 : o_fp RX2 26 8 4 .int := ⟨_, _, _, rfl, by decide, o_gT (i := 261) (by decide +kernel) rfl, rfl, by decide +kernel⟩
theorem fl_X11_291 : o_fl RX11 291 8 4 := ⟨_, _, _, rfl, by decide, o_gT (i := 262) (by decide +kernel) rfl⟩
theorem fp_X11_291 : o_fp RX11 291 8 4 .int := ⟨_, _, _, rfl, by decide, o_gT (i := 262) (by decide +kernel) rfl, rfl, by decide +kernel⟩
theorem fl_J5_15 : o_fl RJ5 15 11 0 := ⟨_, _, _, rfl, by decide, o_gT (i := 292) (by decide +kernel) rfl⟩
theorem fp_J5_15 : o_fp RJ5 15 11 0 (.array .byte) := ⟨_, _, _, rfl, by decide, o_gT (i := 292) (by decide +kernel) rfl, rfl, by decide +kernel⟩
theorem fl_J5_22 : o_fl RJ5 22 11 1 := ⟨_, _, _, rfl, by decide, o_gT (i := 293) (by decide +kernel) rfl⟩
theorem fp_J5_22 : o_fp RJ5 22 11 1 .byte := ⟨_, _, _, rfl, by decide, o_gT (i := 293) (by decide +kernel) rfl, rfl, by decide +kernel⟩
theorem fl_J5_73 : o_fl RJ5 73 11 2 := ⟨_, _, _, rfl, by decide, o_gT (i := 294) (by decide +kernel) rfl⟩
theorem fp_J5_73 : o_fp RJ5 73 11 2 .boolean := ⟨_, _, _, rfl, by decide, o_gT (i := 294) (by decide +kernel) rfl, rfl, by decide +kernel⟩
theorem fl_J0_1048 : o_fl RJ0 1048 11 2 := ⟨_, _, _, rfl, by decide, o_gT (i := 295) (by decide +kernel) rfl⟩
theorem fp_J0_1048 : o_fp RJ0 1048 11 2 .boolean := ⟨_, _, _, rfl, by decide, o_gT (i := 295) (by decide +kernel) rfl, rfl, by decide +kernel⟩
theorem fl_J5_79 : o_fl RJ5 79 11 3 := ⟨_, _, _, rfl, by decide, o_gT (i := 296) (by decide +kernel) rfl⟩
theorem fp_J5_79 : o_fp RJ5 79 11 3 .int := ⟨_, _, _, rfl, by decide, o_gT (i := 296) (by decide +kernel) rfl, rfl, by decide +kernel⟩
theorem fl_X11_12 : o_fl RX11 12 0 0 := ⟨_, _, _, rfl, by decide, o_gT (i := 307) (by decide +kernel) rfl⟩
theorem fl_X11_16 : o_fl RX11 16 0 1 := ⟨_, _, _, rfl, by decide, o_gT (i := 308) (by decide +kernel) rfl⟩
theorem fl_X11_19 : o_fl RX11 19 0 2 := ⟨_, _, _, rfl, by decide, o_gT (i := 309) (by decide +kernel) rfl⟩
theorem fl_X11_25 : o_fl RX11 25 0 4 := ⟨_, _, _, rfl, by decide, o_gT (i := 310) (by decide +kernel) rfl⟩
theorem fl_X11_32 : o_fl RX11 32 0 5 := ⟨_, _, _, rfl, by decide, o_gT (i := 311) (by decide +kernel) rfl⟩
theorem fl_X11_39 : o_fl RX11 39 0 6 := ⟨_, _, _, rfl, by decide, o_gT (i := 312) (by decide +kernel) rfl⟩
theorem fl_X11_46 : o_fl RX11 46 0 7 := ⟨_, _, _, rfl, by decide, o_gT (i := 313) (by decide +kernel) rfl⟩
theorem fl_X11_53 : o_fl RX11 53 0 8 := ⟨_, _, _, rfl, by decide, o_gT (i := 314) (by decide +kernel) rfl⟩
theorem fl_X11_57 : o_fl RX11 57 0 9 := ⟨_, _, _, rfl, by decide, o_gT (i := 315) (by decide +kernel) rfl⟩
theorem fp_X11_57 : o_fp RX11 57 0 9 .int := ⟨_, _, _, rfl, by decide, o_gT (i := 315) (by decide +kernel) rfl, rfl, by decide +kernel⟩
theorem fl_X11_61 : o_fl RX11 61 0 10 := ⟨_, _, _, rfl, by decide, o_gT (i := 316) (by decide +kernel) rfl⟩
theorem fp_X11_61 : o_fp RX11 61 0 10 .int := ⟨_, _, _, rfl, by decide, o_gT (i := 316) (by decide +kernel) rfl, rfl, by decide +kernel⟩
theorem fl_X11_64 : o_fl RX11 64 0 11 := ⟨_, _, _, rfl, by decide, o_gT (i := 317) (by decide +kernel) rfl⟩
theorem fp_X11_64 : o_fp RX11 64 0 11 .char := ⟨_, _, _, rfl, by decide, o_gT (i := 317) (by decide +kernel) rfl, rfl, by decide +kernel⟩
theorem fl_J0_9 : o_fl RJ0 9 10 0 := ⟨_, _, _, rfl, by decide, o_gT (i := 1289) (by decide +kernel) rfl⟩
theorem fl_J0_15 : o_fl RJ0 15 10 1 := ⟨_, _, _, rfl, by decide, o_gT (i := 1290) (by decide +kernel) rfl⟩
abbrev mL_drawn : o_M := (RL, cL_drawn, 10, some (.object "LampLeaseOffice"), [], "drawn")
abbrev wL_drawn : Cond := .code yL_drawn cL_drawn 10 (some (.object "LampLeaseOffice"))
theorem ys_L_drawn : o_ys yL_drawn wL_drawn := ⟨o_gT (i := 38) (by decide +kernel) rfl, o_gT (i := 0) (by decide +kernel) rfl, o_gT (i := 39) (by decide +kernel) rfl⟩
abbrev mX11_init : o_M := (RX11, cX11_init, 1, none, [], "<init>")
abbrev wX11_init : Cond := .code yX11_init cX11_init 1 (none)
theorem yi_X11_init : o_yi yX11_init wX11_init := ⟨o_gT (i := 43) (by decide +kernel) rfl, o_gT (i := 1) (by decide +kernel) rfl, o_gT (i := 44) (by decide +kernel) rfl⟩
abbrev mX10_init : o_M := (RX10, cX10_init, 1, none, [], "<init>")
abbrev wX10_init : Cond := .code yX10_init cX10_init 1 (none)
theorem yi_X10_init : o_yi yX10_init wX10_init := ⟨o_gT (i := 51) (by decide +kernel) rfl, o_gT (i := 2) (by decide +kernel) rfl, o_gT (i := 52) (by decide +kernel) rfl⟩
abbrev mX9_init : o_M := (RX9, cX9_init, 1, none, [], "<init>")
abbrev wX9_init : Cond := .code yX9_init cX9_init 1 (none)
theorem yi_X9_init : o_yi yX9_init wX9_init := ⟨o_gT (i := 57) (by decide +kernel) rfl, o_gT (i := 3) (by decide +kernel) rfl, o_gT (i := 58) (by decide +kernel) rfl⟩
abbrev mX7_init : o_M := (RX7, cX7_init, 1, none, [], "<init>")
abbrev wX7_init : Cond := .code yX7_init cX7_init 1 (none)
theorem yi_X7_init : o_yi yX7_init wX7_init := ⟨o_gT (i := 86) (by decide +kernel) rfl, o_gT (i := 4) (by decide +kernel) rfl, o_gT (i := 87) (by decide +kernel) rfl⟩
abbrev mX8_init : o_M := (RX8, cX8_init, 1, none, [], "<init>")
abbrev wX8_init : Cond := .code yX8_init cX8_init 1 (none)
theorem yi_X8_init : o_yi yX8_init wX8_init := ⟨o_gT (i := 126) (by decide +kernel) rfl, o_gT (i := 5) (by decide +kernel) rfl, o_gT (i := 127) (by decide +kernel) rfl⟩
abbrev mX5_init : o_M := (RX5, cX5_init, 2, none, [], "<init>")
abbrev wX5_init : Cond := .code yX5_init cX5_init 2 (none)
theorem yi_X5_init : o_yi yX5_init wX5_init := ⟨o_gT (i := 183) (by decide +kernel) rfl, o_gT (i := 6) (by decide +kernel) rfl, o_gT (i := 184) (by decide +kernel) rfl⟩
abbrev mX4_init : o_M := (RX4, cX4_init, 1, none, [], "<init>")
abbrev wX4_init : Cond := .code yX4_init cX4_init 1 (none)
theorem yi_X4_init : o_yi yX4_init wX4_init := ⟨o_gT (i := 203) (by decide +kernel) rfl, o_gT (i := 7) (by decide +kernel) rfl, o_gT (i := 204) (by decide +kernel) rfl⟩
abbrev mX3_init : o_M := (RX3, cX3_init, 1, none, [], "<init>")
abbrev wX3_init : Cond := .code yX3_init cX3_init 1 (none)
theorem yi_X3_init : o_yi yX3_init wX3_init := ⟨o_gT (i := 213) (by decide +kernel) rfl, o_gT (i := 8) (by decide +kernel) rfl, o_gT (i := 214) (by decide +kernel) rfl⟩
abbrev mX2_init : o_M := (RX2, cX2_init, 2, none, [], "<init>")
abbrev wX2_init : Cond := .code yX2_init cX2_init 2 (none)
theorem yi_X2_init : o_yi yX2_init wX2_init := ⟨o_gT (i := 232) (by decide +kernel) rfl, o_gT (i := 9) (by decide +kernel) rfl, o_gT (i := 233) (by decide +kernel) rfl⟩
abbrev mX1_init : o_M := (RX1, cX1_init, 1, none, [], "<init>")
abbrev wX1_init : Cond := .code yX1_init cX1_init 1 (none)
theorem yi_X1_init : o_yi yX1_init wX1_init := ⟨o_gT (i := 239) (by decide +kernel) rfl, o_gT (i := 10) (by decide +kernel) rfl, o_gT (i := 240) (by decide +kernel) rfl⟩
abbrev mJ4_init_da8c8 : o_M := (RJ4, cJ4_init_da8c8, 1, none, [], "<init>")
abbrev wJ4_init_da8c8 : Cond := .code yJ4_init_da8c8 cJ4_init_da8c8 1 (none)
theorem yi_J4_init_da8c8 : o_yi yJ4_init_da8c8 wJ4_init_da8c8 := ⟨o_gT (i := 277) (by decide +kernel) rfl, o_gT (i := 14) (by decide +kernel) rfl, o_gT (i := 278) (by decide +kernel) rfl⟩
abbrev mJ5_init_d00df : o_M := (RJ5, cJ5_init_d00df, 2, none, [], "<init>")
abbrev wJ5_init_d00df : Cond := .code yJ5_init_d00df cJ5_init_d00df 2 (none)
theorem yi_J5_init_d00df : o_yi yJ5_init_d00df wJ5_init_d00df := ⟨o_gT (i := 280) (by decide +kernel) rfl, o_gT (i := 13) (by decide +kernel) rfl, o_gT (i := 281) (by decide +kernel) rfl⟩
abbrev mJ2_newBytesFor_77867 : o_M := (RJ2, cJ2_newBytesFor_77867, 1, some (.array .byte), [], "newBytesFor")
abbrev wJ2_newBytesFor_77867 : Cond := .code yJ2_newBytesFor_77867 cJ2_newBytesFor_77867 1 (some (.array .byte))
theorem ys_J2_newBytesFor_77867 : o_ys yJ2_newBytesFor_77867 wJ2_newBytesFor_77867 := ⟨o_gT (i := 286) (by decide +kernel) rfl, o_gT (i := 16) (by decide +kernel) rfl, o_gT (i := 287) (by decide +kernel) rfl⟩
abbrev mJ2_newBytesLength_0f7a4 : o_M := (RJ2, cJ2_newBytesLength_0f7a4, 1, some .int, [], "newBytesLength")
abbrev wJ2_newBytesLength_0f7a4 : Cond := .code yJ2_newBytesLength_0f7a4 cJ2_newBytesLength_0f7a4 1 (some .int)
theorem ys_J2_newBytesLength_0f7a4 : o_ys yJ2_newBytesLength_0f7a4 wJ2_newBytesLength_0f7a4 := ⟨o_gT (i := 289) (by decide +kernel) rfl, o_gT (i := 16) (by decide +kernel) rfl, o_gT (i := 290) (by decide +kernel) rfl⟩
abbrev mL_cell : o_M := (RL, cL_cell, 2, some .int, [], "cell")
abbrev wL_cell : Cond := .code yL_cell cL_cell 2 (some .int)
theorem ys_L_cell : o_ys yL_cell wL_cell := ⟨o_gT (i := 344) (by decide +kernel) rfl, o_gT (i := 0) (by decide +kernel) rfl, o_gT (i := 345) (by decide +kernel) rfl⟩
abbrev mL_addShip : o_M := (RL, cL_addShip, 2, some .int, [(0, 4, 5, 14)], "addShip")
abbrev wL_addShip : Cond := .codeWith yL_addShip cL_addShip 2 (some .int) [(0, 4, 5, 14)]
theorem ys_L_addShip : o_ys yL_addShip wL_addShip := ⟨o_gT (i := 348) (by decide +kernel) rfl, o_gT (i := 0) (by decide +kernel) rfl, o_gT (i := 349) (by decide +kernel) rfl⟩
abbrev mX11_addShip : o_M := (RX11, cX11_addShip, 1, some .int, [], "addShip")
abbrev wX11_addShip : Cond := .code yX11_addShip cX11_addShip 1 (some .int)
theorem yw_X11_addShip : o_yw yX11_addShip wX11_addShip := ⟨o_gT (i := 352) (by decide +kernel) rfl, o_gT (i := 353) (by decide +kernel) rfl, o_gT (i := 1) (by decide +kernel) rfl, o_gT (i := 354) (by decide +kernel) rfl⟩
abbrev mX10_faultOfNewShip : o_M := (RX10, cX10_faultOfNewShip, 1, some .char, [], "faultOfNewShip")
abbrev wX10_faultOfNewShip : Cond := .code yX10_faultOfNewShip cX10_faultOfNewShip 1 (some .char)
theorem yw_X10_faultOfNewShip : o_yw yX10_faultOfNewShip wX10_faultOfNewShip := ⟨o_gT (i := 356) (by decide +kernel) rfl, o_gT (i := 357) (by decide +kernel) rfl, o_gT (i := 2) (by decide +kernel) rfl, o_gT (i := 358) (by decide +kernel) rfl⟩
abbrev mX11_throwFor : o_M := (RX11, cX11_throwFor, 1, none, [], "throwFor")
abbrev wX11_throwFor : Cond := .code yX11_throwFor cX11_throwFor 1 (none)
theorem ys_X11_throwFor : o_ys yX11_throwFor wX11_throwFor := ⟨o_gT (i := 360) (by decide +kernel) rfl, o_gT (i := 1) (by decide +kernel) rfl, o_gT (i := 361) (by decide +kernel) rfl⟩
abbrev mX5_push : o_M := (RX5, cX5_push, 2, none, [], "push")
abbrev wX5_push : Cond := .code yX5_push cX5_push 2 (none)
theorem yw_X5_push : o_yw yX5_push wX5_push := ⟨o_gT (i := 499) (by decide +kernel) rfl, o_gT (i := 500) (by decide +kernel) rfl, o_gT (i := 6) (by decide +kernel) rfl, o_gT (i := 501) (by decide +kernel) rfl⟩
abbrev mX10_copyFrom : o_M := (RX10, cX10_copyFrom, 2, none, [], "copyFrom")
abbrev wX10_copyFrom : Cond := .code yX10_copyFrom cX10_copyFrom 2 (none)
theorem yw_X10_copyFrom : o_yw yX10_copyFrom wX10_copyFrom := ⟨o_gT (i := 503) (by decide +kernel) rfl, o_gT (i := 504) (by decide +kernel) rfl, o_gT (i := 2) (by decide +kernel) rfl, o_gT (i := 505) (by decide +kernel) rfl⟩
abbrev mX9_copyFrom : o_M := (RX9, cX9_copyFrom, 3, none, [], "copyFrom")
abbrev wX9_copyFrom : Cond := .code yX9_copyFrom cX9_copyFrom 3 (none)
theorem yw_X9_copyFrom : o_yw yX9_copyFrom wX9_copyFrom := ⟨o_gT (i := 507) (by decide +kernel) rfl, o_gT (i := 508) (by decide +kernel) rfl, o_gT (i := 3) (by decide +kernel) rfl, o_gT (i := 509) (by decide +kernel) rfl⟩
abbrev mX7_copyFrom : o_M := (RX7, cX7_copyFrom, 3, none, [], "copyFrom")
abbrev wX7_copyFrom : Cond := .code yX7_copyFrom cX7_copyFrom 3 (none)
theorem yw_X7_copyFrom : o_yw yX7_copyFrom wX7_copyFrom := ⟨o_gT (i := 511) (by decide +kernel) rfl, o_gT (i := 512) (by decide +kernel) rfl, o_gT (i := 4) (by decide +kernel) rfl, o_gT (i := 513) (by decide +kernel) rfl⟩
abbrev mX8_copyFrom : o_M := (RX8, cX8_copyFrom, 3, none, [], "copyFrom")
abbrev wX8_copyFrom : Cond := .code yX8_copyFrom cX8_copyFrom 3 (none)
theorem yw_X8_copyFrom : o_yw yX8_copyFrom wX8_copyFrom := ⟨o_gT (i := 515) (by decide +kernel) rfl, o_gT (i := 516) (by decide +kernel) rfl, o_gT (i := 5) (by decide +kernel) rfl, o_gT (i := 517) (by decide +kernel) rfl⟩
abbrev mX9_append : o_M := (RX9, cX9_append, 2, some .int, [], "append")
abbrev wX9_append : Cond := .code yX9_append cX9_append 2 (some .int)
theorem yw_X9_append : o_yw yX9_append wX9_append := ⟨o_gT (i := 519) (by decide +kernel) rfl, o_gT (i := 520) (by decide +kernel) rfl, o_gT (i := 3) (by decide +kernel) rfl, o_gT (i := 521) (by decide +kernel) rfl⟩
abbrev mL_addLamp : o_M := (RL, cL_addLamp, 3, some .int, [(0, 5, 6, 20), (0, 5, 9, 14)], "addLamp")
abbrev wL_addLamp : Cond := .codeWith yL_addLamp cL_addLamp 3 (some .int) [(0, 5, 6, 20), (0, 5, 9, 14)]
theorem ys_L_addLamp : o_ys yL_addLamp wL_addLamp := ⟨o_gT (i := 523) (by decide +kernel) rfl, o_gT (i := 0) (by decide +kernel) rfl, o_gT (i := 524) (by decide +kernel) rfl⟩
abbrev mX11_addLamp : o_M := (RX11, cX11_addLamp, 2, some .int, [], "addLamp")
abbrev wX11_addLamp : Cond := .code yX11_addLamp cX11_addLamp 2 (some .int)
theorem yw_X11_addLamp : o_yw yX11_addLamp wX11_addLamp := ⟨o_gT (i := 527) (by decide +kernel) rfl, o_gT (i := 528) (by decide +kernel) rfl, o_gT (i := 1) (by decide +kernel) rfl, o_gT (i := 529) (by decide +kernel) rfl⟩
abbrev mX10_faultOfNewLamp : o_M := (RX10, cX10_faultOfNewLamp, 2, some .char, [], "faultOfNewLamp")
abbrev wX10_faultOfNewLamp : Cond := .code yX10_faultOfNewLamp cX10_faultOfNewLamp 2 (some .char)
theorem yw_X10_faultOfNewLamp : o_yw yX10_faultOfNewLamp wX10_faultOfNewLamp := ⟨o_gT (i := 531) (by decide +kernel) rfl, o_gT (i := 532) (by decide +kernel) rfl, o_gT (i := 2) (by decide +kernel) rfl, o_gT (i := 533) (by decide +kernel) rfl⟩
abbrev mX7_append : o_M := (RX7, cX7_append, 3, some .int, [], "append")
abbrev wX7_append : Cond := .code yX7_append cX7_append 3 (some .int)
theorem yw_X7_append : o_yw yX7_append wX7_append := ⟨o_gT (i := 535) (by decide +kernel) rfl, o_gT (i := 536) (by decide +kernel) rfl, o_gT (i := 4) (by decide +kernel) rfl, o_gT (i := 537) (by decide +kernel) rfl⟩
abbrev mL_addOil : o_M := (RL, cL_addOil, 3, some .int, [(0, 5, 6, 20), (0, 5, 9, 14)], "addOil")
abbrev wL_addOil : Cond := .codeWith yL_addOil cL_addOil 3 (some .int) [(0, 5, 6, 20), (0, 5, 9, 14)]
theorem ys_L_addOil : o_ys yL_addOil wL_addOil := ⟨o_gT (i := 539) (by decide +kernel) rfl, o_gT (i := 0) (by decide +kernel) rfl, o_gT (i := 540) (by decide +kernel) rfl⟩
abbrev mX11_addOil : o_M := (RX11, cX11_addOil, 2, some .int, [], "addOil")
abbrev wX11_addOil : Cond := .code yX11_addOil cX11_addOil 2 (some .int)
theorem yw_X11_addOil : o_yw yX11_addOil wX11_addOil := ⟨o_gT (i := 542) (by decide +kernel) rfl, o_gT (i := 543) (by decide +kernel) rfl, o_gT (i := 1) (by decide +kernel) rfl, o_gT (i := 544) (by decide +kernel) rfl⟩
abbrev mX10_faultOfNewOil : o_M := (RX10, cX10_faultOfNewOil, 2, some .char, [], "faultOfNewOil")
abbrev wX10_faultOfNewOil : Cond := .code yX10_faultOfNewOil cX10_faultOfNewOil 2 (some .char)
theorem yw_X10_faultOfNewOil : o_yw yX10_faultOfNewOil wX10_faultOfNewOil := ⟨o_gT (i := 546) (by decide +kernel) rfl, o_gT (i := 547) (by decide +kernel) rfl, o_gT (i := 2) (by decide +kernel) rfl, o_gT (i := 548) (by decide +kernel) rfl⟩
abbrev mX10_fillUp : o_M := (RX10, cX10_fillUp, 2, some .int, [], "fillUp")
abbrev wX10_fillUp : Cond := .code yX10_fillUp cX10_fillUp 2 (some .int)
theorem yw_X10_fillUp : o_yw yX10_fillUp wX10_fillUp := ⟨o_gT (i := 550) (by decide +kernel) rfl, o_gT (i := 551) (by decide +kernel) rfl, o_gT (i := 2) (by decide +kernel) rfl, o_gT (i := 552) (by decide +kernel) rfl⟩
abbrev mL_lease : o_M := (RL, cL_lease, 5, some .int, [(0, 7, 8, 29), (0, 7, 12, 20), (0, 7, 17, 14), (0, 7, 22, 31)], "lease")
abbrev wL_lease : Cond := .codeWith yL_lease cL_lease 5 (some .int) [(0, 7, 8, 29), (0, 7, 12, 20), (0, 7, 17, 14), (0, 7, 22, 31)]
theorem ys_L_lease : o_ys yL_lease wL_lease := ⟨o_gT (i := 554) (by decide +kernel) rfl, o_gT (i := 0) (by decide +kernel) rfl, o_gT (i := 555) (by decide +kernel) rfl⟩
abbrev mJx00060_init_a7421 : o_M := (RJx00060, cJx00060_init_a7421, 2, none, [], "<init>")
abbrev wJx00060_init_a7421 : Cond := .code yJx00060_init_a7421 cJx00060_init_a7421 2 (none)
theorem yi_Jx00060_init_a7421 : o_yi yJx00060_init_a7421 wJx00060_init_a7421 := ⟨o_gT (i := 558) (by decide +kernel) rfl, o_gT (i := 25) (by decide +kernel) rfl, o_gT (i := 559) (by decide +kernel) rfl⟩
abbrev mX11_lease : o_M := (RX11, cX11_lease, 4, some .int, [], "lease")
abbrev wX11_lease : Cond := .code yX11_lease cX11_lease 4 (some .int)
theorem yw_X11_lease : o_yw yX11_lease wX11_lease := ⟨o_gT (i := 579) (by decide +kernel) rfl, o_gT (i := 580) (by decide +kernel) rfl, o_gT (i := 1) (by decide +kernel) rfl, o_gT (i := 581) (by decide +kernel) rfl⟩
abbrev mX10_faultOfLease : o_M := (RX10, cX10_faultOfLease, 4, some .char, [], "faultOfLease")
abbrev wX10_faultOfLease : Cond := .code yX10_faultOfLease cX10_faultOfLease 4 (some .char)
theorem yw_X10_faultOfLease : o_yw yX10_faultOfLease wX10_faultOfLease := ⟨o_gT (i := 583) (by decide +kernel) rfl, o_gT (i := 584) (by decide +kernel) rfl, o_gT (i := 2) (by decide +kernel) rfl, o_gT (i := 585) (by decide +kernel) rfl⟩
abbrev mX9_exists : o_M := (RX9, cX9_exists, 2, some .boolean, [], "exists")
abbrev wX9_exists : Cond := .code yX9_exists cX9_exists 2 (some .boolean)
theorem yw_X9_exists : o_yw yX9_exists wX9_exists := ⟨o_gT (i := 587) (by decide +kernel) rfl, o_gT (i := 588) (by decide +kernel) rfl, o_gT (i := 3) (by decide +kernel) rfl, o_gT (i := 589) (by decide +kernel) rfl⟩
abbrev mX7_exists : o_M := (RX7, cX7_exists, 2, some .boolean, [], "exists")
abbrev wX7_exists : Cond := .code yX7_exists cX7_exists 2 (some .boolean)
theorem yw_X7_exists : o_yw yX7_exists wX7_exists := ⟨o_gT (i := 591) (by decide +kernel) rfl, o_gT (i := 592) (by decide +kernel) rfl, o_gT (i := 4) (by decide +kernel) rfl, o_gT (i := 593) (by decide +kernel) rfl⟩
abbrev mX10_isNoLeaseTime : o_M := (RX10, cX10_isNoLeaseTime, 1, some .boolean, [], "isNoLeaseTime")
abbrev wX10_isNoLeaseTime : Cond := .code yX10_isNoLeaseTime cX10_isNoLeaseTime 1 (some .boolean)
theorem ys_X10_isNoLeaseTime : o_ys yX10_isNoLeaseTime wX10_isNoLeaseTime := ⟨o_gT (i := 595) (by decide +kernel) rfl, o_gT (i := 2) (by decide +kernel) rfl, o_gT (i := 596) (by decide +kernel) rfl⟩
abbrev mX7_isTaken : o_M := (RX7, cX7_isTaken, 2, some .boolean, [], "isTaken")
abbrev wX7_isTaken : Cond := .code yX7_isTaken cX7_isTaken 2 (some .boolean)
theorem yw_X7_isTaken : o_yw yX7_isTaken wX7_isTaken := ⟨o_gT (i := 598) (by decide +kernel) rfl, o_gT (i := 599) (by decide +kernel) rfl, o_gT (i := 4) (by decide +kernel) rfl, o_gT (i := 600) (by decide +kernel) rfl⟩
abbrev mX10_price : o_M := (RX10, cX10_price, 3, some .int, [], "price")
abbrev wX10_price : Cond := .code yX10_price cX10_price 3 (some .int)
theorem yw_X10_price : o_yw yX10_price wX10_price := ⟨o_gT (i := 603) (by decide +kernel) rfl, o_gS (i := 1) (by decide +kernel) rfl, o_gT (i := 2) (by decide +kernel) rfl, o_gT (i := 604) (by decide +kernel) rfl⟩
abbrev mX9_canPay : o_M := (RX9, cX9_canPay, 3, some .boolean, [], "canPay")
abbrev wX9_canPay : Cond := .code yX9_canPay cX9_canPay 3 (some .boolean)
theorem yw_X9_canPay : o_yw yX9_canPay wX9_canPay := ⟨o_gT (i := 606) (by decide +kernel) rfl, o_gT (i := 607) (by decide +kernel) rfl, o_gT (i := 3) (by decide +kernel) rfl, o_gT (i := 608) (by decide +kernel) rfl⟩
abbrev mX10_leaseOut : o_M := (RX10, cX10_leaseOut, 4, some .int, [], "leaseOut")
abbrev wX10_leaseOut : Cond := .code yX10_leaseOut cX10_leaseOut 4 (some .int)
theorem yw_X10_leaseOut : o_yw yX10_leaseOut wX10_leaseOut := ⟨o_gT (i := 610) (by decide +kernel) rfl, o_gT (i := 611) (by decide +kernel) rfl, o_gT (i := 2) (by decide +kernel) rfl, o_gT (i := 612) (by decide +kernel) rfl⟩
abbrev mX10_payOffice : o_M := (RX10, cX10_payOffice, 3, none, [], "payOffice")
abbrev wX10_payOffice : Cond := .code yX10_payOffice cX10_payOffice 3 (none)
theorem yw_X10_payOffice : o_yw yX10_payOffice wX10_payOffice := ⟨o_gT (i := 615) (by decide +kernel) rfl, o_gS (i := 2) (by decide +kernel) rfl, o_gT (i := 2) (by decide +kernel) rfl, o_gT (i := 616) (by decide +kernel) rfl⟩
abbrev mL_renew : o_M := (RL, cL_renew, 4, some .int, [(0, 6, 7, 29), (0, 6, 10, 20), (0, 6, 14, 37), (0, 6, 18, 14)], "renew")
abbrev wL_renew : Cond := .codeWith yL_renew cL_renew 4 (some .int) [(0, 6, 7, 29), (0, 6, 10, 20), (0, 6, 14, 37), (0, 6, 18, 14)]
theorem ys_L_renew : o_ys yL_renew wL_renew := ⟨o_gT (i := 618) (by decide +kernel) rfl, o_gT (i := 0) (by decide +kernel) rfl, o_gT (i := 619) (by decide +kernel) rfl⟩
abbrev mX11_requestRenewal : o_M := (RX11, cX11_requestRenewal, 3, some .int, [], "requestRenewal")
abbrev wX11_requestRenewal : Cond := .code yX11_requestRenewal cX11_requestRenewal 3 (some .int)
theorem yw_X11_requestRenewal : o_yw yX11_requestRenewal wX11_requestRenewal := ⟨o_gT (i := 622) (by decide +kernel) rfl, o_gT (i := 623) (by decide +kernel) rfl, o_gT (i := 1) (by decide +kernel) rfl, o_gT (i := 624) (by decide +kernel) rfl⟩
abbrev mX10_faultOfRequest : o_M := (RX10, cX10_faultOfRequest, 3, some .char, [], "faultOfRequest")
abbrev wX10_faultOfRequest : Cond := .code yX10_faultOfRequest cX10_faultOfRequest 3 (some .char)
theorem yw_X10_faultOfRequest : o_yw yX10_faultOfRequest wX10_faultOfRequest := ⟨o_gT (i := 626) (by decide +kernel) rfl, o_gT (i := 627) (by decide +kernel) rfl, o_gT (i := 2) (by decide +kernel) rfl, o_gT (i := 628) (by decide +kernel) rfl⟩
abbrev mX8_positionOf : o_M := (RX8, cX8_positionOf, 3, some .int, [], "positionOf")
abbrev wX8_positionOf : Cond := .code yX8_positionOf cX8_positionOf 3 (some .int)
theorem yw_X8_positionOf : o_yw yX8_positionOf wX8_positionOf := ⟨o_gT (i := 630) (by decide +kernel) rfl, o_gT (i := 631) (by decide +kernel) rfl, o_gT (i := 5) (by decide +kernel) rfl, o_gT (i := 632) (by decide +kernel) rfl⟩
abbrev mX8_append : o_M := (RX8, cX8_append, 4, some .int, [], "append")
abbrev wX8_append : Cond := .code yX8_append cX8_append 4 (some .int)
theorem yw_X8_append : o_yw yX8_append wX8_append := ⟨o_gT (i := 634) (by decide +kernel) rfl, o_gT (i := 635) (by decide +kernel) rfl, o_gT (i := 5) (by decide +kernel) rfl, o_gT (i := 636) (by decide +kernel) rfl⟩
abbrev mL_pass : o_M := (RL, cL_pass, 3, some .int, [(0, 5, 6, 20)], "pass")
abbrev wL_pass : Cond := .codeWith yL_pass cL_pass 3 (some .int) [(0, 5, 6, 20)]
theorem ys_L_pass : o_ys yL_pass wL_pass := ⟨o_gT (i := 638) (by decide +kernel) rfl, o_gT (i := 0) (by decide +kernel) rfl, o_gT (i := 639) (by decide +kernel) rfl⟩
abbrev mX11_passHours : o_M := (RX11, cX11_passHours, 2, some .int, [], "passHours")
abbrev wX11_passHours : Cond := .code yX11_passHours cX11_passHours 2 (some .int)
theorem yw_X11_passHours : o_yw yX11_passHours wX11_passHours := ⟨o_gT (i := 641) (by decide +kernel) rfl, o_gT (i := 642) (by decide +kernel) rfl, o_gT (i := 1) (by decide +kernel) rfl, o_gT (i := 643) (by decide +kernel) rfl⟩
abbrev mX10_faultOfWait : o_M := (RX10, cX10_faultOfWait, 2, some .char, [], "faultOfWait")
abbrev wX10_faultOfWait : Cond := .code yX10_faultOfWait cX10_faultOfWait 2 (some .char)
theorem yw_X10_faultOfWait : o_yw yX10_faultOfWait wX10_faultOfWait := ⟨o_gT (i := 645) (by decide +kernel) rfl, o_gT (i := 646) (by decide +kernel) rfl, o_gT (i := 2) (by decide +kernel) rfl, o_gT (i := 647) (by decide +kernel) rfl⟩
abbrev mX10_letPass : o_M := (RX10, cX10_letPass, 4, some .int, [], "letPass")
abbrev wX10_letPass : Cond := .code yX10_letPass cX10_letPass 4 (some .int)
theorem yw_X10_letPass : o_yw yX10_letPass wX10_letPass := ⟨o_gT (i := 649) (by decide +kernel) rfl, o_gT (i := 650) (by decide +kernel) rfl, o_gT (i := 2) (by decide +kernel) rfl, o_gT (i := 651) (by decide +kernel) rfl⟩
abbrev mX10_passOneHour : o_M := (RX10, cX10_passOneHour, 1, some .int, [], "passOneHour")
abbrev wX10_passOneHour : Cond := .code yX10_passOneHour cX10_passOneHour 1 (some .int)
theorem yw_X10_passOneHour : o_yw yX10_passOneHour wX10_passOneHour := ⟨o_gT (i := 654) (by decide +kernel) rfl, o_gS (i := 3) (by decide +kernel) rfl, o_gT (i := 2) (by decide +kernel) rfl, o_gT (i := 655) (by decide +kernel) rfl⟩
abbrev mX10_processRequests : o_M := (RX10, cX10_processRequests, 4, none, [], "processRequests")
abbrev wX10_processRequests : Cond := .code yX10_processRequests cX10_processRequests 4 (none)
theorem yw_X10_processRequests : o_yw yX10_processRequests wX10_processRequests := ⟨o_gT (i := 658) (by decide +kernel) rfl, o_gS (i := 4) (by decide +kernel) rfl, o_gT (i := 2) (by decide +kernel) rfl, o_gT (i := 659) (by decide +kernel) rfl⟩
abbrev mX10_renewOrRefuse : o_M := (RX10, cX10_renewOrRefuse, 5, none, [], "renewOrRefuse")
abbrev wX10_renewOrRefuse : Cond := .code yX10_renewOrRefuse cX10_renewOrRefuse 5 (none)
theorem yw_X10_renewOrRefuse : o_yw yX10_renewOrRefuse wX10_renewOrRefuse := ⟨o_gT (i := 662) (by decide +kernel) rfl, o_gS (i := 5) (by decide +kernel) rfl, o_gT (i := 2) (by decide +kernel) rfl, o_gT (i := 663) (by decide +kernel) rfl⟩
abbrev mX8_clear : o_M := (RX8, cX8_clear, 1, none, [], "clear")
abbrev wX8_clear : Cond := .code yX8_clear cX8_clear 1 (none)
theorem yw_X8_clear : o_yw yX8_clear wX8_clear := ⟨o_gT (i := 665) (by decide +kernel) rfl, o_gT (i := 666) (by decide +kernel) rfl, o_gT (i := 5) (by decide +kernel) rfl, o_gT (i := 667) (by decide +kernel) rfl⟩
abbrev mX10_burn : o_M := (RX10, cX10_burn, 2, none, [], "burn")
abbrev wX10_burn : Cond := .code yX10_burn cX10_burn 2 (none)
theorem yw_X10_burn : o_yw yX10_burn wX10_burn := ⟨o_gT (i := 670) (by decide +kernel) rfl, o_gS (i := 6) (by decide +kernel) rfl, o_gT (i := 2) (by decide +kernel) rfl, o_gT (i := 671) (by decide +kernel) rfl⟩
abbrev mX10_fineDarkShips : o_M := (RX10, cX10_fineDarkShips, 4, none, [], "fineDarkShips")
abbrev wX10_fineDarkShips : Cond := .code yX10_fineDarkShips cX10_fineDarkShips 4 (none)
theorem yw_X10_fineDarkShips : o_yw yX10_fineDarkShips wX10_fineDarkShips := ⟨o_gT (i := 674) (by decide +kernel) rfl, o_gS (i := 7) (by decide +kernel) rfl, o_gT (i := 2) (by decide +kernel) rfl, o_gT (i := 675) (by decide +kernel) rfl⟩
abbrev mX7_countOf : o_M := (RX7, cX7_countOf, 4, some .int, [], "countOf")
abbrev wX7_countOf : Cond := .code yX7_countOf cX7_countOf 4 (some .int)
theorem yw_X7_countOf : o_yw yX7_countOf wX7_countOf := ⟨o_gT (i := 677) (by decide +kernel) rfl, o_gT (i := 678) (by decide +kernel) rfl, o_gT (i := 4) (by decide +kernel) rfl, o_gT (i := 679) (by decide +kernel) rfl⟩
abbrev mX7_isTakenBy : o_M := (RX7, cX7_isTakenBy, 3, some .boolean, [], "isTakenBy")
abbrev wX7_isTakenBy : Cond := .code yX7_isTakenBy cX7_isTakenBy 3 (some .boolean)
theorem yw_X7_isTakenBy : o_yw yX7_isTakenBy wX7_isTakenBy := ⟨o_gT (i := 681) (by decide +kernel) rfl, o_gT (i := 682) (by decide +kernel) rfl, o_gT (i := 4) (by decide +kernel) rfl, o_gT (i := 683) (by decide +kernel) rfl⟩
abbrev mX7_anyBrightOf : o_M := (RX7, cX7_anyBrightOf, 3, some .boolean, [], "anyBrightOf")
abbrev wX7_anyBrightOf : Cond := .code yX7_anyBrightOf cX7_anyBrightOf 3 (some .boolean)
theorem yw_X7_anyBrightOf : o_yw yX7_anyBrightOf wX7_anyBrightOf := ⟨o_gT (i := 685) (by decide +kernel) rfl, o_gT (i := 686) (by decide +kernel) rfl, o_gT (i := 4) (by decide +kernel) rfl, o_gT (i := 687) (by decide +kernel) rfl⟩
abbrev mJ9_min_7cf53 : o_M := (RJ9, cJ9_min_7cf53, 2, some .int, [], "min")
abbrev wJ9_min_7cf53 : Cond := .code yJ9_min_7cf53 cJ9_min_7cf53 2 (some .int)
theorem ys_J9_min_7cf53 : o_ys yJ9_min_7cf53 wJ9_min_7cf53 := ⟨o_gT (i := 689) (by decide +kernel) rfl, o_gT (i := 26) (by decide +kernel) rfl, o_gT (i := 690) (by decide +kernel) rfl⟩
abbrev mX10_endLeases : o_M := (RX10, cX10_endLeases, 3, some .int, [], "endLeases")
abbrev wX10_endLeases : Cond := .code yX10_endLeases cX10_endLeases 3 (some .int)
theorem yw_X10_endLeases : o_yw yX10_endLeases wX10_endLeases := ⟨o_gT (i := 693) (by decide +kernel) rfl, o_gS (i := 8) (by decide +kernel) rfl, o_gT (i := 2) (by decide +kernel) rfl, o_gT (i := 694) (by decide +kernel) rfl⟩
abbrev mX10_takeBack : o_M := (RX10, cX10_takeBack, 3, some .int, [], "takeBack")
abbrev wX10_takeBack : Cond := .code yX10_takeBack cX10_takeBack 3 (some .int)
theorem yw_X10_takeBack : o_yw yX10_takeBack wX10_takeBack := ⟨o_gT (i := 696) (by decide +kernel) rfl, o_gT (i := 697) (by decide +kernel) rfl, o_gT (i := 2) (by decide +kernel) rfl, o_gT (i := 698) (by decide +kernel) rfl⟩
abbrev mX8_removeFor : o_M := (RX8, cX8_removeFor, 4, none, [], "removeFor")
abbrev wX8_removeFor : Cond := .code yX8_removeFor cX8_removeFor 4 (none)
theorem yw_X8_removeFor : o_yw yX8_removeFor wX8_removeFor := ⟨o_gT (i := 700) (by decide +kernel) rfl, o_gT (i := 701) (by decide +kernel) rfl, o_gT (i := 5) (by decide +kernel) rfl, o_gT (i := 702) (by decide +kernel) rfl⟩
abbrev mL_giveUp : o_M := (RL, cL_giveUp, 3, some .int, [(0, 5, 6, 29), (0, 5, 9, 37)], "giveUp")
abbrev wL_giveUp : Cond := .codeWith yL_giveUp cL_giveUp 3 (some .int) [(0, 5, 6, 29), (0, 5, 9, 37)]
theorem ys_L_giveUp : o_ys yL_giveUp wL_giveUp := ⟨o_gT (i := 704) (by decide +kernel) rfl, o_gT (i := 0) (by decide +kernel) rfl, o_gT (i := 705) (by decide +kernel) rfl⟩
abbrev mX11_giveUp : o_M := (RX11, cX11_giveUp, 2, some .int, [], "giveUp")
abbrev wX11_giveUp : Cond := .code yX11_giveUp cX11_giveUp 2 (some .int)
theorem yw_X11_giveUp : o_yw yX11_giveUp wX11_giveUp := ⟨o_gT (i := 707) (by decide +kernel) rfl, o_gT (i := 708) (by decide +kernel) rfl, o_gT (i := 1) (by decide +kernel) rfl, o_gT (i := 709) (by decide +kernel) rfl⟩
abbrev mX10_faultOfUnleased : o_M := (RX10, cX10_faultOfUnleased, 2, some .char, [], "faultOfUnleased")
abbrev wX10_faultOfUnleased : Cond := .code yX10_faultOfUnleased cX10_faultOfUnleased 2 (some .char)
theorem yw_X10_faultOfUnleased : o_yw yX10_faultOfUnleased wX10_faultOfUnleased := ⟨o_gT (i := 711) (by decide +kernel) rfl, o_gT (i := 712) (by decide +kernel) rfl, o_gT (i := 2) (by decide +kernel) rfl, o_gT (i := 713) (by decide +kernel) rfl⟩
abbrev mL_ships : o_M := (RL, cL_ships, 15, some .boolean, [], "ships")
abbrev wL_ships : Cond := .code yL_ships cL_ships 15 (some .boolean)
theorem ys_L_ships : o_ys yL_ships wL_ships := ⟨o_gT (i := 716) (by decide +kernel) rfl, o_gT (i := 0) (by decide +kernel) rfl, o_gT (i := 717) (by decide +kernel) rfl⟩
abbrev mX11_shipCount : o_M := (RX11, cX11_shipCount, 1, some .int, [], "shipCount")
abbrev wX11_shipCount : Cond := .code yX11_shipCount cX11_shipCount 1 (some .int)
theorem yw_X11_shipCount : o_yw yX11_shipCount wX11_shipCount := ⟨o_gT (i := 719) (by decide +kernel) rfl, o_gT (i := 720) (by decide +kernel) rfl, o_gT (i := 1) (by decide +kernel) rfl, o_gT (i := 721) (by decide +kernel) rfl⟩
abbrev mX11_consumption : o_M := (RX11, cX11_consumption, 1, some .int, [], "consumption")
abbrev wX11_consumption : Cond := .code yX11_consumption cX11_consumption 1 (some .int)
theorem yw_X11_consumption : o_yw yX11_consumption wX11_consumption := ⟨o_gT (i := 723) (by decide +kernel) rfl, o_gT (i := 724) (by decide +kernel) rfl, o_gT (i := 1) (by decide +kernel) rfl, o_gT (i := 725) (by decide +kernel) rfl⟩
abbrev mX7_demandOfAll : o_M := (RX7, cX7_demandOfAll, 3, some .int, [], "demandOfAll")
abbrev wX7_demandOfAll : Cond := .code yX7_demandOfAll cX7_demandOfAll 3 (some .int)
theorem yw_X7_demandOfAll : o_yw yX7_demandOfAll wX7_demandOfAll := ⟨o_gT (i := 727) (by decide +kernel) rfl, o_gT (i := 728) (by decide +kernel) rfl, o_gT (i := 4) (by decide +kernel) rfl, o_gT (i := 729) (by decide +kernel) rfl⟩
abbrev mX11_lampCount : o_M := (RX11, cX11_lampCount, 1, some .int, [], "lampCount")
abbrev wX11_lampCount : Cond := .code yX11_lampCount cX11_lampCount 1 (some .int)
theorem yw_X11_lampCount : o_yw yX11_lampCount wX11_lampCount := ⟨o_gT (i := 732) (by decide +kernel) rfl, o_gT (i := 733) (by decide +kernel) rfl, o_gT (i := 1) (by decide +kernel) rfl, o_gT (i := 734) (by decide +kernel) rfl⟩
abbrev mL_lessee : o_M := (RL, cL_lessee, 3, some .int, [(0, 5, 6, 29), (0, 5, 10, 37)], "lessee")
abbrev wL_lessee : Cond := .codeWith yL_lessee cL_lessee 3 (some .int) [(0, 5, 6, 29), (0, 5, 10, 37)]
theorem ys_L_lessee : o_ys yL_lessee wL_lessee := ⟨o_gT (i := 736) (by decide +kernel) rfl, o_gT (i := 0) (by decide +kernel) rfl, o_gT (i := 737) (by decide +kernel) rfl⟩
abbrev mX11_lessee : o_M := (RX11, cX11_lessee, 2, some .int, [], "lessee")
abbrev wX11_lessee : Cond := .code yX11_lessee cX11_lessee 2 (some .int)
theorem yw_X11_lessee : o_yw yX11_lessee wX11_lessee := ⟨o_gT (i := 739) (by decide +kernel) rfl, o_gT (i := 740) (by decide +kernel) rfl, o_gT (i := 1) (by decide +kernel) rfl, o_gT (i := 741) (by decide +kernel) rfl⟩
abbrev mX11_level : o_M := (RX11, cX11_level, 2, some .int, [], "level")
abbrev wX11_level : Cond := .code yX11_level cX11_level 2 (some .int)
theorem yw_X11_level : o_yw yX11_level wX11_level := ⟨o_gT (i := 743) (by decide +kernel) rfl, o_gT (i := 744) (by decide +kernel) rfl, o_gT (i := 1) (by decide +kernel) rfl, o_gT (i := 745) (by decide +kernel) rfl⟩
abbrev mX11_throwUnlessLamp : o_M := (RX11, cX11_throwUnlessLamp, 2, none, [], "throwUnlessLamp")
abbrev wX11_throwUnlessLamp : Cond := .code yX11_throwUnlessLamp cX11_throwUnlessLamp 2 (none)
theorem yw_X11_throwUnlessLamp : o_yw yX11_throwUnlessLamp wX11_throwUnlessLamp := ⟨o_gT (i := 748) (by decide +kernel) rfl, o_gS (i := 9) (by decide +kernel) rfl, o_gT (i := 1) (by decide +kernel) rfl, o_gT (i := 749) (by decide +kernel) rfl⟩
abbrev mL_share : o_M := (RL, cL_share, 3, some .int, [(0, 5, 6, 29)], "share")
abbrev wL_share : Cond := .codeWith yL_share cL_share 3 (some .int) [(0, 5, 6, 29)]
theorem ys_L_share : o_ys yL_share wL_share := ⟨o_gT (i := 753) (by decide +kernel) rfl, o_gT (i := 0) (by decide +kernel) rfl, o_gT (i := 754) (by decide +kernel) rfl⟩
abbrev mX11_share : o_M := (RX11, cX11_share, 2, some .int, [], "share")
abbrev wX11_share : Cond := .code yX11_share cX11_share 2 (some .int)
theorem yw_X11_share : o_yw yX11_share wX11_share := ⟨o_gT (i := 756) (by decide +kernel) rfl, o_gT (i := 757) (by decide +kernel) rfl, o_gT (i := 1) (by decide +kernel) rfl, o_gT (i := 758) (by decide +kernel) rfl⟩
abbrev mX11_throwUnlessShip : o_M := (RX11, cX11_throwUnlessShip, 2, none, [], "throwUnlessShip")
abbrev wX11_throwUnlessShip : Cond := .code yX11_throwUnlessShip cX11_throwUnlessShip 2 (none)
theorem yw_X11_throwUnlessShip : o_yw yX11_throwUnlessShip wX11_throwUnlessShip := ⟨o_gT (i := 761) (by decide +kernel) rfl, o_gS (i := 10) (by decide +kernel) rfl, o_gT (i := 1) (by decide +kernel) rfl, o_gT (i := 762) (by decide +kernel) rfl⟩
abbrev mX3_shareByGiving : o_M := (RX3, cX3_shareByGiving, 4, some .int, [], "shareByGiving")
abbrev wX3_shareByGiving : Cond := .code yX3_shareByGiving cX3_shareByGiving 4 (some .int)
theorem yw_X3_shareByGiving : o_yw yX3_shareByGiving wX3_shareByGiving := ⟨o_gT (i := 766) (by decide +kernel) rfl, o_gT (i := 767) (by decide +kernel) rfl, o_gT (i := 8) (by decide +kernel) rfl, o_gT (i := 768) (by decide +kernel) rfl⟩
abbrev mX3_divideRoundedDown : o_M := (RX3, cX3_divideRoundedDown, 5, none, [], "divideRoundedDown")
abbrev wX3_divideRoundedDown : Cond := .code yX3_divideRoundedDown cX3_divideRoundedDown 5 (none)
theorem yw_X3_divideRoundedDown : o_yw yX3_divideRoundedDown wX3_divideRoundedDown := ⟨o_gT (i := 772) (by decide +kernel) rfl, o_gS (i := 11) (by decide +kernel) rfl, o_gT (i := 8) (by decide +kernel) rfl, o_gT (i := 773) (by decide +kernel) rfl⟩
abbrev mX7_demandOf : o_M := (RX7, cX7_demandOf, 4, some .int, [], "demandOf")
abbrev wX7_demandOf : Cond := .code yX7_demandOf cX7_demandOf 4 (some .int)
theorem yw_X7_demandOf : o_yw yX7_demandOf wX7_demandOf := ⟨o_gT (i := 776) (by decide +kernel) rfl, o_gT (i := 777) (by decide +kernel) rfl, o_gT (i := 4) (by decide +kernel) rfl, o_gT (i := 778) (by decide +kernel) rfl⟩
abbrev mX3_giveOneUnit : o_M := (RX3, cX3_giveOneUnit, 4, none, [], "giveOneUnit")
abbrev wX3_giveOneUnit : Cond := .code yX3_giveOneUnit cX3_giveOneUnit 4 (none)
theorem yw_X3_giveOneUnit : o_yw yX3_giveOneUnit wX3_giveOneUnit := ⟨o_gT (i := 781) (by decide +kernel) rfl, o_gS (i := 12) (by decide +kernel) rfl, o_gT (i := 8) (by decide +kernel) rfl, o_gT (i := 782) (by decide +kernel) rfl⟩
abbrev mX11_oil : o_M := (RX11, cX11_oil, 1, some .int, [], "oil")
abbrev wX11_oil : Cond := .code yX11_oil cX11_oil 1 (some .int)
theorem yw_X11_oil : o_yw yX11_oil wX11_oil := ⟨o_gT (i := 784) (by decide +kernel) rfl, o_gT (i := 785) (by decide +kernel) rfl, o_gT (i := 1) (by decide +kernel) rfl, o_gT (i := 786) (by decide +kernel) rfl⟩
abbrev mL_byRank : o_M := (RL, cL_byRank, 3, some .int, [(0, 5, 6, 29)], "byRank")
abbrev wL_byRank : Cond := .codeWith yL_byRank cL_byRank 3 (some .int) [(0, 5, 6, 29)]
theorem ys_L_byRank : o_ys yL_byRank wL_byRank := ⟨o_gT (i := 788) (by decide +kernel) rfl, o_gT (i := 0) (by decide +kernel) rfl, o_gT (i := 789) (by decide +kernel) rfl⟩
abbrev mX11_shareByRank : o_M := (RX11, cX11_shareByRank, 2, some .int, [], "shareByRank")
abbrev wX11_shareByRank : Cond := .code yX11_shareByRank cX11_shareByRank 2 (some .int)
theorem yw_X11_shareByRank : o_yw yX11_shareByRank wX11_shareByRank := ⟨o_gT (i := 791) (by decide +kernel) rfl, o_gT (i := 792) (by decide +kernel) rfl, o_gT (i := 1) (by decide +kernel) rfl, o_gT (i := 793) (by decide +kernel) rfl⟩
abbrev mX3_shareByRemainderRank : o_M := (RX3, cX3_shareByRemainderRank, 3, some .int, [], "shareByRemainderRank")
abbrev wX3_shareByRemainderRank : Cond := .code yX3_shareByRemainderRank cX3_shareByRemainderRank 3 (some .int)
theorem yw_X3_shareByRemainderRank : o_yw yX3_shareByRemainderRank wX3_shareByRemainderRank := ⟨o_gT (i := 795) (by decide +kernel) rfl, o_gT (i := 796) (by decide +kernel) rfl, o_gT (i := 8) (by decide +kernel) rfl, o_gT (i := 797) (by decide +kernel) rfl⟩
abbrev mX3_rankOf : o_M := (RX3, cX3_rankOf, 5, some .int, [], "rankOf")
abbrev wX3_rankOf : Cond := .code yX3_rankOf cX3_rankOf 5 (some .int)
theorem yw_X3_rankOf : o_yw yX3_rankOf wX3_rankOf := ⟨o_gT (i := 800) (by decide +kernel) rfl, o_gS (i := 13) (by decide +kernel) rfl, o_gT (i := 8) (by decide +kernel) rfl, o_gT (i := 801) (by decide +kernel) rfl⟩
abbrev mL_byFines : o_M := (RL, cL_byFines, 3, some .int, [(0, 5, 6, 37)], "byFines")
abbrev wL_byFines : Cond := .codeWith yL_byFines cL_byFines 3 (some .int) [(0, 5, 6, 37)]
theorem ys_L_byFines : o_ys yL_byFines wL_byFines := ⟨o_gT (i := 803) (by decide +kernel) rfl, o_gT (i := 0) (by decide +kernel) rfl, o_gT (i := 804) (by decide +kernel) rfl⟩
abbrev mX11_shipByFines : o_M := (RX11, cX11_shipByFines, 3, some .int, [], "shipByFines")
abbrev wX11_shipByFines : Cond := .code yX11_shipByFines cX11_shipByFines 3 (some .int)
theorem yw_X11_shipByFines : o_yw yX11_shipByFines wX11_shipByFines := ⟨o_gT (i := 806) (by decide +kernel) rfl, o_gT (i := 807) (by decide +kernel) rfl, o_gT (i := 1) (by decide +kernel) rfl, o_gT (i := 808) (by decide +kernel) rfl⟩
abbrev mX9_atRank : o_M := (RX9, cX9_atRank, 3, some .int, [], "atRank")
abbrev wX9_atRank : Cond := .code yX9_atRank cX9_atRank 3 (some .int)
theorem yw_X9_atRank : o_yw yX9_atRank wX9_atRank := ⟨o_gT (i := 810) (by decide +kernel) rfl, o_gT (i := 811) (by decide +kernel) rfl, o_gT (i := 3) (by decide +kernel) rfl, o_gT (i := 812) (by decide +kernel) rfl⟩
abbrev mX9_rankOf : o_M := (RX9, cX9_rankOf, 4, some .int, [], "rankOf")
abbrev wX9_rankOf : Cond := .code yX9_rankOf cX9_rankOf 4 (some .int)
theorem yw_X9_rankOf : o_yw yX9_rankOf wX9_rankOf := ⟨o_gT (i := 815) (by decide +kernel) rfl, o_gS (i := 14) (by decide +kernel) rfl, o_gT (i := 3) (by decide +kernel) rfl, o_gT (i := 816) (by decide +kernel) rfl⟩
abbrev mX9_isBefore : o_M := (RX9, cX9_isBefore, 3, some .boolean, [], "isBefore")
abbrev wX9_isBefore : Cond := .code yX9_isBefore cX9_isBefore 3 (some .boolean)
theorem yw_X9_isBefore : o_yw yX9_isBefore wX9_isBefore := ⟨o_gT (i := 819) (by decide +kernel) rfl, o_gS (i := 15) (by decide +kernel) rfl, o_gT (i := 3) (by decide +kernel) rfl, o_gT (i := 820) (by decide +kernel) rfl⟩
abbrev mX11_throwIfNothing : o_M := (RX11, cX11_throwIfNothing, 1, none, [], "throwIfNothing")
abbrev wX11_throwIfNothing : Cond := .code yX11_throwIfNothing cX11_throwIfNothing 1 (none)
theorem ys_X11_throwIfNothing : o_ys yX11_throwIfNothing wX11_throwIfNothing := ⟨o_gT (i := 822) (by decide +kernel) rfl, o_gT (i := 1) (by decide +kernel) rfl, o_gT (i := 823) (by decide +kernel) rfl⟩
abbrev mL_fines : o_M := (RL, cL_fines, 3, some .int, [(0, 5, 6, 29)], "fines")
abbrev wL_fines : Cond := .codeWith yL_fines cL_fines 3 (some .int) [(0, 5, 6, 29)]
theorem ys_L_fines : o_ys yL_fines wL_fines := ⟨o_gT (i := 826) (by decide +kernel) rfl, o_gT (i := 0) (by decide +kernel) rfl, o_gT (i := 827) (by decide +kernel) rfl⟩
abbrev mX11_finesPaid : o_M := (RX11, cX11_finesPaid, 2, some .int, [], "finesPaid")
abbrev wX11_finesPaid : Cond := .code yX11_finesPaid cX11_finesPaid 2 (some .int)
theorem yw_X11_finesPaid : o_yw yX11_finesPaid wX11_finesPaid := ⟨o_gT (i := 829) (by decide +kernel) rfl, o_gT (i := 830) (by decide +kernel) rfl, o_gT (i := 1) (by decide +kernel) rfl, o_gT (i := 831) (by decide +kernel) rfl⟩
abbrev mL_coins : o_M := (RL, cL_coins, 3, some .int, [(0, 5, 6, 29)], "coins")
abbrev wL_coins : Cond := .codeWith yL_coins cL_coins 3 (some .int) [(0, 5, 6, 29)]
theorem ys_L_coins : o_ys yL_coins wL_coins := ⟨o_gT (i := 833) (by decide +kernel) rfl, o_gT (i := 0) (by decide +kernel) rfl, o_gT (i := 834) (by decide +kernel) rfl⟩
abbrev mX11_coins : o_M := (RX11, cX11_coins, 2, some .int, [], "coins")
abbrev wX11_coins : Cond := .code yX11_coins cX11_coins 2 (some .int)
theorem yw_X11_coins : o_yw yX11_coins wX11_coins := ⟨o_gT (i := 836) (by decide +kernel) rfl, o_gT (i := 837) (by decide +kernel) rfl, o_gT (i := 1) (by decide +kernel) rfl, o_gT (i := 838) (by decide +kernel) rfl⟩
abbrev mL_demand : o_M := (RL, cL_demand, 3, some .int, [(0, 5, 6, 29)], "demand")
abbrev wL_demand : Cond := .codeWith yL_demand cL_demand 3 (some .int) [(0, 5, 6, 29)]
theorem ys_L_demand : o_ys yL_demand wL_demand := ⟨o_gT (i := 840) (by decide +kernel) rfl, o_gT (i := 0) (by decide +kernel) rfl, o_gT (i := 841) (by decide +kernel) rfl⟩
abbrev mX11_demand : o_M := (RX11, cX11_demand, 2, some .int, [], "demand")
abbrev wX11_demand : Cond := .code yX11_demand cX11_demand 2 (some .int)
theorem yw_X11_demand : o_yw yX11_demand wX11_demand := ⟨o_gT (i := 843) (by decide +kernel) rfl, o_gT (i := 844) (by decide +kernel) rfl, o_gT (i := 1) (by decide +kernel) rfl, o_gT (i := 845) (by decide +kernel) rfl⟩
abbrev mL_leases : o_M := (RL, cL_leases, 3, some .int, [(0, 5, 6, 29)], "leases")
abbrev wL_leases : Cond := .codeWith yL_leases cL_leases 3 (some .int) [(0, 5, 6, 29)]
theorem ys_L_leases : o_ys yL_leases wL_leases := ⟨o_gT (i := 848) (by decide +kernel) rfl, o_gT (i := 0) (by decide +kernel) rfl, o_gT (i := 849) (by decide +kernel) rfl⟩
abbrev mX11_leasesOf : o_M := (RX11, cX11_leasesOf, 2, some .int, [], "leasesOf")
abbrev wX11_leasesOf : Cond := .code yX11_leasesOf cX11_leasesOf 2 (some .int)
theorem yw_X11_leasesOf : o_yw yX11_leasesOf wX11_leasesOf := ⟨o_gT (i := 851) (by decide +kernel) rfl, o_gT (i := 852) (by decide +kernel) rfl, o_gT (i := 1) (by decide +kernel) rfl, o_gT (i := 853) (by decide +kernel) rfl⟩
abbrev mX11_officeCoins : o_M := (RX11, cX11_officeCoins, 1, some .int, [], "officeCoins")
abbrev wX11_officeCoins : Cond := .code yX11_officeCoins cX11_officeCoins 1 (some .int)
theorem yw_X11_officeCoins : o_yw yX11_officeCoins wX11_officeCoins := ⟨o_gT (i := 856) (by decide +kernel) rfl, o_gT (i := 857) (by decide +kernel) rfl, o_gT (i := 1) (by decide +kernel) rfl, o_gT (i := 858) (by decide +kernel) rfl⟩
abbrev mX11_meanCoins : o_M := (RX11, cX11_meanCoins, 2, some .double, [], "meanCoins")
abbrev wX11_meanCoins : Cond := .code yX11_meanCoins cX11_meanCoins 2 (some .double)
theorem yw_X11_meanCoins : o_yw yX11_meanCoins wX11_meanCoins := ⟨o_gT (i := 860) (by decide +kernel) rfl, o_gT (i := 861) (by decide +kernel) rfl, o_gT (i := 1) (by decide +kernel) rfl, o_gT (i := 862) (by decide +kernel) rfl⟩
abbrev mX9_sumOfCoins : o_M := (RX9, cX9_sumOfCoins, 3, some .int, [], "sumOfCoins")
abbrev wX9_sumOfCoins : Cond := .code yX9_sumOfCoins cX9_sumOfCoins 3 (some .int)
theorem yw_X9_sumOfCoins : o_yw yX9_sumOfCoins wX9_sumOfCoins := ⟨o_gT (i := 880) (by decide +kernel) rfl, o_gT (i := 881) (by decide +kernel) rfl, o_gT (i := 3) (by decide +kernel) rfl, o_gT (i := 882) (by decide +kernel) rfl⟩
abbrev mL_dark : o_M := (RL, cL_dark, 3, some .int, [(0, 5, 6, 29)], "dark")
abbrev wL_dark : Cond := .codeWith yL_dark cL_dark 3 (some .int) [(0, 5, 6, 29)]
theorem ys_L_dark : o_ys yL_dark wL_dark := ⟨o_gT (i := 884) (by decide +kernel) rfl, o_gT (i := 0) (by decide +kernel) rfl, o_gT (i := 885) (by decide +kernel) rfl⟩
abbrev mX11_darkHours : o_M := (RX11, cX11_darkHours, 2, some .int, [], "darkHours")
abbrev wX11_darkHours : Cond := .code yX11_darkHours cX11_darkHours 2 (some .int)
theorem yw_X11_darkHours : o_yw yX11_darkHours wX11_darkHours := ⟨o_gT (i := 887) (by decide +kernel) rfl, o_gT (i := 888) (by decide +kernel) rfl, o_gT (i := 1) (by decide +kernel) rfl, o_gT (i := 889) (by decide +kernel) rfl⟩
abbrev mL_oils : o_M := (RL, cL_oils, 10, some .boolean, [], "oils")
abbrev wL_oils : Cond := .code yL_oils cL_oils 10 (some .boolean)
theorem ys_L_oils : o_ys yL_oils wL_oils := ⟨o_gT (i := 891) (by decide +kernel) rfl, o_gT (i := 0) (by decide +kernel) rfl, o_gT (i := 892) (by decide +kernel) rfl⟩
abbrev mL_end : o_M := (RL, cL_end, 3, some .int, [(0, 5, 6, 29), (0, 5, 10, 37)], "end")
abbrev wL_end : Cond := .codeWith yL_end cL_end 3 (some .int) [(0, 5, 6, 29), (0, 5, 10, 37)]
theorem ys_L_end : o_ys yL_end wL_end := ⟨o_gT (i := 894) (by decide +kernel) rfl, o_gT (i := 0) (by decide +kernel) rfl, o_gT (i := 895) (by decide +kernel) rfl⟩
abbrev mX11_endHour : o_M := (RX11, cX11_endHour, 2, some .int, [], "endHour")
abbrev wX11_endHour : Cond := .code yX11_endHour cX11_endHour 2 (some .int)
theorem yw_X11_endHour : o_yw yX11_endHour wX11_endHour := ⟨o_gT (i := 897) (by decide +kernel) rfl, o_gT (i := 898) (by decide +kernel) rfl, o_gT (i := 1) (by decide +kernel) rfl, o_gT (i := 899) (by decide +kernel) rfl⟩
abbrev mX11_hour : o_M := (RX11, cX11_hour, 1, some .int, [], "hour")
abbrev wX11_hour : Cond := .code yX11_hour cX11_hour 1 (some .int)
theorem yw_X11_hour : o_yw yX11_hour wX11_hour := ⟨o_gT (i := 901) (by decide +kernel) rfl, o_gT (i := 902) (by decide +kernel) rfl, o_gT (i := 1) (by decide +kernel) rfl, o_gT (i := 903) (by decide +kernel) rfl⟩
abbrev mL_isLeased : o_M := (RL, cL_isLeased, 3, some .int, [(0, 13, 14, 29)], "isLeased")
abbrev wL_isLeased : Cond := .codeWith yL_isLeased cL_isLeased 3 (some .int) [(0, 13, 14, 29)]
theorem ys_L_isLeased : o_ys yL_isLeased wL_isLeased := ⟨o_gT (i := 905) (by decide +kernel) rfl, o_gT (i := 0) (by decide +kernel) rfl, o_gT (i := 906) (by decide +kernel) rfl⟩
abbrev mX11_isLeased : o_M := (RX11, cX11_isLeased, 2, some .boolean, [], "isLeased")
abbrev wX11_isLeased : Cond := .code yX11_isLeased cX11_isLeased 2 (some .boolean)
theorem yw_X11_isLeased : o_yw yX11_isLeased wX11_isLeased := ⟨o_gT (i := 908) (by decide +kernel) rfl, o_gT (i := 909) (by decide +kernel) rfl, o_gT (i := 1) (by decide +kernel) rfl, o_gT (i := 910) (by decide +kernel) rfl⟩
abbrev mL_level : o_M := (RL, cL_level, 3, some .int, [(0, 5, 6, 29)], "level")
abbrev wL_level : Cond := .codeWith yL_level cL_level 3 (some .int) [(0, 5, 6, 29)]
theorem ys_L_level : o_ys yL_level wL_level := ⟨o_gT (i := 913) (by decide +kernel) rfl, o_gT (i := 0) (by decide +kernel) rfl, o_gT (i := 914) (by decide +kernel) rfl⟩
abbrev mL_areLeft : o_M := (RL, cL_areLeft, 8, some .boolean, [], "areLeft")
abbrev wL_areLeft : Cond := .code yL_areLeft cL_areLeft 8 (some .boolean)
theorem ys_L_areLeft : o_ys yL_areLeft wL_areLeft := ⟨o_gT (i := 916) (by decide +kernel) rfl, o_gT (i := 0) (by decide +kernel) rfl, o_gT (i := 917) (by decide +kernel) rfl⟩
abbrev mL_hoursOfOil : o_M := (RL, cL_hoursOfOil, 2, some .int, [(0, 4, 5, 37)], "hoursOfOil")
abbrev wL_hoursOfOil : Cond := .codeWith yL_hoursOfOil cL_hoursOfOil 2 (some .int) [(0, 4, 5, 37)]
theorem ys_L_hoursOfOil : o_ys yL_hoursOfOil wL_hoursOfOil := ⟨o_gT (i := 919) (by decide +kernel) rfl, o_gT (i := 0) (by decide +kernel) rfl, o_gT (i := 920) (by decide +kernel) rfl⟩
abbrev mX11_hoursOfOil : o_M := (RX11, cX11_hoursOfOil, 2, some .int, [], "hoursOfOil")
abbrev wX11_hoursOfOil : Cond := .code yX11_hoursOfOil cX11_hoursOfOil 2 (some .int)
theorem yw_X11_hoursOfOil : o_yw yX11_hoursOfOil wX11_hoursOfOil := ⟨o_gT (i := 922) (by decide +kernel) rfl, o_gT (i := 923) (by decide +kernel) rfl, o_gT (i := 1) (by decide +kernel) rfl, o_gT (i := 924) (by decide +kernel) rfl⟩
abbrev mX4_hoursByPassing : o_M := (RX4, cX4_hoursByPassing, 5, some .int, [], "hoursByPassing")
abbrev wX4_hoursByPassing : Cond := .code yX4_hoursByPassing cX4_hoursByPassing 5 (some .int)
theorem yw_X4_hoursByPassing : o_yw yX4_hoursByPassing wX4_hoursByPassing := ⟨o_gT (i := 926) (by decide +kernel) rfl, o_gT (i := 927) (by decide +kernel) rfl, o_gT (i := 7) (by decide +kernel) rfl, o_gT (i := 928) (by decide +kernel) rfl⟩
abbrev mX7_demandAfter : o_M := (RX7, cX7_demandAfter, 4, some .int, [], "demandAfter")
abbrev wX7_demandAfter : Cond := .code yX7_demandAfter cX7_demandAfter 4 (some .int)
theorem yw_X7_demandAfter : o_yw yX7_demandAfter wX7_demandAfter := ⟨o_gT (i := 930) (by decide +kernel) rfl, o_gT (i := 931) (by decide +kernel) rfl, o_gT (i := 4) (by decide +kernel) rfl, o_gT (i := 932) (by decide +kernel) rfl⟩
abbrev mL_byEnds : o_M := (RL, cL_byEnds, 2, some .int, [(0, 4, 5, 37)], "byEnds")
abbrev wL_byEnds : Cond := .codeWith yL_byEnds cL_byEnds 2 (some .int) [(0, 4, 5, 37)]
theorem ys_L_byEnds : o_ys yL_byEnds wL_byEnds := ⟨o_gT (i := 934) (by decide +kernel) rfl, o_gT (i := 0) (by decide +kernel) rfl, o_gT (i := 935) (by decide +kernel) rfl⟩
abbrev mX11_hoursOfOilByEnds : o_M := (RX11, cX11_hoursOfOilByEnds, 2, some .int, [], "hoursOfOilByEnds")
abbrev wX11_hoursOfOilByEnds : Cond := .code yX11_hoursOfOilByEnds cX11_hoursOfOilByEnds 2 (some .int)
theorem yw_X11_hoursOfOilByEnds : o_yw yX11_hoursOfOilByEnds wX11_hoursOfOilByEnds := ⟨o_gT (i := 937) (by decide +kernel) rfl, o_gT (i := 938) (by decide +kernel) rfl, o_gT (i := 1) (by decide +kernel) rfl, o_gT (i := 939) (by decide +kernel) rfl⟩
abbrev mX4_hoursByEndHours : o_M := (RX4, cX4_hoursByEndHours, 7, some .int, [], "hoursByEndHours")
abbrev wX4_hoursByEndHours : Cond := .code yX4_hoursByEndHours cX4_hoursByEndHours 7 (some .int)
theorem yw_X4_hoursByEndHours : o_yw yX4_hoursByEndHours wX4_hoursByEndHours := ⟨o_gT (i := 941) (by decide +kernel) rfl, o_gT (i := 942) (by decide +kernel) rfl, o_gT (i := 7) (by decide +kernel) rfl, o_gT (i := 943) (by decide +kernel) rfl⟩
abbrev mX7_firstEndAfter : o_M := (RX7, cX7_firstEndAfter, 4, some .int, [], "firstEndAfter")
abbrev wX7_firstEndAfter : Cond := .code yX7_firstEndAfter cX7_firstEndAfter 4 (some .int)
theorem yw_X7_firstEndAfter : o_yw yX7_firstEndAfter wX7_firstEndAfter := ⟨o_gT (i := 945) (by decide +kernel) rfl, o_gT (i := 946) (by decide +kernel) rfl, o_gT (i := 4) (by decide +kernel) rfl, o_gT (i := 947) (by decide +kernel) rfl⟩
abbrev mX11_mostBright : o_M := (RX11, cX11_mostBright, 1, some .int, [], "mostBright")
abbrev wX11_mostBright : Cond := .code yX11_mostBright cX11_mostBright 1 (some .int)
theorem yw_X11_mostBright : o_yw yX11_mostBright wX11_mostBright := ⟨o_gT (i := 949) (by decide +kernel) rfl, o_gT (i := 950) (by decide +kernel) rfl, o_gT (i := 1) (by decide +kernel) rfl, o_gT (i := 951) (by decide +kernel) rfl⟩
abbrev mX4_mostLampsByLevels : o_M := (RX4, cX4_mostLampsByLevels, 6, some .int, [], "mostLampsByLevels")
abbrev wX4_mostLampsByLevels : Cond := .code yX4_mostLampsByLevels cX4_mostLampsByLevels 6 (some .int)
theorem yw_X4_mostLampsByLevels : o_yw yX4_mostLampsByLevels wX4_mostLampsByLevels := ⟨o_gT (i := 953) (by decide +kernel) rfl, o_gT (i := 954) (by decide +kernel) rfl, o_gT (i := 7) (by decide +kernel) rfl, o_gT (i := 955) (by decide +kernel) rfl⟩
abbrev mX11_mostBrightBySums : o_M := (RX11, cX11_mostBrightBySums, 1, some .int, [], "mostBrightBySums")
abbrev wX11_mostBrightBySums : Cond := .code yX11_mostBrightBySums cX11_mostBrightBySums 1 (some .int)
theorem yw_X11_mostBrightBySums : o_yw yX11_mostBrightBySums wX11_mostBrightBySums := ⟨o_gT (i := 958) (by decide +kernel) rfl, o_gT (i := 959) (by decide +kernel) rfl, o_gT (i := 1) (by decide +kernel) rfl, o_gT (i := 960) (by decide +kernel) rfl⟩
abbrev mX4_mostLampsByTable : o_M := (RX4, cX4_mostLampsByTable, 4, some .int, [], "mostLampsByTable")
abbrev wX4_mostLampsByTable : Cond := .code yX4_mostLampsByTable cX4_mostLampsByTable 4 (some .int)
theorem yw_X4_mostLampsByTable : o_yw yX4_mostLampsByTable wX4_mostLampsByTable := ⟨o_gT (i := 962) (by decide +kernel) rfl, o_gT (i := 963) (by decide +kernel) rfl, o_gT (i := 7) (by decide +kernel) rfl, o_gT (i := 964) (by decide +kernel) rfl⟩
abbrev mX4_clearTable : o_M := (RX4, cX4_clearTable, 2, none, [], "clearTable")
abbrev wX4_clearTable : Cond := .code yX4_clearTable cX4_clearTable 2 (none)
theorem yw_X4_clearTable : o_yw yX4_clearTable wX4_clearTable := ⟨o_gT (i := 967) (by decide +kernel) rfl, o_gS (i := 16) (by decide +kernel) rfl, o_gT (i := 7) (by decide +kernel) rfl, o_gT (i := 968) (by decide +kernel) rfl⟩
abbrev mX4_enterInTable : o_M := (RX4, cX4_enterInTable, 4, none, [], "enterInTable")
abbrev wX4_enterInTable : Cond := .code yX4_enterInTable cX4_enterInTable 4 (none)
theorem yw_X4_enterInTable : o_yw yX4_enterInTable wX4_enterInTable := ⟨o_gT (i := 971) (by decide +kernel) rfl, o_gS (i := 17) (by decide +kernel) rfl, o_gT (i := 7) (by decide +kernel) rfl, o_gT (i := 972) (by decide +kernel) rfl⟩
abbrev mJ9_max_7cf53 : o_M := (RJ9, cJ9_max_7cf53, 2, some .int, [], "max")
abbrev wJ9_max_7cf53 : Cond := .code yJ9_max_7cf53 cJ9_max_7cf53 2 (some .int)
theorem ys_J9_max_7cf53 : o_ys yJ9_max_7cf53 wJ9_max_7cf53 := ⟨o_gT (i := 974) (by decide +kernel) rfl, o_gT (i := 26) (by decide +kernel) rfl, o_gT (i := 975) (by decide +kernel) rfl⟩
abbrev mX11_brightNext : o_M := (RX11, cX11_brightNext, 1, some .int, [], "brightNext")
abbrev wX11_brightNext : Cond := .code yX11_brightNext cX11_brightNext 1 (some .int)
theorem yw_X11_brightNext : o_yw yX11_brightNext wX11_brightNext := ⟨o_gT (i := 977) (by decide +kernel) rfl, o_gT (i := 978) (by decide +kernel) rfl, o_gT (i := 1) (by decide +kernel) rfl, o_gT (i := 979) (by decide +kernel) rfl⟩
abbrev mX4_nextBrightLamps : o_M := (RX4, cX4_nextBrightLamps, 5, some .int, [], "nextBrightLamps")
abbrev wX4_nextBrightLamps : Cond := .code yX4_nextBrightLamps cX4_nextBrightLamps 5 (some .int)
theorem yw_X4_nextBrightLamps : o_yw yX4_nextBrightLamps wX4_nextBrightLamps := ⟨o_gT (i := 981) (by decide +kernel) rfl, o_gT (i := 982) (by decide +kernel) rfl, o_gT (i := 7) (by decide +kernel) rfl, o_gT (i := 983) (by decide +kernel) rfl⟩
abbrev mL_brightBy : o_M := (RL, cL_brightBy, 5, some .int, [], "brightBy")
abbrev wL_brightBy : Cond := .code yL_brightBy cL_brightBy 5 (some .int)
theorem ys_L_brightBy : o_ys yL_brightBy wL_brightBy := ⟨o_gT (i := 985) (by decide +kernel) rfl, o_gT (i := 0) (by decide +kernel) rfl, o_gT (i := 986) (by decide +kernel) rfl⟩
abbrev mX11_isConsistent : o_M := (RX11, cX11_isConsistent, 1, some .boolean, [], "isConsistent")
abbrev wX11_isConsistent : Cond := .code yX11_isConsistent cX11_isConsistent 1 (some .boolean)
theorem yw_X11_isConsistent : o_yw yX11_isConsistent wX11_isConsistent := ⟨o_gT (i := 988) (by decide +kernel) rfl, o_gT (i := 989) (by decide +kernel) rfl, o_gT (i := 1) (by decide +kernel) rfl, o_gT (i := 990) (by decide +kernel) rfl⟩
abbrev mX11_coinsAddUp : o_M := (RX11, cX11_coinsAddUp, 1, some .boolean, [], "coinsAddUp")
abbrev wX11_coinsAddUp : Cond := .code yX11_coinsAddUp cX11_coinsAddUp 1 (some .boolean)
theorem yw_X11_coinsAddUp : o_yw yX11_coinsAddUp wX11_coinsAddUp := ⟨o_gT (i := 993) (by decide +kernel) rfl, o_gS (i := 18) (by decide +kernel) rfl, o_gT (i := 1) (by decide +kernel) rfl, o_gT (i := 994) (by decide +kernel) rfl⟩
abbrev mX11_sharesAgree : o_M := (RX11, cX11_sharesAgree, 2, some .boolean, [], "sharesAgree")
abbrev wX11_sharesAgree : Cond := .code yX11_sharesAgree cX11_sharesAgree 2 (some .boolean)
theorem yw_X11_sharesAgree : o_yw yX11_sharesAgree wX11_sharesAgree := ⟨o_gT (i := 997) (by decide +kernel) rfl, o_gS (i := 19) (by decide +kernel) rfl, o_gT (i := 1) (by decide +kernel) rfl, o_gT (i := 998) (by decide +kernel) rfl⟩
abbrev mX11_sharesAddUp : o_M := (RX11, cX11_sharesAddUp, 3, some .boolean, [], "sharesAddUp")
abbrev wX11_sharesAddUp : Cond := .code yX11_sharesAddUp cX11_sharesAddUp 3 (some .boolean)
theorem yw_X11_sharesAddUp : o_yw yX11_sharesAddUp wX11_sharesAddUp := ⟨o_gT (i := 1001) (by decide +kernel) rfl, o_gS (i := 20) (by decide +kernel) rfl, o_gT (i := 1) (by decide +kernel) rfl, o_gT (i := 1002) (by decide +kernel) rfl⟩
abbrev mX11_brightnessAgrees : o_M := (RX11, cX11_brightnessAgrees, 1, some .boolean, [], "brightnessAgrees")
abbrev wX11_brightnessAgrees : Cond := .code yX11_brightnessAgrees cX11_brightnessAgrees 1 (some .boolean)
theorem yw_X11_brightnessAgrees : o_yw yX11_brightnessAgrees wX11_brightnessAgrees := ⟨o_gT (i := 1005) (by decide +kernel) rfl, o_gS (i := 21) (by decide +kernel) rfl, o_gT (i := 1) (by decide +kernel) rfl, o_gT (i := 1006) (by decide +kernel) rfl⟩
abbrev mX11_requestsAreForLeasedLamps : o_M := (RX11, cX11_requestsAreForLeasedLamps, 2, some .boolean, [], "requestsAreForLeasedLamps")
abbrev wX11_requestsAreForLeasedLamps : Cond := .code yX11_requestsAreForLeasedLamps cX11_requestsAreForLeasedLamps 2 (some .boolean)
theorem yw_X11_requestsAreForLeasedLamps : o_yw yX11_requestsAreForLeasedLamps wX11_requestsAreForLeasedLamps := ⟨o_gT (i := 1009) (by decide +kernel) rfl, o_gS (i := 22) (by decide +kernel) rfl, o_gT (i := 1) (by decide +kernel) rfl, o_gT (i := 1010) (by decide +kernel) rfl⟩
abbrev mL_lamps : o_M := (RL, cL_lamps, 7, some .boolean, [], "lamps")
abbrev wL_lamps : Cond := .code yL_lamps cL_lamps 7 (some .boolean)
theorem ys_L_lamps : o_ys yL_lamps wL_lamps := ⟨o_gT (i := 1012) (by decide +kernel) rfl, o_gT (i := 0) (by decide +kernel) rfl, o_gT (i := 1013) (by decide +kernel) rfl⟩
abbrev mL_bright : o_M := (RL, cL_bright, 3, some .int, [(0, 5, 6, 29)], "bright")
abbrev wL_bright : Cond := .codeWith yL_bright cL_bright 3 (some .int) [(0, 5, 6, 29)]
theorem ys_L_bright : o_ys yL_bright wL_bright := ⟨o_gT (i := 1015) (by decide +kernel) rfl, o_gT (i := 0) (by decide +kernel) rfl, o_gT (i := 1016) (by decide +kernel) rfl⟩
abbrev mX11_brightHours : o_M := (RX11, cX11_brightHours, 2, some .int, [], "brightHours")
abbrev wX11_brightHours : Cond := .code yX11_brightHours cX11_brightHours 2 (some .int)
theorem yw_X11_brightHours : o_yw yX11_brightHours wX11_brightHours := ⟨o_gT (i := 1018) (by decide +kernel) rfl, o_gT (i := 1019) (by decide +kernel) rfl, o_gT (i := 1) (by decide +kernel) rfl, o_gT (i := 1020) (by decide +kernel) rfl⟩
abbrev mL_was : o_M := (RL, cL_was, 3, some .int, [(0, 13, 14, 29)], "was")
abbrev wL_was : Cond := .codeWith yL_was cL_was 3 (some .int) [(0, 13, 14, 29)]
theorem ys_L_was : o_ys yL_was wL_was := ⟨o_gT (i := 1022) (by decide +kernel) rfl, o_gT (i := 0) (by decide +kernel) rfl, o_gT (i := 1023) (by decide +kernel) rfl⟩
abbrev mX11_wasBright : o_M := (RX11, cX11_wasBright, 2, some .boolean, [], "wasBright")
abbrev wX11_wasBright : Cond := .code yX11_wasBright cX11_wasBright 2 (some .boolean)
theorem yw_X11_wasBright : o_yw yX11_wasBright wX11_wasBright := ⟨o_gT (i := 1025) (by decide +kernel) rfl, o_gT (i := 1026) (by decide +kernel) rfl, o_gT (i := 1) (by decide +kernel) rfl, o_gT (i := 1027) (by decide +kernel) rfl⟩
abbrev mL_byEnd : o_M := (RL, cL_byEnd, 3, some .int, [(0, 5, 6, 37)], "byEnd")
abbrev wL_byEnd : Cond := .codeWith yL_byEnd cL_byEnd 3 (some .int) [(0, 5, 6, 37)]
theorem ys_L_byEnd : o_ys yL_byEnd wL_byEnd := ⟨o_gT (i := 1029) (by decide +kernel) rfl, o_gT (i := 0) (by decide +kernel) rfl, o_gT (i := 1030) (by decide +kernel) rfl⟩
abbrev mX11_lampByEnd : o_M := (RX11, cX11_lampByEnd, 3, some .int, [], "lampByEnd")
abbrev wX11_lampByEnd : Cond := .code yX11_lampByEnd cX11_lampByEnd 3 (some .int)
theorem yw_X11_lampByEnd : o_yw yX11_lampByEnd wX11_lampByEnd := ⟨o_gT (i := 1032) (by decide +kernel) rfl, o_gT (i := 1033) (by decide +kernel) rfl, o_gT (i := 1) (by decide +kernel) rfl, o_gT (i := 1034) (by decide +kernel) rfl⟩
abbrev mX7_atRank : o_M := (RX7, cX7_atRank, 3, some .int, [], "atRank")
abbrev wX7_atRank : Cond := .code yX7_atRank cX7_atRank 3 (some .int)
theorem yw_X7_atRank : o_yw yX7_atRank wX7_atRank := ⟨o_gT (i := 1036) (by decide +kernel) rfl, o_gT (i := 1037) (by decide +kernel) rfl, o_gT (i := 4) (by decide +kernel) rfl, o_gT (i := 1038) (by decide +kernel) rfl⟩
abbrev mX7_rankOf : o_M := (RX7, cX7_rankOf, 4, some .int, [], "rankOf")
abbrev wX7_rankOf : Cond := .code yX7_rankOf cX7_rankOf 4 (some .int)
theorem yw_X7_rankOf : o_yw yX7_rankOf wX7_rankOf := ⟨o_gT (i := 1041) (by decide +kernel) rfl, o_gS (i := 23) (by decide +kernel) rfl, o_gT (i := 4) (by decide +kernel) rfl, o_gT (i := 1042) (by decide +kernel) rfl⟩
abbrev mX7_isBefore : o_M := (RX7, cX7_isBefore, 3, some .boolean, [], "isBefore")
abbrev wX7_isBefore : Cond := .code yX7_isBefore cX7_isBefore 3 (some .boolean)
theorem yw_X7_isBefore : o_yw yX7_isBefore wX7_isBefore := ⟨o_gT (i := 1045) (by decide +kernel) rfl, o_gS (i := 24) (by decide +kernel) rfl, o_gT (i := 4) (by decide +kernel) rfl, o_gT (i := 1046) (by decide +kernel) rfl⟩
abbrev mX11_requestCount : o_M := (RX11, cX11_requestCount, 1, some .int, [], "requestCount")
abbrev wX11_requestCount : Cond := .code yX11_requestCount cX11_requestCount 1 (some .int)
theorem yw_X11_requestCount : o_yw yX11_requestCount wX11_requestCount := ⟨o_gT (i := 1048) (by decide +kernel) rfl, o_gT (i := 1049) (by decide +kernel) rfl, o_gT (i := 1) (by decide +kernel) rfl, o_gT (i := 1050) (by decide +kernel) rfl⟩
abbrev mL_asked : o_M := (RL, cL_asked, 3, some .int, [(0, 5, 6, 37)], "asked")
abbrev wL_asked : Cond := .codeWith yL_asked cL_asked 3 (some .int) [(0, 5, 6, 37)]
theorem ys_L_asked : o_ys yL_asked wL_asked := ⟨o_gT (i := 1052) (by decide +kernel) rfl, o_gT (i := 0) (by decide +kernel) rfl, o_gT (i := 1053) (by decide +kernel) rfl⟩
abbrev mX11_requestedLamp : o_M := (RX11, cX11_requestedLamp, 2, some .int, [], "requestedLamp")
abbrev wX11_requestedLamp : Cond := .code yX11_requestedLamp cX11_requestedLamp 2 (some .int)
theorem yw_X11_requestedLamp : o_yw yX11_requestedLamp wX11_requestedLamp := ⟨o_gT (i := 1055) (by decide +kernel) rfl, o_gT (i := 1056) (by decide +kernel) rfl, o_gT (i := 1) (by decide +kernel) rfl, o_gT (i := 1057) (by decide +kernel) rfl⟩
abbrev mX11_throwUnlessPosition : o_M := (RX11, cX11_throwUnlessPosition, 2, none, [], "throwUnlessPosition")
abbrev wX11_throwUnlessPosition : Cond := .code yX11_throwUnlessPosition cX11_throwUnlessPosition 2 (none)
theorem yw_X11_throwUnlessPosition : o_yw yX11_throwUnlessPosition wX11_throwUnlessPosition := ⟨o_gT (i := 1060) (by decide +kernel) rfl, o_gS (i := 25) (by decide +kernel) rfl, o_gT (i := 1) (by decide +kernel) rfl, o_gT (i := 1061) (by decide +kernel) rfl⟩
abbrev mL_askedHours : o_M := (RL, cL_askedHours, 3, some .int, [(0, 5, 6, 37)], "askedHours")
abbrev wL_askedHours : Cond := .codeWith yL_askedHours cL_askedHours 3 (some .int) [(0, 5, 6, 37)]
theorem ys_L_askedHours : o_ys yL_askedHours wL_askedHours := ⟨o_gT (i := 1064) (by decide +kernel) rfl, o_gT (i := 0) (by decide +kernel) rfl, o_gT (i := 1065) (by decide +kernel) rfl⟩
abbrev mX11_requestedHours : o_M := (RX11, cX11_requestedHours, 2, some .int, [], "requestedHours")
abbrev wX11_requestedHours : Cond := .code yX11_requestedHours cX11_requestedHours 2 (some .int)
theorem yw_X11_requestedHours : o_yw yX11_requestedHours wX11_requestedHours := ⟨o_gT (i := 1067) (by decide +kernel) rfl, o_gT (i := 1068) (by decide +kernel) rfl, o_gT (i := 1) (by decide +kernel) rfl, o_gT (i := 1069) (by decide +kernel) rfl⟩
abbrev mX11_leasedLamps : o_M := (RX11, cX11_leasedLamps, 1, some .int, [], "leasedLamps")
abbrev wX11_leasedLamps : Cond := .code yX11_leasedLamps cX11_leasedLamps 1 (some .int)
theorem yw_X11_leasedLamps : o_yw yX11_leasedLamps wX11_leasedLamps := ⟨o_gT (i := 1071) (by decide +kernel) rfl, o_gT (i := 1072) (by decide +kernel) rfl, o_gT (i := 1) (by decide +kernel) rfl, o_gT (i := 1073) (by decide +kernel) rfl⟩
abbrev mX7_countTaken : o_M := (RX7, cX7_countTaken, 3, some .int, [], "countTaken")
abbrev wX7_countTaken : Cond := .code yX7_countTaken cX7_countTaken 3 (some .int)
theorem yw_X7_countTaken : o_yw yX7_countTaken wX7_countTaken := ⟨o_gT (i := 1075) (by decide +kernel) rfl, o_gT (i := 1076) (by decide +kernel) rfl, o_gT (i := 4) (by decide +kernel) rfl, o_gT (i := 1077) (by decide +kernel) rfl⟩
abbrev mX11_leasedShare : o_M := (RX11, cX11_leasedShare, 2, some .float, [], "leasedShare")
abbrev wX11_leasedShare : Cond := .code yX11_leasedShare cX11_leasedShare 2 (some .float)
theorem yw_X11_leasedShare : o_yw yX11_leasedShare wX11_leasedShare := ⟨o_gT (i := 1079) (by decide +kernel) rfl, o_gT (i := 1080) (by decide +kernel) rfl, o_gT (i := 1) (by decide +kernel) rfl, o_gT (i := 1081) (by decide +kernel) rfl⟩
abbrev mL_texts : o_M := (RL, cL_texts, 3, some .boolean, [], "texts")
abbrev wL_texts : Cond := .code yL_texts cL_texts 3 (some .boolean)
theorem ys_L_texts : o_ys yL_texts wL_texts := ⟨o_gT (i := 1084) (by decide +kernel) rfl, o_gT (i := 0) (by decide +kernel) rfl, o_gT (i := 1085) (by decide +kernel) rfl⟩
abbrev mJ4_append_15ec4 : o_M := (RJ4, cJ4_append_15ec4, 2, some (.object "java/lang/StringBuilder"), [], "append")
abbrev wJ4_append_15ec4 : Cond := .code yJ4_append_15ec4 cJ4_append_15ec4 2 (some (.object "java/lang/StringBuilder"))
theorem yw_J4_append_15ec4 : o_yw yJ4_append_15ec4 wJ4_append_15ec4 := ⟨o_gT (i := 1090) (by decide +kernel) rfl, o_gT (i := 1091) (by decide +kernel) rfl, o_gT (i := 14) (by decide +kernel) rfl, o_gT (i := 1092) (by decide +kernel) rfl⟩
abbrev mJ5_append_cf1ce : o_M := (RJ5, cJ5_append_cf1ce, 3, some (.object "java/lang/AbstractStringBuilder"), [], "append")
abbrev wJ5_append_cf1ce : Cond := .code yJ5_append_cf1ce cJ5_append_cf1ce 3 (some (.object "java/lang/AbstractStringBuilder"))
theorem yi_J5_append_cf1ce : o_yi yJ5_append_cf1ce wJ5_append_cf1ce := ⟨o_gT (i := 1094) (by decide +kernel) rfl, o_gT (i := 13) (by decide +kernel) rfl, o_gT (i := 1095) (by decide +kernel) rfl⟩
abbrev mJ5_appendNull_278bc : o_M := (RJ5, cJ5_appendNull_278bc, 3, some (.object "java/lang/AbstractStringBuilder"), [], "appendNull")
abbrev wJ5_appendNull_278bc : Cond := .code yJ5_appendNull_278bc cJ5_appendNull_278bc 3 (some (.object "java/lang/AbstractStringBuilder"))
theorem yi_J5_appendNull_278bc : o_yi yJ5_appendNull_278bc wJ5_appendNull_278bc := ⟨o_gT (i := 1098) (by decide +kernel) rfl, o_gT (i := 13) (by decide +kernel) rfl, o_gT (i := 1099) (by decide +kernel) rfl⟩
abbrev mJ5_ensureCapacityInternal_d00df : o_M := (RJ5, cJ5_ensureCapacityInternal_d00df, 3, none, [], "ensureCapacityInternal")
abbrev wJ5_ensureCapacityInternal_d00df : Cond := .code yJ5_ensureCapacityInternal_d00df cJ5_ensureCapacityInternal_d00df 3 (none)
theorem yi_J5_ensureCapacityInternal_d00df : o_yi yJ5_ensureCapacityInternal_d00df wJ5_ensureCapacityInternal_d00df := ⟨o_gT (i := 1102) (by decide +kernel) rfl, o_gT (i := 13) (by decide +kernel) rfl, o_gT (i := 1103) (by decide +kernel) rfl⟩
abbrev mJ5_newCapacity_0f7a4 : o_M := (RJ5, cJ5_newCapacity_0f7a4, 6, some .int, [], "newCapacity")
abbrev wJ5_newCapacity_0f7a4 : Cond := .code yJ5_newCapacity_0f7a4 cJ5_newCapacity_0f7a4 6 (some .int)
theorem yi_J5_newCapacity_0f7a4 : o_yi yJ5_newCapacity_0f7a4 wJ5_newCapacity_0f7a4 := ⟨o_gT (i := 1106) (by decide +kernel) rfl, o_gT (i := 13) (by decide +kernel) rfl, o_gT (i := 1107) (by decide +kernel) rfl⟩
abbrev mJ8_newLength_cabcc : o_M := (RJ8, cJ8_newLength_cabcc, 4, some .int, [], "newLength")
abbrev wJ8_newLength_cabcc : Cond := .code yJ8_newLength_cabcc cJ8_newLength_cabcc 4 (some .int)
theorem ys_J8_newLength_cabcc : o_ys yJ8_newLength_cabcc wJ8_newLength_cabcc := ⟨o_gT (i := 1109) (by decide +kernel) rfl, o_gT (i := 28) (by decide +kernel) rfl, o_gT (i := 1110) (by decide +kernel) rfl⟩
abbrev mJ8_hugeLength_7cf53 : o_M := (RJ8, cJ8_hugeLength_7cf53, 3, some .int, [], "hugeLength")
abbrev wJ8_hugeLength_7cf53 : Cond := .code yJ8_hugeLength_7cf53 cJ8_hugeLength_7cf53 3 (some .int)
theorem ys_J8_hugeLength_7cf53 : o_ys yJ8_hugeLength_7cf53 wJ8_hugeLength_7cf53 := ⟨o_gT (i := 1114) (by decide +kernel) rfl, o_gT (i := 28) (by decide +kernel) rfl, o_gT (i := 1115) (by decide +kernel) rfl⟩
abbrev mJ7_copyOf_9075b : o_M := (RJ7, cJ7_copyOf_9075b, 3, some (.array .byte), [], "copyOf")
abbrev wJ7_copyOf_9075b : Cond := .code yJ7_copyOf_9075b cJ7_copyOf_9075b 3 (some (.array .byte))
theorem ys_J7_copyOf_9075b : o_ys yJ7_copyOf_9075b wJ7_copyOf_9075b := ⟨o_gT (i := 1118) (by decide +kernel) rfl, o_gT (i := 29) (by decide +kernel) rfl, o_gT (i := 1119) (by decide +kernel) rfl⟩
abbrev mJ5_isLatin1_aae02 : o_M := (RJ5, cJ5_isLatin1_aae02, 1, some .boolean, [], "isLatin1")
abbrev wJ5_isLatin1_aae02 : Cond := .code yJ5_isLatin1_aae02 cJ5_isLatin1_aae02 1 (some .boolean)
theorem yi_J5_isLatin1_aae02 : o_yi yJ5_isLatin1_aae02 wJ5_isLatin1_aae02 := ⟨o_gT (i := 1132) (by decide +kernel) rfl, o_gT (i := 13) (by decide +kernel) rfl, o_gT (i := 1135) (by decide +kernel) rfl⟩
abbrev mJ2_putCharsAt_cd4e5 : o_M := (RJ2, cJ2_putCharsAt_cd4e5, 7, some .int, [], "putCharsAt")
abbrev wJ2_putCharsAt_cd4e5 : Cond := .code yJ2_putCharsAt_cd4e5 cJ2_putCharsAt_cd4e5 7 (some .int)
theorem ys_J2_putCharsAt_cd4e5 : o_ys yJ2_putCharsAt_cd4e5 wJ2_putCharsAt_cd4e5 := ⟨o_gT (i := 1137) (by decide +kernel) rfl, o_gT (i := 16) (by decide +kernel) rfl, o_gT (i := 1138) (by decide +kernel) rfl⟩
abbrev mJ2_checkBoundsBeginEnd_d044e : o_M := (RJ2, cJ2_checkBoundsBeginEnd_d044e, 3, none, [], "checkBoundsBeginEnd")
abbrev wJ2_checkBoundsBeginEnd_d044e : Cond := .code yJ2_checkBoundsBeginEnd_d044e cJ2_checkBoundsBeginEnd_d044e 3 (none)
theorem ys_J2_checkBoundsBeginEnd_d044e : o_ys yJ2_checkBoundsBeginEnd_d044e wJ2_checkBoundsBeginEnd_d044e := ⟨o_gT (i := 1140) (by decide +kernel) rfl, o_gT (i := 16) (by decide +kernel) rfl, o_gT (i := 1141) (by decide +kernel) rfl⟩
abbrev mJ2_length_9d52b : o_M := (RJ2, cJ2_length_9d52b, 1, some .int, [], "length")
abbrev wJ2_length_9d52b : Cond := .code yJ2_length_9d52b cJ2_length_9d52b 1 (some .int)
theorem ys_J2_length_9d52b : o_ys yJ2_length_9d52b wJ2_length_9d52b := ⟨o_gT (i := 1143) (by decide +kernel) rfl, o_gT (i := 16) (by decide +kernel) rfl, o_gT (i := 1144) (by decide +kernel) rfl⟩
abbrev mJ0_checkBoundsBeginEnd_23922 : o_M := (RJ0, cJ0_checkBoundsBeginEnd_23922, 3, none, [], "checkBoundsBeginEnd")
abbrev wJ0_checkBoundsBeginEnd_23922 : Cond := .code yJ0_checkBoundsBeginEnd_23922 cJ0_checkBoundsBeginEnd_23922 3 (none)
theorem ys_J0_checkBoundsBeginEnd_23922 : o_ys yJ0_checkBoundsBeginEnd_23922 wJ0_checkBoundsBeginEnd_23922 := ⟨o_gT (i := 1146) (by decide +kernel) rfl, o_gT (i := 15) (by decide +kernel) rfl, o_gT (i := 1147) (by decide +kernel) rfl⟩
abbrev mJ3_checkFromToIndex_8c36e : o_M := (RJ3, cJ3_checkFromToIndex_8c36e, 4, some .int, [], "checkFromToIndex")
abbrev wJ3_checkFromToIndex_8c36e : Cond := .code yJ3_checkFromToIndex_8c36e cJ3_checkFromToIndex_8c36e 4 (some .int)
theorem ys_J3_checkFromToIndex_8c36e : o_ys yJ3_checkFromToIndex_8c36e wJ3_checkFromToIndex_8c36e := ⟨o_gT (i := 1151) (by decide +kernel) rfl, o_gT (i := 31) (by decide +kernel) rfl, o_gT (i := 1152) (by decide +kernel) rfl⟩
abbrev mJ2_putChar_b72d1 : o_M := (RJ2, cJ2_putChar_b72d1, 3, none, [], "putChar")
abbrev wJ2_putChar_b72d1 : Cond := .code yJ2_putChar_b72d1 cJ2_putChar_b72d1 3 (none)
theorem ys_J2_putChar_b72d1 : o_ys yJ2_putChar_b72d1 wJ2_putChar_b72d1 := ⟨o_gT (i := 1154) (by decide +kernel) rfl, o_gT (i := 16) (by decide +kernel) rfl, o_gT (i := 1155) (by decide +kernel) rfl⟩
abbrev mJ0_length_8abf5 : o_M := (RJ0, cJ0_length_8abf5, 1, some .int, [], "length")
abbrev wJ0_length_8abf5 : Cond := .code yJ0_length_8abf5 cJ0_length_8abf5 1 (some .int)
theorem yw_J0_length_8abf5 : o_yw yJ0_length_8abf5 wJ0_length_8abf5 := ⟨o_gT (i := 1163) (by decide +kernel) rfl, o_gT (i := 1164) (by decide +kernel) rfl, o_gT (i := 15) (by decide +kernel) rfl, o_gT (i := 1165) (by decide +kernel) rfl⟩
abbrev mJ0_coder_7d493 : o_M := (RJ0, cJ0_coder_7d493, 1, some .byte, [], "coder")
abbrev wJ0_coder_7d493 : Cond := .code yJ0_coder_7d493 cJ0_coder_7d493 1 (some .byte)
theorem yw_J0_coder_7d493 : o_yw yJ0_coder_7d493 wJ0_coder_7d493 := ⟨o_gT (i := 1167) (by decide +kernel) rfl, o_gT (i := 1168) (by decide +kernel) rfl, o_gT (i := 15) (by decide +kernel) rfl, o_gT (i := 1169) (by decide +kernel) rfl⟩
abbrev mJ5_putStringAt_47b60 : o_M := (RJ5, cJ5_putStringAt_47b60, 3, none, [], "putStringAt")
abbrev wJ5_putStringAt_47b60 : Cond := .code yJ5_putStringAt_47b60 cJ5_putStringAt_47b60 3 (none)
theorem yi_J5_putStringAt_47b60 : o_yi yJ5_putStringAt_47b60 wJ5_putStringAt_47b60 := ⟨o_gT (i := 1173) (by decide +kernel) rfl, o_gT (i := 13) (by decide +kernel) rfl, o_gT (i := 1174) (by decide +kernel) rfl⟩
abbrev mJ5_inflateIfNeededFor_a7421 : o_M := (RJ5, cJ5_inflateIfNeededFor_a7421, 2, none, [], "inflateIfNeededFor")
abbrev wJ5_inflateIfNeededFor_a7421 : Cond := .code yJ5_inflateIfNeededFor_a7421 cJ5_inflateIfNeededFor_a7421 2 (none)
theorem yi_J5_inflateIfNeededFor_a7421 : o_yi yJ5_inflateIfNeededFor_a7421 wJ5_inflateIfNeededFor_a7421 := ⟨o_gT (i := 1177) (by decide +kernel) rfl, o_gT (i := 13) (by decide +kernel) rfl, o_gT (i := 1178) (by decide +kernel) rfl⟩
abbrev mJ5_inflate_da8c8 : o_M := (RJ5, cJ5_inflate_da8c8, 2, none, [], "inflate")
abbrev wJ5_inflate_da8c8 : Cond := .code yJ5_inflate_da8c8 cJ5_inflate_da8c8 2 (none)
theorem yi_J5_inflate_da8c8 : o_yi yJ5_inflate_da8c8 wJ5_inflate_da8c8 := ⟨o_gT (i := 1182) (by decide +kernel) rfl, o_gT (i := 13) (by decide +kernel) rfl, o_gT (i := 1183) (by decide +kernel) rfl⟩
abbrev mJ1_inflate_0e8fd : o_M := (RJ1, cJ1_inflate_0e8fd, 5, none, [], "inflate")
abbrev wJ1_inflate_0e8fd : Cond := .code yJ1_inflate_0e8fd cJ1_inflate_0e8fd 5 (none)
theorem ys_J1_inflate_0e8fd : o_ys yJ1_inflate_0e8fd wJ1_inflate_0e8fd := ⟨o_gT (i := 1185) (by decide +kernel) rfl, o_gT (i := 32) (by decide +kernel) rfl, o_gT (i := 1186) (by decide +kernel) rfl⟩
abbrev mJ2_inflate_0e8fd : o_M := (RJ2, cJ2_inflate_0e8fd, 6, none, [], "inflate")
abbrev wJ2_inflate_0e8fd : Cond := .code yJ2_inflate_0e8fd cJ2_inflate_0e8fd 6 (none)
theorem ys_J2_inflate_0e8fd : o_ys yJ2_inflate_0e8fd wJ2_inflate_0e8fd := ⟨o_gT (i := 1188) (by decide +kernel) rfl, o_gT (i := 16) (by decide +kernel) rfl, o_gT (i := 1189) (by decide +kernel) rfl⟩
abbrev mJ2_checkBoundsOffCount_d044e : o_M := (RJ2, cJ2_checkBoundsOffCount_d044e, 3, none, [], "checkBoundsOffCount")
abbrev wJ2_checkBoundsOffCount_d044e : Cond := .code yJ2_checkBoundsOffCount_d044e cJ2_checkBoundsOffCount_d044e 3 (none)
theorem ys_J2_checkBoundsOffCount_d044e : o_ys yJ2_checkBoundsOffCount_d044e wJ2_checkBoundsOffCount_d044e := ⟨o_gT (i := 1191) (by decide +kernel) rfl, o_gT (i := 16) (by decide +kernel) rfl, o_gT (i := 1192) (by decide +kernel) rfl⟩
abbrev mJ0_checkBoundsOffCount_cabcc : o_M := (RJ0, cJ0_checkBoundsOffCount_cabcc, 3, some .int, [], "checkBoundsOffCount")
abbrev wJ0_checkBoundsOffCount_cabcc : Cond := .code yJ0_checkBoundsOffCount_cabcc cJ0_checkBoundsOffCount_cabcc 3 (some .int)
theorem ys_J0_checkBoundsOffCount_cabcc : o_ys yJ0_checkBoundsOffCount_cabcc wJ0_checkBoundsOffCount_cabcc := ⟨o_gT (i := 1194) (by decide +kernel) rfl, o_gT (i := 15) (by decide +kernel) rfl, o_gT (i := 1195) (by decide +kernel) rfl⟩
abbrev mJ3_checkFromIndexSize_8c36e : o_M := (RJ3, cJ3_checkFromIndexSize_8c36e, 4, some .int, [], "checkFromIndexSize")
abbrev wJ3_checkFromIndexSize_8c36e : Cond := .code yJ3_checkFromIndexSize_8c36e cJ3_checkFromIndexSize_8c36e 4 (some .int)
theorem ys_J3_checkFromIndexSize_8c36e : o_ys yJ3_checkFromIndexSize_8c36e wJ3_checkFromIndexSize_8c36e := ⟨o_gT (i := 1197) (by decide +kernel) rfl, o_gT (i := 31) (by decide +kernel) rfl, o_gT (i := 1198) (by decide +kernel) rfl⟩
abbrev mJ0_getBytes_840e7 : o_M := (RJ0, cJ0_getBytes_840e7, 4, none, [], "getBytes")
abbrev wJ0_getBytes_840e7 : Cond := .code yJ0_getBytes_840e7 cJ0_getBytes_840e7 4 (none)
theorem yw_J0_getBytes_840e7 : o_yw yJ0_getBytes_840e7 wJ0_getBytes_840e7 := ⟨o_gT (i := 1200) (by decide +kernel) rfl, o_gT (i := 1201) (by decide +kernel) rfl, o_gT (i := 15) (by decide +kernel) rfl, o_gT (i := 1202) (by decide +kernel) rfl⟩
abbrev mJ4_append_bf812 : o_M := (RJ4, cJ4_append_bf812, 2, some (.object "java/lang/StringBuilder"), [], "append")
abbrev wJ4_append_bf812 : Cond := .code yJ4_append_bf812 cJ4_append_bf812 2 (some (.object "java/lang/StringBuilder"))
theorem yw_J4_append_bf812 : o_yw yJ4_append_bf812 wJ4_append_bf812 := ⟨o_gT (i := 1207) (by decide +kernel) rfl, o_gT (i := 1208) (by decide +kernel) rfl, o_gT (i := 14) (by decide +kernel) rfl, o_gT (i := 1209) (by decide +kernel) rfl⟩
abbrev mJ5_append_c97b9 : o_M := (RJ5, cJ5_append_c97b9, 4, some (.object "java/lang/AbstractStringBuilder"), [], "append")
abbrev wJ5_append_c97b9 : Cond := .code yJ5_append_c97b9 cJ5_append_c97b9 4 (some (.object "java/lang/AbstractStringBuilder"))
theorem yi_J5_append_c97b9 : o_yi yJ5_append_c97b9 wJ5_append_c97b9 := ⟨o_gT (i := 1211) (by decide +kernel) rfl, o_gT (i := 13) (by decide +kernel) rfl, o_gT (i := 1212) (by decide +kernel) rfl⟩
abbrev mJ6_stringSize_0f7a4 : o_M := (RJ6, cJ6_stringSize_0f7a4, 4, some .int, [], "stringSize")
abbrev wJ6_stringSize_0f7a4 : Cond := .code yJ6_stringSize_0f7a4 cJ6_stringSize_0f7a4 4 (some .int)
theorem ys_J6_stringSize_0f7a4 : o_ys yJ6_stringSize_0f7a4 wJ6_stringSize_0f7a4 := ⟨o_gT (i := 1214) (by decide +kernel) rfl, o_gT (i := 34) (by decide +kernel) rfl, o_gT (i := 1215) (by decide +kernel) rfl⟩
abbrev mJ6_getChars_ba4f3 : o_M := (RJ6, cJ6_getChars_ba4f3, 7, some .int, [], "getChars")
abbrev wJ6_getChars_ba4f3 : Cond := .code yJ6_getChars_ba4f3 cJ6_getChars_ba4f3 7 (some .int)
theorem ys_J6_getChars_ba4f3 : o_ys yJ6_getChars_ba4f3 wJ6_getChars_ba4f3 := ⟨o_gT (i := 1217) (by decide +kernel) rfl, o_gT (i := 34) (by decide +kernel) rfl, o_gT (i := 1218) (by decide +kernel) rfl⟩
abbrev mJ2_getChars_46870 : o_M := (RJ2, cJ2_getChars_46870, 5, some .int, [], "getChars")
abbrev wJ2_getChars_46870 : Cond := .code yJ2_getChars_46870 cJ2_getChars_46870 5 (some .int)
theorem ys_J2_getChars_46870 : o_ys yJ2_getChars_46870 wJ2_getChars_46870 := ⟨o_gT (i := 1224) (by decide +kernel) rfl, o_gT (i := 16) (by decide +kernel) rfl, o_gT (i := 1225) (by decide +kernel) rfl⟩
abbrev mJ2_getChars_ba4f3 : o_M := (RJ2, cJ2_getChars_ba4f3, 7, some .int, [], "getChars")
abbrev wJ2_getChars_ba4f3 : Cond := .code yJ2_getChars_ba4f3 cJ2_getChars_ba4f3 7 (some .int)
theorem ys_J2_getChars_ba4f3 : o_ys yJ2_getChars_ba4f3 wJ2_getChars_ba4f3 := ⟨o_gT (i := 1227) (by decide +kernel) rfl, o_gT (i := 16) (by decide +kernel) rfl, o_gT (i := 1228) (by decide +kernel) rfl⟩
abbrev mJ4_toString_0e30d : o_M := (RJ4, cJ4_toString_0e30d, 1, some (.object "java/lang/String"), [], "toString")
abbrev wJ4_toString_0e30d : Cond := .code yJ4_toString_0e30d cJ4_toString_0e30d 1 (some (.object "java/lang/String"))
theorem yw_J4_toString_0e30d : o_yw yJ4_toString_0e30d wJ4_toString_0e30d := ⟨o_gT (i := 1234) (by decide +kernel) rfl, o_gT (i := 1235) (by decide +kernel) rfl, o_gT (i := 14) (by decide +kernel) rfl, o_gT (i := 1236) (by decide +kernel) rfl⟩
abbrev mJ0_init_81219 : o_M := (RJ0, cJ0_init_81219, 2, none, [], "<init>")
abbrev wJ0_init_81219 : Cond := .code yJ0_init_81219 cJ0_init_81219 2 (none)
theorem yi_J0_init_81219 : o_yi yJ0_init_81219 wJ0_init_81219 := ⟨o_gT (i := 1239) (by decide +kernel) rfl, o_gT (i := 15) (by decide +kernel) rfl, o_gT (i := 1240) (by decide +kernel) rfl⟩
abbrev mJ0_init_db425 : o_M := (RJ0, cJ0_init_db425, 5, none, [], "<init>")
abbrev wJ0_init_db425 : Cond := .code yJ0_init_db425 cJ0_init_db425 5 (none)
theorem yi_J0_init_db425 : o_yi yJ0_init_db425 wJ0_init_db425 := ⟨o_gT (i := 1242) (by decide +kernel) rfl, o_gT (i := 15) (by decide +kernel) rfl, o_gT (i := 1243) (by decide +kernel) rfl⟩
abbrev mJ5_getValue_6d5f1 : o_M := (RJ5, cJ5_getValue_6d5f1, 1, some (.array .byte), [], "getValue")
abbrev wJ5_getValue_6d5f1 : Cond := .code yJ5_getValue_6d5f1 cJ5_getValue_6d5f1 1 (some (.array .byte))
theorem yi_J5_getValue_6d5f1 : o_yi yJ5_getValue_6d5f1 wJ5_getValue_6d5f1 := ⟨o_gT (i := 1246) (by decide +kernel) rfl, o_gT (i := 13) (by decide +kernel) rfl, o_gT (i := 1249) (by decide +kernel) rfl⟩
abbrev mJ4_length_8abf5 : o_M := (RJ4, cJ4_length_8abf5, 1, some .int, [], "length")
abbrev wJ4_length_8abf5 : Cond := .code yJ4_length_8abf5 cJ4_length_8abf5 1 (some .int)
theorem yw_J4_length_8abf5 : o_yw yJ4_length_8abf5 wJ4_length_8abf5 := ⟨o_gT (i := 1254) (by decide +kernel) rfl, o_gT (i := 1568) (by decide +kernel) rfl, o_gT (i := 14) (by decide +kernel) rfl, o_gT (i := 1255) (by decide +kernel) rfl⟩
abbrev mJ5_length_8abf5 : o_M := (RJ5, cJ5_length_8abf5, 1, some .int, [], "length")
abbrev wJ5_length_8abf5 : Cond := .code yJ5_length_8abf5 cJ5_length_8abf5 1 (some .int)
theorem yi_J5_length_8abf5 : o_yi yJ5_length_8abf5 wJ5_length_8abf5 := ⟨o_gT (i := 1251) (by decide +kernel) rfl, o_gT (i := 13) (by decide +kernel) rfl, o_gT (i := 1257) (by decide +kernel) rfl⟩
abbrev mJ7_copyOfRange_39247 : o_M := (RJ7, cJ7_copyOfRange_39247, 3, some (.array .byte), [], "copyOfRange")
abbrev wJ7_copyOfRange_39247 : Cond := .code yJ7_copyOfRange_39247 cJ7_copyOfRange_39247 3 (some (.array .byte))
theorem ys_J7_copyOfRange_39247 : o_ys yJ7_copyOfRange_39247 wJ7_copyOfRange_39247 := ⟨o_gT (i := 1260) (by decide +kernel) rfl, o_gT (i := 29) (by decide +kernel) rfl, o_gT (i := 1261) (by decide +kernel) rfl⟩
abbrev mJ7_copyOfRangeByte_39247 : o_M := (RJ7, cJ7_copyOfRangeByte_39247, 5, some (.array .byte), [], "copyOfRangeByte")
abbrev wJ7_copyOfRangeByte_39247 : Cond := .code yJ7_copyOfRangeByte_39247 cJ7_copyOfRangeByte_39247 5 (some (.array .byte))
theorem ys_J7_copyOfRangeByte_39247 : o_ys yJ7_copyOfRangeByte_39247 wJ7_copyOfRangeByte_39247 := ⟨o_gT (i := 1263) (by decide +kernel) rfl, o_gT (i := 29) (by decide +kernel) rfl, o_gT (i := 1264) (by decide +kernel) rfl⟩
abbrev mJ7_checkLength_df160 : o_M := (RJ7, cJ7_checkLength_df160, 2, none, [], "checkLength")
abbrev wJ7_checkLength_df160 : Cond := .code yJ7_checkLength_df160 cJ7_checkLength_df160 2 (none)
theorem ys_J7_checkLength_df160 : o_ys yJ7_checkLength_df160 wJ7_checkLength_df160 := ⟨o_gT (i := 1266) (by decide +kernel) rfl, o_gT (i := 29) (by decide +kernel) rfl, o_gT (i := 1267) (by decide +kernel) rfl⟩
abbrev mJ2_compress_39247 : o_M := (RJ2, cJ2_compress_39247, 6, some (.array .byte), [], "compress")
abbrev wJ2_compress_39247 : Cond := .code yJ2_compress_39247 cJ2_compress_39247 6 (some (.array .byte))
theorem ys_J2_compress_39247 : o_ys yJ2_compress_39247 wJ2_compress_39247 := ⟨o_gT (i := 1277) (by decide +kernel) rfl, o_gT (i := 16) (by decide +kernel) rfl, o_gT (i := 1278) (by decide +kernel) rfl⟩
abbrev mJ2_compress_5af95 : o_M := (RJ2, cJ2_compress_5af95, 7, some .int, [], "compress")
abbrev wJ2_compress_5af95 : Cond := .code yJ2_compress_5af95 cJ2_compress_5af95 7 (some .int)
theorem ys_J2_compress_5af95 : o_ys yJ2_compress_5af95 wJ2_compress_5af95 := ⟨o_gT (i := 1280) (by decide +kernel) rfl, o_gT (i := 16) (by decide +kernel) rfl, o_gT (i := 1281) (by decide +kernel) rfl⟩
abbrev mJ2_getChar_3b067 : o_M := (RJ2, cJ2_getChar_3b067, 2, some .char, [], "getChar")
abbrev wJ2_getChar_3b067 : Cond := .code yJ2_getChar_3b067 cJ2_getChar_3b067 2 (some .char)
theorem ys_J2_getChar_3b067 : o_ys yJ2_getChar_3b067 wJ2_getChar_3b067 := ⟨o_gT (i := 1283) (by decide +kernel) rfl, o_gT (i := 16) (by decide +kernel) rfl, o_gT (i := 1284) (by decide +kernel) rfl⟩
abbrev mJ2_coderFromArrayLen_85cad : o_M := (RJ2, cJ2_coderFromArrayLen_85cad, 2, some .byte, [], "coderFromArrayLen")
abbrev wJ2_coderFromArrayLen_85cad : Cond := .code yJ2_coderFromArrayLen_85cad cJ2_coderFromArrayLen_85cad 2 (some .byte)
theorem ys_J2_coderFromArrayLen_85cad : o_ys yJ2_coderFromArrayLen_85cad wJ2_coderFromArrayLen_85cad := ⟨o_gT (i := 1287) (by decide +kernel) rfl, o_gT (i := 16) (by decide +kernel) rfl, o_gT (i := 1288) (by decide +kernel) rfl⟩
abbrev mL_isAsked : o_M := (RL, cL_isAsked, 4, some .boolean, [], "isAsked")
abbrev wL_isAsked : Cond := .code yL_isAsked cL_isAsked 4 (some .boolean)
theorem ys_L_isAsked : o_ys yL_isAsked wL_isAsked := ⟨o_gT (i := 1297) (by decide +kernel) rfl, o_gT (i := 0) (by decide +kernel) rfl, o_gT (i := 1298) (by decide +kernel) rfl⟩
abbrev mX11_writeLamps : o_M := (RX11, cX11_writeLamps, 2, some .int, [], "writeLamps")
abbrev wX11_writeLamps : Cond := .code yX11_writeLamps cX11_writeLamps 2 (some .int)
theorem yw_X11_writeLamps : o_yw yX11_writeLamps wX11_writeLamps := ⟨o_gT (i := 1301) (by decide +kernel) rfl, o_gT (i := 1302) (by decide +kernel) rfl, o_gT (i := 1) (by decide +kernel) rfl, o_gT (i := 1303) (by decide +kernel) rfl⟩
abbrev mJ4_setLength_d00df : o_M := (RJ4, cJ4_setLength_d00df, 2, none, [], "setLength")
abbrev wJ4_setLength_d00df : Cond := .code yJ4_setLength_d00df cJ4_setLength_d00df 2 (none)
theorem yw_J4_setLength_d00df : o_yw yJ4_setLength_d00df wJ4_setLength_d00df := ⟨o_gT (i := 1305) (by decide +kernel) rfl, o_gT (i := 1306) (by decide +kernel) rfl, o_gT (i := 14) (by decide +kernel) rfl, o_gT (i := 1307) (by decide +kernel) rfl⟩
abbrev mJ5_setLength_d00df : o_M := (RJ5, cJ5_setLength_d00df, 2, none, [], "setLength")
abbrev wJ5_setLength_d00df : Cond := .code yJ5_setLength_d00df cJ5_setLength_d00df 2 (none)
theorem yi_J5_setLength_d00df : o_yi yJ5_setLength_d00df wJ5_setLength_d00df := ⟨o_gT (i := 1309) (by decide +kernel) rfl, o_gT (i := 13) (by decide +kernel) rfl, o_gT (i := 1310) (by decide +kernel) rfl⟩
abbrev mJx7c733_init_d00df : o_M := (RJx7c733, cJx7c733_init_d00df, 2, none, [], "<init>")
abbrev wJx7c733_init_d00df : Cond := .code yJx7c733_init_d00df cJx7c733_init_d00df 2 (none)
theorem yi_Jx7c733_init_d00df : o_yi yJx7c733_init_d00df wJx7c733_init_d00df := ⟨o_gT (i := 1314) (by decide +kernel) rfl, o_gT (i := 35) (by decide +kernel) rfl, o_gT (i := 1315) (by decide +kernel) rfl⟩
abbrev mJ1_fillNull_b72d1 : o_M := (RJ1, cJ1_fillNull_b72d1, 3, none, [], "fillNull")
abbrev wJ1_fillNull_b72d1 : Cond := .code yJ1_fillNull_b72d1 cJ1_fillNull_b72d1 3 (none)
theorem ys_J1_fillNull_b72d1 : o_ys yJ1_fillNull_b72d1 wJ1_fillNull_b72d1 := ⟨o_gT (i := 1331) (by decide +kernel) rfl, o_gT (i := 32) (by decide +kernel) rfl, o_gT (i := 1332) (by decide +kernel) rfl⟩
abbrev mJ7_fill_eb02e : o_M := (RJ7, cJ7_fill_eb02e, 5, none, [], "fill")
abbrev wJ7_fill_eb02e : Cond := .code yJ7_fill_eb02e cJ7_fill_eb02e 5 (none)
theorem ys_J7_fill_eb02e : o_ys yJ7_fill_eb02e wJ7_fill_eb02e := ⟨o_gT (i := 1334) (by decide +kernel) rfl, o_gT (i := 29) (by decide +kernel) rfl, o_gT (i := 1335) (by decide +kernel) rfl⟩
abbrev mJ7_rangeCheck_23922 : o_M := (RJ7, cJ7_rangeCheck_23922, 3, none, [], "rangeCheck")
abbrev wJ7_rangeCheck_23922 : Cond := .code yJ7_rangeCheck_23922 cJ7_rangeCheck_23922 3 (none)
theorem ys_J7_rangeCheck_23922 : o_ys yJ7_rangeCheck_23922 wJ7_rangeCheck_23922 := ⟨o_gT (i := 1337) (by decide +kernel) rfl, o_gT (i := 29) (by decide +kernel) rfl, o_gT (i := 1338) (by decide +kernel) rfl⟩
abbrev mJx00060_init_d00df : o_M := (RJx00060, cJx00060_init_d00df, 2, none, [], "<init>")
abbrev wJx00060_init_d00df : Cond := .code yJx00060_init_d00df cJx00060_init_d00df 2 (none)
theorem yi_Jx00060_init_d00df : o_yi yJx00060_init_d00df wJx00060_init_d00df := ⟨o_gT (i := 1344) (by decide +kernel) rfl, o_gT (i := 25) (by decide +kernel) rfl, o_gT (i := 1345) (by decide +kernel) rfl⟩
abbrev mJ2_fillNull_b72d1 : o_M := (RJ2, cJ2_fillNull_b72d1, 3, none, [], "fillNull")
abbrev wJ2_fillNull_b72d1 : Cond := .code yJ2_fillNull_b72d1 cJ2_fillNull_b72d1 3 (none)
theorem ys_J2_fillNull_b72d1 : o_ys yJ2_fillNull_b72d1 wJ2_fillNull_b72d1 := ⟨o_gT (i := 1353) (by decide +kernel) rfl, o_gT (i := 16) (by decide +kernel) rfl, o_gT (i := 1354) (by decide +kernel) rfl⟩
abbrev mJ4_append_cf468 : o_M := (RJ4, cJ4_append_cf468, 2, some (.object "java/lang/StringBuilder"), [], "append")
abbrev wJ4_append_cf468 : Cond := .code yJ4_append_cf468 cJ4_append_cf468 2 (some (.object "java/lang/StringBuilder"))
theorem yw_J4_append_cf468 : o_yw yJ4_append_cf468 wJ4_append_cf468 := ⟨o_gT (i := 1357) (by decide +kernel) rfl, o_gT (i := 1358) (by decide +kernel) rfl, o_gT (i := 14) (by decide +kernel) rfl, o_gT (i := 1359) (by decide +kernel) rfl⟩
abbrev mJ5_append_3fe6f : o_M := (RJ5, cJ5_append_3fe6f, 2, some (.object "java/lang/AbstractStringBuilder"), [], "append")
abbrev wJ5_append_3fe6f : Cond := .code yJ5_append_3fe6f cJ5_append_3fe6f 2 (some (.object "java/lang/AbstractStringBuilder"))
theorem yi_J5_append_3fe6f : o_yi yJ5_append_3fe6f wJ5_append_3fe6f := ⟨o_gT (i := 1361) (by decide +kernel) rfl, o_gT (i := 13) (by decide +kernel) rfl, o_gT (i := 1362) (by decide +kernel) rfl⟩
abbrev mJ1_canEncode_fc78d : o_M := (RJ1, cJ1_canEncode_fc78d, 1, some .boolean, [], "canEncode")
abbrev wJ1_canEncode_fc78d : Cond := .code yJ1_canEncode_fc78d cJ1_canEncode_fc78d 1 (some .boolean)
theorem ys_J1_canEncode_fc78d : o_ys yJ1_canEncode_fc78d wJ1_canEncode_fc78d := ⟨o_gT (i := 1364) (by decide +kernel) rfl, o_gT (i := 32) (by decide +kernel) rfl, o_gT (i := 1365) (by decide +kernel) rfl⟩
abbrev mJ2_putCharSB_b72d1 : o_M := (RJ2, cJ2_putCharSB_b72d1, 3, none, [], "putCharSB")
abbrev wJ2_putCharSB_b72d1 : Cond := .code yJ2_putCharSB_b72d1 cJ2_putCharSB_b72d1 3 (none)
theorem ys_J2_putCharSB_b72d1 : o_ys yJ2_putCharSB_b72d1 wJ2_putCharSB_b72d1 := ⟨o_gT (i := 1367) (by decide +kernel) rfl, o_gT (i := 16) (by decide +kernel) rfl, o_gT (i := 1368) (by decide +kernel) rfl⟩
abbrev mJ2_checkIndex_2214a : o_M := (RJ2, cJ2_checkIndex_2214a, 2, none, [], "checkIndex")
abbrev wJ2_checkIndex_2214a : Cond := .code yJ2_checkIndex_2214a cJ2_checkIndex_2214a 2 (none)
theorem ys_J2_checkIndex_2214a : o_ys yJ2_checkIndex_2214a wJ2_checkIndex_2214a := ⟨o_gT (i := 1370) (by decide +kernel) rfl, o_gT (i := 16) (by decide +kernel) rfl, o_gT (i := 1371) (by decide +kernel) rfl⟩
abbrev mJ0_checkIndex_df160 : o_M := (RJ0, cJ0_checkIndex_df160, 2, none, [], "checkIndex")
abbrev wJ0_checkIndex_df160 : Cond := .code yJ0_checkIndex_df160 cJ0_checkIndex_df160 2 (none)
theorem ys_J0_checkIndex_df160 : o_ys yJ0_checkIndex_df160 wJ0_checkIndex_df160 := ⟨o_gT (i := 1373) (by decide +kernel) rfl, o_gT (i := 15) (by decide +kernel) rfl, o_gT (i := 1374) (by decide +kernel) rfl⟩
abbrev mJ3_checkIndex_8e157 : o_M := (RJ3, cJ3_checkIndex_8e157, 3, some .int, [], "checkIndex")
abbrev wJ3_checkIndex_8e157 : Cond := .code yJ3_checkIndex_8e157 cJ3_checkIndex_8e157 3 (some .int)
theorem ys_J3_checkIndex_8e157 : o_ys yJ3_checkIndex_8e157 wJ3_checkIndex_8e157 := ⟨o_gT (i := 1376) (by decide +kernel) rfl, o_gT (i := 31) (by decide +kernel) rfl, o_gT (i := 1377) (by decide +kernel) rfl⟩
abbrev mX11_describe : o_M := (RX11, cX11_describe, 2, none, [], "describe")
abbrev wX11_describe : Cond := .code yX11_describe cX11_describe 2 (none)
theorem yw_X11_describe : o_yw yX11_describe wX11_describe := ⟨o_gT (i := 1380) (by decide +kernel) rfl, o_gS (i := 26) (by decide +kernel) rfl, o_gT (i := 1) (by decide +kernel) rfl, o_gT (i := 1381) (by decide +kernel) rfl⟩
abbrev mL_spells : o_M := (RL, cL_spells, 5, some .boolean, [], "spells")
abbrev wL_spells : Cond := .code yL_spells cL_spells 5 (some .boolean)
theorem ys_L_spells : o_ys yL_spells wL_spells := ⟨o_gT (i := 1386) (by decide +kernel) rfl, o_gT (i := 0) (by decide +kernel) rfl, o_gT (i := 1387) (by decide +kernel) rfl⟩
abbrev mL_outputAt : o_M := (RL, cL_outputAt, 3, some .int, [(0, 5, 6, 29)], "outputAt")
abbrev wL_outputAt : Cond := .codeWith yL_outputAt cL_outputAt 3 (some .int) [(0, 5, 6, 29)]
theorem ys_L_outputAt : o_ys yL_outputAt wL_outputAt := ⟨o_gT (i := 1390) (by decide +kernel) rfl, o_gT (i := 0) (by decide +kernel) rfl, o_gT (i := 1391) (by decide +kernel) rfl⟩
abbrev mX11_outputChar : o_M := (RX11, cX11_outputChar, 2, some .char, [], "outputChar")
abbrev wX11_outputChar : Cond := .code yX11_outputChar cX11_outputChar 2 (some .char)
theorem yw_X11_outputChar : o_yw yX11_outputChar wX11_outputChar := ⟨o_gT (i := 1393) (by decide +kernel) rfl, o_gT (i := 1394) (by decide +kernel) rfl, o_gT (i := 1) (by decide +kernel) rfl, o_gT (i := 1395) (by decide +kernel) rfl⟩
abbrev mJ4_charAt_5068e : o_M := (RJ4, cJ4_charAt_5068e, 2, some .char, [], "charAt")
abbrev wJ4_charAt_5068e : Cond := .code yJ4_charAt_5068e cJ4_charAt_5068e 2 (some .char)
theorem yw_J4_charAt_5068e : o_yw yJ4_charAt_5068e wJ4_charAt_5068e := ⟨o_gT (i := 1398) (by decide +kernel) rfl, o_gT (i := 1399) (by decide +kernel) rfl, o_gT (i := 14) (by decide +kernel) rfl, o_gT (i := 1400) (by decide +kernel) rfl⟩
abbrev mJ5_charAt_5068e : o_M := (RJ5, cJ5_charAt_5068e, 5, some .char, [], "charAt")
abbrev wJ5_charAt_5068e : Cond := .code yJ5_charAt_5068e cJ5_charAt_5068e 5 (some .char)
theorem yi_J5_charAt_5068e : o_yi yJ5_charAt_5068e wJ5_charAt_5068e := ⟨o_gT (i := 1402) (by decide +kernel) rfl, o_gT (i := 13) (by decide +kernel) rfl, o_gT (i := 1403) (by decide +kernel) rfl⟩
abbrev mJ0_charAt_5068e : o_M := (RJ0, cJ0_charAt_5068e, 2, some .char, [], "charAt")
abbrev wJ0_charAt_5068e : Cond := .code yJ0_charAt_5068e cJ0_charAt_5068e 2 (some .char)
theorem yw_J0_charAt_5068e : o_yw yJ0_charAt_5068e wJ0_charAt_5068e := ⟨o_gT (i := 1408) (by decide +kernel) rfl, o_gT (i := 1409) (by decide +kernel) rfl, o_gT (i := 15) (by decide +kernel) rfl, o_gT (i := 1410) (by decide +kernel) rfl⟩
abbrev mJ0_isLatin1_aae02 : o_M := (RJ0, cJ0_isLatin1_aae02, 1, some .boolean, [], "isLatin1")
abbrev wJ0_isLatin1_aae02 : Cond := .code yJ0_isLatin1_aae02 cJ0_isLatin1_aae02 1 (some .boolean)
theorem yw_J0_isLatin1_aae02 : o_yw yJ0_isLatin1_aae02 wJ0_isLatin1_aae02 := ⟨o_gT (i := 1412) (by decide +kernel) rfl, o_gT (i := 1413) (by decide +kernel) rfl, o_gT (i := 15) (by decide +kernel) rfl, o_gT (i := 1414) (by decide +kernel) rfl⟩
abbrev mJ1_charAt_3b067 : o_M := (RJ1, cJ1_charAt_3b067, 2, some .char, [], "charAt")
abbrev wJ1_charAt_3b067 : Cond := .code yJ1_charAt_3b067 cJ1_charAt_3b067 2 (some .char)
theorem ys_J1_charAt_3b067 : o_ys yJ1_charAt_3b067 wJ1_charAt_3b067 := ⟨o_gT (i := 1416) (by decide +kernel) rfl, o_gT (i := 32) (by decide +kernel) rfl, o_gT (i := 1417) (by decide +kernel) rfl⟩
abbrev mJ2_charAt_3b067 : o_M := (RJ2, cJ2_charAt_3b067, 2, some .char, [], "charAt")
abbrev wJ2_charAt_3b067 : Cond := .code yJ2_charAt_3b067 cJ2_charAt_3b067 2 (some .char)
theorem ys_J2_charAt_3b067 : o_ys yJ2_charAt_3b067 wJ2_charAt_3b067 := ⟨o_gT (i := 1420) (by decide +kernel) rfl, o_gT (i := 16) (by decide +kernel) rfl, o_gT (i := 1421) (by decide +kernel) rfl⟩
abbrev mL_undone : o_M := (RL, cL_undone, 8, some .boolean, [], "undone")
abbrev wL_undone : Cond := .code yL_undone cL_undone 8 (some .boolean)
theorem ys_L_undone : o_ys yL_undone wL_undone := ⟨o_gT (i := 1423) (by decide +kernel) rfl, o_gT (i := 0) (by decide +kernel) rfl, o_gT (i := 1424) (by decide +kernel) rfl⟩
abbrev mL_sum : o_M := (RL, cL_sum, 4, some .long, [], "sum")
abbrev wL_sum : Cond := .code yL_sum cL_sum 4 (some .long)
theorem ys_L_sum : o_ys yL_sum wL_sum := ⟨o_gT (i := 1426) (by decide +kernel) rfl, o_gT (i := 0) (by decide +kernel) rfl, o_gT (i := 1427) (by decide +kernel) rfl⟩
abbrev mX11_refusedRenewals : o_M := (RX11, cX11_refusedRenewals, 1, some .int, [], "refusedRenewals")
abbrev wX11_refusedRenewals : Cond := .code yX11_refusedRenewals cX11_refusedRenewals 1 (some .int)
theorem yw_X11_refusedRenewals : o_yw yX11_refusedRenewals wX11_refusedRenewals := ⟨o_gT (i := 1431) (by decide +kernel) rfl, o_gT (i := 1432) (by decide +kernel) rfl, o_gT (i := 1) (by decide +kernel) rfl, o_gT (i := 1433) (by decide +kernel) rfl⟩
abbrev mL_run : o_M := (RL, cL_run, 3, some .int, [], "run")
abbrev wL_run : Cond := .code yL_run cL_run 3 (some .int)
theorem ys_L_run : o_ys yL_run wL_run := ⟨o_gT (i := 1443) (by decide +kernel) rfl, o_gT (i := 0) (by decide +kernel) rfl, o_gT (i := 1444) (by decide +kernel) rfl⟩
abbrev mL_feed : o_M := (RL, cL_feed, 3, some .int, [(0, 5, 6, 14)], "feed")
abbrev wL_feed : Cond := .codeWith yL_feed cL_feed 3 (some .int) [(0, 5, 6, 14)]
theorem ys_L_feed : o_ys yL_feed wL_feed := ⟨o_gT (i := 1446) (by decide +kernel) rfl, o_gT (i := 0) (by decide +kernel) rfl, o_gT (i := 1447) (by decide +kernel) rfl⟩
abbrev mX11_feed : o_M := (RX11, cX11_feed, 2, some .int, [], "feed")
abbrev wX11_feed : Cond := .code yX11_feed cX11_feed 2 (some .int)
theorem yw_X11_feed : o_yw yX11_feed wX11_feed := ⟨o_gT (i := 1449) (by decide +kernel) rfl, o_gT (i := 1450) (by decide +kernel) rfl, o_gT (i := 1) (by decide +kernel) rfl, o_gT (i := 1451) (by decide +kernel) rfl⟩
abbrev mX2_append : o_M := (RX2, cX2_append, 2, some .int, [], "append")
abbrev wX2_append : Cond := .code yX2_append cX2_append 2 (some .int)
theorem yw_X2_append : o_yw yX2_append wX2_append := ⟨o_gT (i := 1454) (by decide +kernel) rfl, o_gT (i := 1455) (by decide +kernel) rfl, o_gT (i := 9) (by decide +kernel) rfl, o_gT (i := 1456) (by decide +kernel) rfl⟩
abbrev mL_runs : o_M := (RL, cL_runs, 2, some .int, [(0, 4, 5, 20), (0, 4, 8, 31)], "runs")
abbrev wL_runs : Cond := .codeWith yL_runs cL_runs 2 (some .int) [(0, 4, 5, 20), (0, 4, 8, 31)]
theorem ys_L_runs : o_ys yL_runs wL_runs := ⟨o_gT (i := 1458) (by decide +kernel) rfl, o_gT (i := 0) (by decide +kernel) rfl, o_gT (i := 1459) (by decide +kernel) rfl⟩
abbrev mX11_runCommands : o_M := (RX11, cX11_runCommands, 4, some .int, [], "runCommands")
abbrev wX11_runCommands : Cond := .code yX11_runCommands cX11_runCommands 4 (some .int)
theorem yw_X11_runCommands : o_yw yX11_runCommands wX11_runCommands := ⟨o_gT (i := 1461) (by decide +kernel) rfl, o_gT (i := 1462) (by decide +kernel) rfl, o_gT (i := 1) (by decide +kernel) rfl, o_gT (i := 1463) (by decide +kernel) rfl⟩
abbrev mX2_parse : o_M := (RX2, cX2_parse, 2, some .boolean, [], "parse")
abbrev wX2_parse : Cond := .code yX2_parse cX2_parse 2 (some .boolean)
theorem yw_X2_parse : o_yw yX2_parse wX2_parse := ⟨o_gT (i := 1465) (by decide +kernel) rfl, o_gT (i := 1466) (by decide +kernel) rfl, o_gT (i := 9) (by decide +kernel) rfl, o_gT (i := 1467) (by decide +kernel) rfl⟩
abbrev mX2_readCommand : o_M := (RX2, cX2_readCommand, 5, some .boolean, [], "readCommand")
abbrev wX2_readCommand : Cond := .code yX2_readCommand cX2_readCommand 5 (some .boolean)
theorem yw_X2_readCommand : o_yw yX2_readCommand wX2_readCommand := ⟨o_gT (i := 1470) (by decide +kernel) rfl, o_gS (i := 27) (by decide +kernel) rfl, o_gT (i := 9) (by decide +kernel) rfl, o_gT (i := 1471) (by decide +kernel) rfl⟩
abbrev mX2_readKeyword : o_M := (RX2, cX2_readKeyword, 5, some (.object "LampLeaseOffice$Keyword"), [], "readKeyword")
abbrev wX2_readKeyword : Cond := .code yX2_readKeyword cX2_readKeyword 5 (some (.object "LampLeaseOffice$Keyword"))
theorem yw_X2_readKeyword : o_yw yX2_readKeyword wX2_readKeyword := ⟨o_gT (i := 1474) (by decide +kernel) rfl, o_gS (i := 28) (by decide +kernel) rfl, o_gT (i := 9) (by decide +kernel) rfl, o_gT (i := 1475) (by decide +kernel) rfl⟩
abbrev mX2_commonLetters : o_M := (RX2, cX2_commonLetters, 3, some .int, [], "commonLetters")
abbrev wX2_commonLetters : Cond := .code yX2_commonLetters cX2_commonLetters 3 (some .int)
theorem yw_X2_commonLetters : o_yw yX2_commonLetters wX2_commonLetters := ⟨o_gT (i := 1480) (by decide +kernel) rfl, o_gS (i := 29) (by decide +kernel) rfl, o_gT (i := 9) (by decide +kernel) rfl, o_gT (i := 1481) (by decide +kernel) rfl⟩
abbrev mX2_isAt : o_M := (RX2, cX2_isAt, 2, some .boolean, [], "isAt")
abbrev wX2_isAt : Cond := .code yX2_isAt cX2_isAt 2 (some .boolean)
theorem yw_X2_isAt : o_yw yX2_isAt wX2_isAt := ⟨o_gT (i := 1487) (by decide +kernel) rfl, o_gS (i := 30) (by decide +kernel) rfl, o_gT (i := 9) (by decide +kernel) rfl, o_gT (i := 1488) (by decide +kernel) rfl⟩
abbrev mX1_put : o_M := (RX1, cX1_put, 3, none, [], "put")
abbrev wX1_put : Cond := .code yX1_put cX1_put 3 (none)
theorem yw_X1_put : o_yw yX1_put wX1_put := ⟨o_gT (i := 1490) (by decide +kernel) rfl, o_gT (i := 1491) (by decide +kernel) rfl, o_gT (i := 10) (by decide +kernel) rfl, o_gT (i := 1492) (by decide +kernel) rfl⟩
abbrev mX2_readBlankAndNumber : o_M := (RX2, cX2_readBlankAndNumber, 4, some .int, [], "readBlankAndNumber")
abbrev wX2_readBlankAndNumber : Cond := .code yX2_readBlankAndNumber cX2_readBlankAndNumber 4 (some .int)
theorem yw_X2_readBlankAndNumber : o_yw yX2_readBlankAndNumber wX2_readBlankAndNumber := ⟨o_gT (i := 1495) (by decide +kernel) rfl, o_gS (i := 31) (by decide +kernel) rfl, o_gT (i := 9) (by decide +kernel) rfl, o_gT (i := 1496) (by decide +kernel) rfl⟩
abbrev mX2_isAtDigit : o_M := (RX2, cX2_isAtDigit, 1, some .boolean, [], "isAtDigit")
abbrev wX2_isAtDigit : Cond := .code yX2_isAtDigit cX2_isAtDigit 1 (some .boolean)
theorem yw_X2_isAtDigit : o_yw yX2_isAtDigit wX2_isAtDigit := ⟨o_gT (i := 1499) (by decide +kernel) rfl, o_gS (i := 32) (by decide +kernel) rfl, o_gT (i := 9) (by decide +kernel) rfl, o_gT (i := 1500) (by decide +kernel) rfl⟩
abbrev mX2_clear : o_M := (RX2, cX2_clear, 1, none, [], "clear")
abbrev wX2_clear : Cond := .code yX2_clear cX2_clear 1 (none)
theorem yw_X2_clear : o_yw yX2_clear wX2_clear := ⟨o_gT (i := 1502) (by decide +kernel) rfl, o_gT (i := 1503) (by decide +kernel) rfl, o_gT (i := 9) (by decide +kernel) rfl, o_gT (i := 1504) (by decide +kernel) rfl⟩
abbrev mX11_faultOf : o_M := (RX11, cX11_faultOf, 2, some .char, [], "faultOf")
abbrev wX11_faultOf : Cond := .code yX11_faultOf cX11_faultOf 2 (some .char)
theorem yw_X11_faultOf : o_yw yX11_faultOf wX11_faultOf := ⟨o_gT (i := 1509) (by decide +kernel) rfl, o_gS (i := 33) (by decide +kernel) rfl, o_gT (i := 1) (by decide +kernel) rfl, o_gT (i := 1510) (by decide +kernel) rfl⟩
abbrev mJx29ce0_ordinal_8abf5 : o_M := (RJx29ce0, cJx29ce0_ordinal_8abf5, 1, some .int, [], "ordinal")
abbrev wJx29ce0_ordinal_8abf5 : Cond := .code yJx29ce0_ordinal_8abf5 cJx29ce0_ordinal_8abf5 1 (some .int)
theorem yi_Jx29ce0_ordinal_8abf5 : o_yi yJx29ce0_ordinal_8abf5 wJx29ce0_ordinal_8abf5 := ⟨o_gT (i := 1517) (by decide +kernel) rfl, o_gT (i := 11) (by decide +kernel) rfl, o_gT (i := 1518) (by decide +kernel) rfl⟩
abbrev mX1_first : o_M := (RX1, cX1_first, 1, some .int, [], "first")
abbrev wX1_first : Cond := .code yX1_first cX1_first 1 (some .int)
theorem yw_X1_first : o_yw yX1_first wX1_first := ⟨o_gT (i := 1520) (by decide +kernel) rfl, o_gT (i := 1521) (by decide +kernel) rfl, o_gT (i := 10) (by decide +kernel) rfl, o_gT (i := 1522) (by decide +kernel) rfl⟩
abbrev mX1_second : o_M := (RX1, cX1_second, 1, some .int, [], "second")
abbrev wX1_second : Cond := .code yX1_second cX1_second 1 (some .int)
theorem yw_X1_second : o_yw yX1_second wX1_second := ⟨o_gT (i := 1524) (by decide +kernel) rfl, o_gT (i := 1525) (by decide +kernel) rfl, o_gT (i := 10) (by decide +kernel) rfl, o_gT (i := 1526) (by decide +kernel) rfl⟩
abbrev mX1_third : o_M := (RX1, cX1_third, 1, some .int, [], "third")
abbrev wX1_third : Cond := .code yX1_third cX1_third 1 (some .int)
theorem yw_X1_third : o_yw yX1_third wX1_third := ⟨o_gT (i := 1528) (by decide +kernel) rfl, o_gT (i := 1529) (by decide +kernel) rfl, o_gT (i := 10) (by decide +kernel) rfl, o_gT (i := 1530) (by decide +kernel) rfl⟩
abbrev mX11_carryOut : o_M := (RX11, cX11_carryOut, 2, none, [], "carryOut")
abbrev wX11_carryOut : Cond := .code yX11_carryOut cX11_carryOut 2 (none)
theorem yw_X11_carryOut : o_yw yX11_carryOut wX11_carryOut := ⟨o_gT (i := 1534) (by decide +kernel) rfl, o_gS (i := 34) (by decide +kernel) rfl, o_gT (i := 1) (by decide +kernel) rfl, o_gT (i := 1535) (by decide +kernel) rfl⟩
abbrev mX11_undoCount : o_M := (RX11, cX11_undoCount, 1, some .int, [], "undoCount")
abbrev wX11_undoCount : Cond := .code yX11_undoCount cX11_undoCount 1 (some .int)
theorem yw_X11_undoCount : o_yw yX11_undoCount wX11_undoCount := ⟨o_gT (i := 1541) (by decide +kernel) rfl, o_gT (i := 1542) (by decide +kernel) rfl, o_gT (i := 1) (by decide +kernel) rfl, o_gT (i := 1543) (by decide +kernel) rfl⟩
abbrev mL_undo : o_M := (RL, cL_undo, 2, some .int, [(0, 4, 5, 14)], "undo")
abbrev wL_undo : Cond := .codeWith yL_undo cL_undo 2 (some .int) [(0, 4, 5, 14)]
theorem ys_L_undo : o_ys yL_undo wL_undo := ⟨o_gT (i := 1545) (by decide +kernel) rfl, o_gT (i := 0) (by decide +kernel) rfl, o_gT (i := 1546) (by decide +kernel) rfl⟩
abbrev mX11_undo : o_M := (RX11, cX11_undo, 1, some .int, [], "undo")
abbrev wX11_undo : Cond := .code yX11_undo cX11_undo 1 (some .int)
theorem yw_X11_undo : o_yw yX11_undo wX11_undo := ⟨o_gT (i := 1548) (by decide +kernel) rfl, o_gT (i := 1549) (by decide +kernel) rfl, o_gT (i := 1) (by decide +kernel) rfl, o_gT (i := 1550) (by decide +kernel) rfl⟩
abbrev mX5_popInto : o_M := (RX5, cX5_popInto, 2, none, [], "popInto")
abbrev wX5_popInto : Cond := .code yX5_popInto cX5_popInto 2 (none)
theorem yw_X5_popInto : o_yw yX5_popInto wX5_popInto := ⟨o_gT (i := 1553) (by decide +kernel) rfl, o_gT (i := 1554) (by decide +kernel) rfl, o_gT (i := 6) (by decide +kernel) rfl, o_gT (i := 1555) (by decide +kernel) rfl⟩
theorem ml_L_174 : Cond.methodLink RL 174 yL_drawn ∈ o_gW := o_gT (i := 37) (by decide +kernel) rfl
theorem ml_L_144 : Cond.methodLink RL 144 yX11_init ∈ o_gW := o_gT (i := 42) (by decide +kernel) rfl
theorem ml_X11_24 : Cond.methodLink RX11 24 yX5_init ∈ o_gW := o_gT (i := 182) (by decide +kernel) rfl
theorem ml_X11_45 : Cond.methodLink RX11 45 yX2_init ∈ o_gW := o_gT (i := 231) (by decide +kernel) rfl
theorem ml_X11_52 : Cond.methodLink RX11 52 yJ4_init_da8c8 ∈ o_gW := o_gT (i := 276) (by decide +kernel) rfl
theorem ml_J4_1 : Cond.methodLink RJ4 1 yJ5_init_d00df ∈ o_gW := o_gT (i := 279) (by decide +kernel) rfl
theorem ml_J5_26 : Cond.methodLink RJ5 26 yJ2_newBytesFor_77867 ∈ o_gW := o_gT (i := 285) (by decide +kernel) rfl
theorem ml_J2_11 : Cond.methodLink RJ2 11 yJ2_newBytesLength_0f7a4 ∈ o_gW := o_gT (i := 288) (by decide +kernel) rfl
theorem ml_L_145 : Cond.methodLink RL 145 yL_cell ∈ o_gW := o_gT (i := 343) (by decide +kernel) rfl
theorem ml_L_149 : Cond.methodLink RL 149 yL_addShip ∈ o_gW := o_gT (i := 347) (by decide +kernel) rfl
theorem ml_L_8 : Cond.methodLink RL 8 yX11_addShip ∈ o_gW := o_gT (i := 351) (by decide +kernel) rfl
theorem ml_X11_68 : Cond.methodLink RX11 68 yX10_faultOfNewShip ∈ o_gW := o_gT (i := 355) (by decide +kernel) rfl
theorem ml_X11_72 : Cond.methodLink RX11 72 yX11_throwFor ∈ o_gW := o_gT (i := 359) (by decide +kernel) rfl
theorem ml_X11_76 : Cond.methodLink RX11 76 yX5_push ∈ o_gW := o_gT (i := 498) (by decide +kernel) rfl
theorem ml_X5_25 : Cond.methodLink RX5 25 yX10_copyFrom ∈ o_gW := o_gT (i := 502) (by decide +kernel) rfl
theorem ml_X10_148 : Cond.methodLink RX10 148 yX9_copyFrom ∈ o_gW := o_gT (i := 506) (by decide +kernel) rfl
theorem ml_X10_152 : Cond.methodLink RX10 152 yX7_copyFrom ∈ o_gW := o_gT (i := 510) (by decide +kernel) rfl
theorem ml_X10_155 : Cond.methodLink RX10 155 yX8_copyFrom ∈ o_gW := o_gT (i := 514) (by decide +kernel) rfl
theorem ml_X11_84 : Cond.methodLink RX11 84 yX9_append ∈ o_gW := o_gT (i := 518) (by decide +kernel) rfl
theorem ml_L_151 : Cond.methodLink RL 151 yL_addLamp ∈ o_gW := o_gT (i := 522) (by decide +kernel) rfl
theorem ml_L_16 : Cond.methodLink RL 16 yX11_addLamp ∈ o_gW := o_gT (i := 526) (by decide +kernel) rfl
theorem ml_X11_90 : Cond.methodLink RX11 90 yX10_faultOfNewLamp ∈ o_gW := o_gT (i := 530) (by decide +kernel) rfl
theorem ml_X11_98 : Cond.methodLink RX11 98 yX7_append ∈ o_gW := o_gT (i := 534) (by decide +kernel) rfl
theorem ml_L_154 : Cond.methodLink RL 154 yL_addOil ∈ o_gW := o_gT (i := 538) (by decide +kernel) rfl
theorem ml_L_22 : Cond.methodLink RL 22 yX11_addOil ∈ o_gW := o_gT (i := 541) (by decide +kernel) rfl
theorem ml_X11_103 : Cond.methodLink RX11 103 yX10_faultOfNewOil ∈ o_gW := o_gT (i := 545) (by decide +kernel) rfl
theorem ml_X11_106 : Cond.methodLink RX11 106 yX10_fillUp ∈ o_gW := o_gT (i := 549) (by decide +kernel) rfl
theorem ml_L_156 : Cond.methodLink RL 156 yL_lease ∈ o_gW := o_gT (i := 553) (by decide +kernel) rfl
theorem ml_L_25 : Cond.methodLink RL 25 yX11_lease ∈ o_gW := o_gT (i := 578) (by decide +kernel) rfl
theorem ml_X11_109 : Cond.methodLink RX11 109 yX10_faultOfLease ∈ o_gW := o_gT (i := 582) (by decide +kernel) rfl
theorem ml_X10_40 : Cond.methodLink RX10 40 yX9_exists ∈ o_gW := o_gT (i := 586) (by decide +kernel) rfl
theorem ml_X10_44 : Cond.methodLink RX10 44 yX7_exists ∈ o_gW := o_gT (i := 590) (by decide +kernel) rfl
theorem ml_X10_45 : Cond.methodLink RX10 45 yX10_isNoLeaseTime ∈ o_gW := o_gT (i := 594) (by decide +kernel) rfl
theorem ml_X10_48 : Cond.methodLink RX10 48 yX7_isTaken ∈ o_gW := o_gT (i := 597) (by decide +kernel) rfl
theorem ml_X10_51 : Cond.methodLink RX10 51 yX10_price ∈ o_gW := o_gT (i := 601) (by decide +kernel) rfl
theorem ml_X10_55 : Cond.methodLink RX10 55 yX9_canPay ∈ o_gW := o_gT (i := 605) (by decide +kernel) rfl
theorem ml_X11_113 : Cond.methodLink RX11 113 yX10_leaseOut ∈ o_gW := o_gT (i := 609) (by decide +kernel) rfl
theorem ml_X10_67 : Cond.methodLink RX10 67 yX10_payOffice ∈ o_gW := o_gT (i := 613) (by decide +kernel) rfl
theorem ml_L_159 : Cond.methodLink RL 159 yL_renew ∈ o_gW := o_gT (i := 617) (by decide +kernel) rfl
theorem ml_L_33 : Cond.methodLink RL 33 yX11_requestRenewal ∈ o_gW := o_gT (i := 621) (by decide +kernel) rfl
theorem ml_X11_117 : Cond.methodLink RX11 117 yX10_faultOfRequest ∈ o_gW := o_gT (i := 625) (by decide +kernel) rfl
theorem ml_X10_59 : Cond.methodLink RX10 59 yX8_positionOf ∈ o_gW := o_gT (i := 629) (by decide +kernel) rfl
theorem ml_X11_125 : Cond.methodLink RX11 125 yX8_append ∈ o_gW := o_gT (i := 633) (by decide +kernel) rfl
theorem ml_L_163 : Cond.methodLink RL 163 yL_pass ∈ o_gW := o_gT (i := 637) (by decide +kernel) rfl
theorem ml_L_42 : Cond.methodLink RL 42 yX11_passHours ∈ o_gW := o_gT (i := 640) (by decide +kernel) rfl
theorem ml_X11_136 : Cond.methodLink RX11 136 yX10_faultOfWait ∈ o_gW := o_gT (i := 644) (by decide +kernel) rfl
theorem ml_X11_139 : Cond.methodLink RX11 139 yX10_letPass ∈ o_gW := o_gT (i := 648) (by decide +kernel) rfl
theorem ml_X10_90 : Cond.methodLink RX10 90 yX10_passOneHour ∈ o_gW := o_gT (i := 652) (by decide +kernel) rfl
theorem ml_X10_94 : Cond.methodLink RX10 94 yX10_processRequests ∈ o_gW := o_gT (i := 656) (by decide +kernel) rfl
theorem ml_X10_112 : Cond.methodLink RX10 112 yX10_renewOrRefuse ∈ o_gW := o_gT (i := 660) (by decide +kernel) rfl
theorem ml_X10_115 : Cond.methodLink RX10 115 yX8_clear ∈ o_gW := o_gT (i := 664) (by decide +kernel) rfl
theorem ml_X10_97 : Cond.methodLink RX10 97 yX10_burn ∈ o_gW := o_gT (i := 668) (by decide +kernel) rfl
theorem ml_X10_100 : Cond.methodLink RX10 100 yX10_fineDarkShips ∈ o_gW := o_gT (i := 672) (by decide +kernel) rfl
theorem ml_X10_128 : Cond.methodLink RX10 128 yX7_countOf ∈ o_gW := o_gT (i := 676) (by decide +kernel) rfl
theorem ml_X7_36 : Cond.methodLink RX7 36 yX7_isTakenBy ∈ o_gW := o_gT (i := 680) (by decide +kernel) rfl
theorem ml_X10_131 : Cond.methodLink RX10 131 yX7_anyBrightOf ∈ o_gW := o_gT (i := 684) (by decide +kernel) rfl
theorem ml_X10_134 : Cond.methodLink RX10 134 yJ9_min_7cf53 ∈ o_gW := o_gT (i := 688) (by decide +kernel) rfl
theorem ml_X10_103 : Cond.methodLink RX10 103 yX10_endLeases ∈ o_gW := o_gT (i := 691) (by decide +kernel) rfl
theorem ml_X10_145 : Cond.methodLink RX10 145 yX10_takeBack ∈ o_gW := o_gT (i := 695) (by decide +kernel) rfl
theorem ml_X10_86 : Cond.methodLink RX10 86 yX8_removeFor ∈ o_gW := o_gT (i := 699) (by decide +kernel) rfl
theorem ml_L_166 : Cond.methodLink RL 166 yL_giveUp ∈ o_gW := o_gT (i := 703) (by decide +kernel) rfl
theorem ml_L_39 : Cond.methodLink RL 39 yX11_giveUp ∈ o_gW := o_gT (i := 706) (by decide +kernel) rfl
theorem ml_X11_130 : Cond.methodLink RX11 130 yX10_faultOfUnleased ∈ o_gW := o_gT (i := 710) (by decide +kernel) rfl
theorem ml_X11_133 : Cond.methodLink RX11 133 yX10_takeBack ∈ o_gW := o_gT (i := 714) (by decide +kernel) rfl
theorem ml_L_178 : Cond.methodLink RL 178 yL_ships ∈ o_gW := o_gT (i := 715) (by decide +kernel) rfl
theorem ml_L_195 : Cond.methodLink RL 195 yX11_shipCount ∈ o_gW := o_gT (i := 718) (by decide +kernel) rfl
theorem ml_L_198 : Cond.methodLink RL 198 yX11_consumption ∈ o_gW := o_gT (i := 722) (by decide +kernel) rfl
theorem ml_X11_198 : Cond.methodLink RX11 198 yX7_demandOfAll ∈ o_gW := o_gT (i := 726) (by decide +kernel) rfl
theorem ml_X7_32 : Cond.methodLink RX7 32 yX7_isTaken ∈ o_gW := o_gT (i := 730) (by decide +kernel) rfl
theorem ml_L_171 : Cond.methodLink RL 171 yX11_lampCount ∈ o_gW := o_gT (i := 731) (by decide +kernel) rfl
theorem ml_L_201 : Cond.methodLink RL 201 yL_lessee ∈ o_gW := o_gT (i := 735) (by decide +kernel) rfl
theorem ml_L_67 : Cond.methodLink RL 67 yX11_lessee ∈ o_gW := o_gT (i := 738) (by decide +kernel) rfl
theorem ml_L_60 : Cond.methodLink RL 60 yX11_level ∈ o_gW := o_gT (i := 742) (by decide +kernel) rfl
theorem ml_X11_169 : Cond.methodLink RX11 169 yX11_throwUnlessLamp ∈ o_gW := o_gT (i := 746) (by decide +kernel) rfl
theorem ml_X11_403 : Cond.methodLink RX11 403 yX7_exists ∈ o_gW := o_gT (i := 750) (by decide +kernel) rfl
theorem ml_L_203 : Cond.methodLink RL 203 yL_share ∈ o_gW := o_gT (i := 752) (by decide +kernel) rfl
theorem ml_L_85 : Cond.methodLink RL 85 yX11_share ∈ o_gW := o_gT (i := 755) (by decide +kernel) rfl
theorem ml_X11_148 : Cond.methodLink RX11 148 yX11_throwUnlessShip ∈ o_gW := o_gT (i := 759) (by decide +kernel) rfl
theorem ml_X11_398 : Cond.methodLink RX11 398 yX9_exists ∈ o_gW := o_gT (i := 763) (by decide +kernel) rfl
theorem ml_X11_220 : Cond.methodLink RX11 220 yX3_shareByGiving ∈ o_gW := o_gT (i := 765) (by decide +kernel) rfl
theorem ml_X3_28 : Cond.methodLink RX3 28 yX9_exists ∈ o_gW := o_gT (i := 769) (by decide +kernel) rfl
theorem ml_X3_34 : Cond.methodLink RX3 34 yX3_divideRoundedDown ∈ o_gW := o_gT (i := 770) (by decide +kernel) rfl
theorem ml_X3_57 : Cond.methodLink RX3 57 yX7_demandOfAll ∈ o_gW := o_gT (i := 774) (by decide +kernel) rfl
theorem ml_X3_66 : Cond.methodLink RX3 66 yX7_demandOf ∈ o_gW := o_gT (i := 775) (by decide +kernel) rfl
theorem ml_X3_45 : Cond.methodLink RX3 45 yX3_giveOneUnit ∈ o_gW := o_gT (i := 779) (by decide +kernel) rfl
theorem ml_L_168 : Cond.methodLink RL 168 yX11_oil ∈ o_gW := o_gT (i := 783) (by decide +kernel) rfl
theorem ml_L_205 : Cond.methodLink RL 205 yL_byRank ∈ o_gW := o_gT (i := 787) (by decide +kernel) rfl
theorem ml_L_88 : Cond.methodLink RL 88 yX11_shareByRank ∈ o_gW := o_gT (i := 790) (by decide +kernel) rfl
theorem ml_X11_224 : Cond.methodLink RX11 224 yX3_shareByRemainderRank ∈ o_gW := o_gT (i := 794) (by decide +kernel) rfl
theorem ml_X3_49 : Cond.methodLink RX3 49 yX3_rankOf ∈ o_gW := o_gT (i := 798) (by decide +kernel) rfl
theorem ml_L_208 : Cond.methodLink RL 208 yL_byFines ∈ o_gW := o_gT (i := 802) (by decide +kernel) rfl
theorem ml_L_97 : Cond.methodLink RL 97 yX11_shipByFines ∈ o_gW := o_gT (i := 805) (by decide +kernel) rfl
theorem ml_X11_242 : Cond.methodLink RX11 242 yX9_atRank ∈ o_gW := o_gT (i := 809) (by decide +kernel) rfl
theorem ml_X9_25 : Cond.methodLink RX9 25 yX9_rankOf ∈ o_gW := o_gT (i := 813) (by decide +kernel) rfl
theorem ml_X9_29 : Cond.methodLink RX9 29 yX9_isBefore ∈ o_gW := o_gT (i := 817) (by decide +kernel) rfl
theorem ml_X11_205 : Cond.methodLink RX11 205 yX11_throwIfNothing ∈ o_gW := o_gT (i := 821) (by decide +kernel) rfl
theorem ml_L_211 : Cond.methodLink RL 211 yL_fines ∈ o_gW := o_gT (i := 825) (by decide +kernel) rfl
theorem ml_L_48 : Cond.methodLink RL 48 yX11_finesPaid ∈ o_gW := o_gT (i := 828) (by decide +kernel) rfl
theorem ml_L_214 : Cond.methodLink RL 214 yL_coins ∈ o_gW := o_gT (i := 832) (by decide +kernel) rfl
theorem ml_L_45 : Cond.methodLink RL 45 yX11_coins ∈ o_gW := o_gT (i := 835) (by decide +kernel) rfl
theorem ml_L_216 : Cond.methodLink RL 216 yL_demand ∈ o_gW := o_gT (i := 839) (by decide +kernel) rfl
theorem ml_L_54 : Cond.methodLink RL 54 yX11_demand ∈ o_gW := o_gT (i := 842) (by decide +kernel) rfl
theorem ml_X11_162 : Cond.methodLink RX11 162 yX7_demandOf ∈ o_gW := o_gT (i := 846) (by decide +kernel) rfl
theorem ml_L_218 : Cond.methodLink RL 218 yL_leases ∈ o_gW := o_gT (i := 847) (by decide +kernel) rfl
theorem ml_L_57 : Cond.methodLink RL 57 yX11_leasesOf ∈ o_gW := o_gT (i := 850) (by decide +kernel) rfl
theorem ml_X11_165 : Cond.methodLink RX11 165 yX7_countOf ∈ o_gW := o_gT (i := 854) (by decide +kernel) rfl
theorem ml_L_221 : Cond.methodLink RL 221 yX11_officeCoins ∈ o_gW := o_gT (i := 855) (by decide +kernel) rfl
theorem ml_L_224 : Cond.methodLink RL 224 yX11_meanCoins ∈ o_gW := o_gT (i := 859) (by decide +kernel) rfl
theorem ml_X11_253 : Cond.methodLink RX11 253 yX9_sumOfCoins ∈ o_gW := o_gT (i := 879) (by decide +kernel) rfl
theorem ml_L_228 : Cond.methodLink RL 228 yL_dark ∈ o_gW := o_gT (i := 883) (by decide +kernel) rfl
theorem ml_L_51 : Cond.methodLink RL 51 yX11_darkHours ∈ o_gW := o_gT (i := 886) (by decide +kernel) rfl
theorem ml_L_182 : Cond.methodLink RL 182 yL_oils ∈ o_gW := o_gT (i := 890) (by decide +kernel) rfl
theorem ml_L_231 : Cond.methodLink RL 231 yL_end ∈ o_gW := o_gT (i := 893) (by decide +kernel) rfl
theorem ml_L_70 : Cond.methodLink RL 70 yX11_endHour ∈ o_gW := o_gT (i := 896) (by decide +kernel) rfl
theorem ml_L_234 : Cond.methodLink RL 234 yX11_hour ∈ o_gW := o_gT (i := 900) (by decide +kernel) rfl
theorem ml_L_237 : Cond.methodLink RL 237 yL_isLeased ∈ o_gW := o_gT (i := 904) (by decide +kernel) rfl
theorem ml_L_63 : Cond.methodLink RL 63 yX11_isLeased ∈ o_gW := o_gT (i := 907) (by decide +kernel) rfl
theorem ml_X11_175 : Cond.methodLink RX11 175 yX7_isTaken ∈ o_gW := o_gT (i := 911) (by decide +kernel) rfl
theorem ml_L_239 : Cond.methodLink RL 239 yL_level ∈ o_gW := o_gT (i := 912) (by decide +kernel) rfl
theorem ml_L_241 : Cond.methodLink RL 241 yL_areLeft ∈ o_gW := o_gT (i := 915) (by decide +kernel) rfl
theorem ml_L_244 : Cond.methodLink RL 244 yL_hoursOfOil ∈ o_gW := o_gT (i := 918) (by decide +kernel) rfl
theorem ml_L_79 : Cond.methodLink RL 79 yX11_hoursOfOil ∈ o_gW := o_gT (i := 921) (by decide +kernel) rfl
theorem ml_X11_201 : Cond.methodLink RX11 201 yX4_hoursByPassing ∈ o_gW := o_gT (i := 925) (by decide +kernel) rfl
theorem ml_X4_28 : Cond.methodLink RX4 28 yX7_demandAfter ∈ o_gW := o_gT (i := 929) (by decide +kernel) rfl
theorem ml_L_246 : Cond.methodLink RL 246 yL_byEnds ∈ o_gW := o_gT (i := 933) (by decide +kernel) rfl
theorem ml_L_82 : Cond.methodLink RL 82 yX11_hoursOfOilByEnds ∈ o_gW := o_gT (i := 936) (by decide +kernel) rfl
theorem ml_X11_208 : Cond.methodLink RX11 208 yX4_hoursByEndHours ∈ o_gW := o_gT (i := 940) (by decide +kernel) rfl
theorem ml_X4_34 : Cond.methodLink RX4 34 yX7_firstEndAfter ∈ o_gW := o_gT (i := 944) (by decide +kernel) rfl
theorem ml_L_249 : Cond.methodLink RL 249 yX11_mostBright ∈ o_gW := o_gT (i := 948) (by decide +kernel) rfl
theorem ml_X11_214 : Cond.methodLink RX11 214 yX4_mostLampsByLevels ∈ o_gW := o_gT (i := 952) (by decide +kernel) rfl
theorem ml_X4_40 : Cond.methodLink RX4 40 yX7_isTaken ∈ o_gW := o_gT (i := 956) (by decide +kernel) rfl
theorem ml_L_252 : Cond.methodLink RL 252 yX11_mostBrightBySums ∈ o_gW := o_gT (i := 957) (by decide +kernel) rfl
theorem ml_X11_217 : Cond.methodLink RX11 217 yX4_mostLampsByTable ∈ o_gW := o_gT (i := 961) (by decide +kernel) rfl
theorem ml_X4_47 : Cond.methodLink RX4 47 yX4_clearTable ∈ o_gW := o_gT (i := 965) (by decide +kernel) rfl
theorem ml_X4_50 : Cond.methodLink RX4 50 yX4_enterInTable ∈ o_gW := o_gT (i := 969) (by decide +kernel) rfl
theorem ml_X4_54 : Cond.methodLink RX4 54 yJ9_max_7cf53 ∈ o_gW := o_gT (i := 973) (by decide +kernel) rfl
theorem ml_L_255 : Cond.methodLink RL 255 yX11_brightNext ∈ o_gW := o_gT (i := 976) (by decide +kernel) rfl
theorem ml_X11_211 : Cond.methodLink RX11 211 yX4_nextBrightLamps ∈ o_gW := o_gT (i := 980) (by decide +kernel) rfl
theorem ml_L_258 : Cond.methodLink RL 258 yL_brightBy ∈ o_gW := o_gT (i := 984) (by decide +kernel) rfl
theorem ml_L_261 : Cond.methodLink RL 261 yX11_isConsistent ∈ o_gW := o_gT (i := 987) (by decide +kernel) rfl
theorem ml_X11_258 : Cond.methodLink RX11 258 yX11_coinsAddUp ∈ o_gW := o_gT (i := 991) (by decide +kernel) rfl
theorem ml_X11_262 : Cond.methodLink RX11 262 yX11_sharesAgree ∈ o_gW := o_gT (i := 995) (by decide +kernel) rfl
theorem ml_X11_265 : Cond.methodLink RX11 265 yX11_sharesAddUp ∈ o_gW := o_gT (i := 999) (by decide +kernel) rfl
theorem ml_X11_268 : Cond.methodLink RX11 268 yX11_brightnessAgrees ∈ o_gW := o_gT (i := 1003) (by decide +kernel) rfl
theorem ml_X11_271 : Cond.methodLink RX11 271 yX11_requestsAreForLeasedLamps ∈ o_gW := o_gT (i := 1007) (by decide +kernel) rfl
theorem ml_L_185 : Cond.methodLink RL 185 yL_lamps ∈ o_gW := o_gT (i := 1011) (by decide +kernel) rfl
theorem ml_L_265 : Cond.methodLink RL 265 yL_bright ∈ o_gW := o_gT (i := 1014) (by decide +kernel) rfl
theorem ml_L_73 : Cond.methodLink RL 73 yX11_brightHours ∈ o_gW := o_gT (i := 1017) (by decide +kernel) rfl
theorem ml_L_268 : Cond.methodLink RL 268 yL_was ∈ o_gW := o_gT (i := 1021) (by decide +kernel) rfl
theorem ml_L_76 : Cond.methodLink RL 76 yX11_wasBright ∈ o_gW := o_gT (i := 1024) (by decide +kernel) rfl
theorem ml_L_271 : Cond.methodLink RL 271 yL_byEnd ∈ o_gW := o_gT (i := 1028) (by decide +kernel) rfl
theorem ml_L_100 : Cond.methodLink RL 100 yX11_lampByEnd ∈ o_gW := o_gT (i := 1031) (by decide +kernel) rfl
theorem ml_X11_245 : Cond.methodLink RX11 245 yX7_atRank ∈ o_gW := o_gT (i := 1035) (by decide +kernel) rfl
theorem ml_X7_40 : Cond.methodLink RX7 40 yX7_rankOf ∈ o_gW := o_gT (i := 1039) (by decide +kernel) rfl
theorem ml_X7_44 : Cond.methodLink RX7 44 yX7_isBefore ∈ o_gW := o_gT (i := 1043) (by decide +kernel) rfl
theorem ml_L_274 : Cond.methodLink RL 274 yX11_requestCount ∈ o_gW := o_gT (i := 1047) (by decide +kernel) rfl
theorem ml_L_277 : Cond.methodLink RL 277 yL_asked ∈ o_gW := o_gT (i := 1051) (by decide +kernel) rfl
theorem ml_L_91 : Cond.methodLink RL 91 yX11_requestedLamp ∈ o_gW := o_gT (i := 1054) (by decide +kernel) rfl
theorem ml_X11_228 : Cond.methodLink RX11 228 yX11_throwUnlessPosition ∈ o_gW := o_gT (i := 1058) (by decide +kernel) rfl
theorem ml_L_280 : Cond.methodLink RL 280 yL_askedHours ∈ o_gW := o_gT (i := 1063) (by decide +kernel) rfl
theorem ml_L_94 : Cond.methodLink RL 94 yX11_requestedHours ∈ o_gW := o_gT (i := 1066) (by decide +kernel) rfl
theorem ml_L_283 : Cond.methodLink RL 283 yX11_leasedLamps ∈ o_gW := o_gT (i := 1070) (by decide +kernel) rfl
theorem ml_X11_192 : Cond.methodLink RX11 192 yX7_countTaken ∈ o_gW := o_gT (i := 1074) (by decide +kernel) rfl
theorem ml_L_286 : Cond.methodLink RL 286 yX11_leasedShare ∈ o_gW := o_gT (i := 1078) (by decide +kernel) rfl
theorem ml_L_188 : Cond.methodLink RL 188 yL_texts ∈ o_gW := o_gT (i := 1083) (by decide +kernel) rfl
theorem ml_L_297 : Cond.methodLink RL 297 yJ4_init_da8c8 ∈ o_gW := o_gT (i := 1088) (by decide +kernel) rfl
theorem ml_L_298 : Cond.methodLink RL 298 yJ4_append_15ec4 ∈ o_gW := o_gT (i := 1089) (by decide +kernel) rfl
theorem ml_J4_29 : Cond.methodLink RJ4 29 yJ5_append_cf1ce ∈ o_gW := o_gT (i := 1093) (by decide +kernel) rfl
theorem ml_J5_204 : Cond.methodLink RJ5 204 yJ5_appendNull_278bc ∈ o_gW := o_gT (i := 1096) (by decide +kernel) rfl
theorem ml_J5_100 : Cond.methodLink RJ5 100 yJ5_ensureCapacityInternal_d00df ∈ o_gW := o_gT (i := 1100) (by decide +kernel) rfl
theorem ml_J5_104 : Cond.methodLink RJ5 104 yJ5_newCapacity_0f7a4 ∈ o_gW := o_gT (i := 1104) (by decide +kernel) rfl
theorem ml_J5_114 : Cond.methodLink RJ5 114 yJ8_newLength_cabcc ∈ o_gW := o_gT (i := 1108) (by decide +kernel) rfl
theorem ml_J8_194 : Cond.methodLink RJ8 194 yJ9_max_7cf53 ∈ o_gW := o_gT (i := 1111) (by decide +kernel) rfl
theorem ml_J8_201 : Cond.methodLink RJ8 201 yJ8_hugeLength_7cf53 ∈ o_gW := o_gT (i := 1113) (by decide +kernel) rfl
theorem ml_J5_108 : Cond.methodLink RJ5 108 yJ7_copyOf_9075b ∈ o_gW := o_gT (i := 1117) (by decide +kernel) rfl
theorem ml_J7_304 : Cond.methodLink RJ7 304 yJ9_min_7cf53 ∈ o_gW := o_gT (i := 1127) (by decide +kernel) rfl
theorem ml_J5_83 : Cond.methodLink RJ5 83 yJ5_isLatin1_aae02 ∈ o_gW := o_gT (i := 1131) (by decide +kernel) rfl
theorem ml_J5_226 : Cond.methodLink RJ5 226 yJ2_putCharsAt_cd4e5 ∈ o_gW := o_gT (i := 1136) (by decide +kernel) rfl
theorem ml_J2_96 : Cond.methodLink RJ2 96 yJ2_checkBoundsBeginEnd_d044e ∈ o_gW := o_gT (i := 1139) (by decide +kernel) rfl
theorem ml_J2_48 : Cond.methodLink RJ2 48 yJ2_length_9d52b ∈ o_gW := o_gT (i := 1142) (by decide +kernel) rfl
theorem ml_J2_241 : Cond.methodLink RJ2 241 yJ0_checkBoundsBeginEnd_23922 ∈ o_gW := o_gT (i := 1145) (by decide +kernel) rfl
theorem ml_J0_1062 : Cond.methodLink RJ0 1062 yJ3_checkFromToIndex_8c36e ∈ o_gW := o_gT (i := 1150) (by decide +kernel) rfl
theorem ml_J2_111 : Cond.methodLink RJ2 111 yJ2_putChar_b72d1 ∈ o_gW := o_gT (i := 1153) (by decide +kernel) rfl
theorem ml_J5_32 : Cond.methodLink RJ5 32 yJ0_length_8abf5 ∈ o_gW := o_gT (i := 1162) (by decide +kernel) rfl
theorem ml_J0_335 : Cond.methodLink RJ0 335 yJ0_coder_7d493 ∈ o_gW := o_gT (i := 1166) (by decide +kernel) rfl
theorem ml_J5_208 : Cond.methodLink RJ5 208 yJ5_putStringAt_47b60 ∈ o_gW := o_gT (i := 1171) (by decide +kernel) rfl
theorem ml_J5_397 : Cond.methodLink RJ5 397 yJ5_inflateIfNeededFor_a7421 ∈ o_gW := o_gT (i := 1175) (by decide +kernel) rfl
theorem ml_J5_40 : Cond.methodLink RJ5 40 yJ0_coder_7d493 ∈ o_gW := o_gT (i := 1179) (by decide +kernel) rfl
theorem ml_J5_195 : Cond.methodLink RJ5 195 yJ5_inflate_da8c8 ∈ o_gW := o_gT (i := 1180) (by decide +kernel) rfl
theorem ml_J5_125 : Cond.methodLink RJ5 125 yJ1_inflate_0e8fd ∈ o_gW := o_gT (i := 1184) (by decide +kernel) rfl
theorem ml_J1_240 : Cond.methodLink RJ1 240 yJ2_inflate_0e8fd ∈ o_gW := o_gT (i := 1187) (by decide +kernel) rfl
theorem ml_J2_173 : Cond.methodLink RJ2 173 yJ2_checkBoundsOffCount_d044e ∈ o_gW := o_gT (i := 1190) (by decide +kernel) rfl
theorem ml_J2_419 : Cond.methodLink RJ2 419 yJ0_checkBoundsOffCount_cabcc ∈ o_gW := o_gT (i := 1193) (by decide +kernel) rfl
theorem ml_J0_1065 : Cond.methodLink RJ0 1065 yJ3_checkFromIndexSize_8c36e ∈ o_gW := o_gT (i := 1196) (by decide +kernel) rfl
theorem ml_J5_399 : Cond.methodLink RJ5 399 yJ0_getBytes_840e7 ∈ o_gW := o_gT (i := 1199) (by decide +kernel) rfl
theorem ml_J0_106 : Cond.methodLink RJ0 106 yJ1_inflate_0e8fd ∈ o_gW := o_gT (i := 1204) (by decide +kernel) rfl
theorem ml_L_304 : Cond.methodLink RL 304 yJ4_append_bf812 ∈ o_gW := o_gT (i := 1206) (by decide +kernel) rfl
theorem ml_J4_53 : Cond.methodLink RJ4 53 yJ5_append_c97b9 ∈ o_gW := o_gT (i := 1210) (by decide +kernel) rfl
theorem ml_J5_245 : Cond.methodLink RJ5 245 yJ6_stringSize_0f7a4 ∈ o_gW := o_gT (i := 1213) (by decide +kernel) rfl
theorem ml_J5_248 : Cond.methodLink RJ5 248 yJ6_getChars_ba4f3 ∈ o_gW := o_gT (i := 1216) (by decide +kernel) rfl
theorem ml_J5_251 : Cond.methodLink RJ5 251 yJ2_getChars_46870 ∈ o_gW := o_gT (i := 1223) (by decide +kernel) rfl
theorem ml_J2_393 : Cond.methodLink RJ2 393 yJ2_getChars_ba4f3 ∈ o_gW := o_gT (i := 1226) (by decide +kernel) rfl
theorem ml_L_311 : Cond.methodLink RL 311 yJ4_toString_0e30d ∈ o_gW := o_gT (i := 1233) (by decide +kernel) rfl
theorem ml_J4_137 : Cond.methodLink RJ4 137 yJ0_init_81219 ∈ o_gW := o_gT (i := 1238) (by decide +kernel) rfl
theorem ml_J0_489 : Cond.methodLink RJ0 489 yJ0_init_db425 ∈ o_gW := o_gT (i := 1241) (by decide +kernel) rfl
theorem ml_J0_552 : Cond.methodLink RJ0 552 yJ5_getValue_6d5f1 ∈ o_gW := o_gT (i := 1245) (by decide +kernel) rfl
theorem ml_J0_549 : Cond.methodLink RJ0 549 yJ5_length_8abf5 ∈ o_gW := o_gT (i := 1250) (by decide +kernel) rfl
theorem ml_J4_343 : Cond.methodLink RJ4 343 yJ5_length_8abf5 ∈ o_gW := o_gT (i := 1256) (by decide +kernel) rfl
theorem ml_J0_1047 : Cond.methodLink RJ0 1047 yJ5_isLatin1_aae02 ∈ o_gW := o_gT (i := 1258) (by decide +kernel) rfl
theorem ml_J0_54 : Cond.methodLink RJ0 54 yJ7_copyOfRange_39247 ∈ o_gW := o_gT (i := 1259) (by decide +kernel) rfl
theorem ml_J7_339 : Cond.methodLink RJ7 339 yJ7_copyOfRangeByte_39247 ∈ o_gW := o_gT (i := 1262) (by decide +kernel) rfl
theorem ml_J7_343 : Cond.methodLink RJ7 343 yJ7_checkLength_df160 ∈ o_gW := o_gT (i := 1265) (by decide +kernel) rfl
theorem ml_J7_47 : Cond.methodLink RJ7 47 yJ4_init_da8c8 ∈ o_gW := o_gT (i := 1270) (by decide +kernel) rfl
theorem ml_J7_54 : Cond.methodLink RJ7 54 yJ4_append_bf812 ∈ o_gW := o_gT (i := 1271) (by decide +kernel) rfl
theorem ml_J7_50 : Cond.methodLink RJ7 50 yJ4_append_15ec4 ∈ o_gW := o_gT (i := 1273) (by decide +kernel) rfl
theorem ml_J7_61 : Cond.methodLink RJ7 61 yJ4_toString_0e30d ∈ o_gW := o_gT (i := 1274) (by decide +kernel) rfl
theorem ml_J0_1051 : Cond.methodLink RJ0 1051 yJ2_compress_39247 ∈ o_gW := o_gT (i := 1276) (by decide +kernel) rfl
theorem ml_J2_123 : Cond.methodLink RJ2 123 yJ2_compress_5af95 ∈ o_gW := o_gT (i := 1279) (by decide +kernel) rfl
theorem ml_J2_71 : Cond.methodLink RJ2 71 yJ2_getChar_3b067 ∈ o_gW := o_gT (i := 1282) (by decide +kernel) rfl
theorem ml_J2_126 : Cond.methodLink RJ2 126 yJ7_copyOfRange_39247 ∈ o_gW := o_gT (i := 1285) (by decide +kernel) rfl
theorem ml_J0_47 : Cond.methodLink RJ0 47 yJ2_coderFromArrayLen_85cad ∈ o_gW := o_gT (i := 1286) (by decide +kernel) rfl
theorem ml_L_315 : Cond.methodLink RL 315 yL_isAsked ∈ o_gW := o_gT (i := 1296) (by decide +kernel) rfl
theorem ml_L_321 : Cond.methodLink RL 321 yX11_writeLamps ∈ o_gW := o_gT (i := 1300) (by decide +kernel) rfl
theorem ml_X11_347 : Cond.methodLink RX11 347 yJ4_setLength_d00df ∈ o_gW := o_gT (i := 1304) (by decide +kernel) rfl
theorem ml_J4_333 : Cond.methodLink RJ4 333 yJ5_setLength_d00df ∈ o_gW := o_gT (i := 1308) (by decide +kernel) rfl
theorem ml_J5_131 : Cond.methodLink RJ5 131 yJx7c733_init_d00df ∈ o_gW := o_gT (i := 1313) (by decide +kernel) rfl
theorem ml_Jx7c733_12 : Cond.methodLink RJx7c733 12 yJ4_init_da8c8 ∈ o_gW := o_gT (i := 1317) (by decide +kernel) rfl
theorem ml_Jx7c733_15 : Cond.methodLink RJx7c733 15 yJ4_append_15ec4 ∈ o_gW := o_gT (i := 1319) (by decide +kernel) rfl
theorem ml_Jx7c733_19 : Cond.methodLink RJx7c733 19 yJ4_append_bf812 ∈ o_gW := o_gT (i := 1320) (by decide +kernel) rfl
theorem ml_Jx7c733_22 : Cond.methodLink RJx7c733 22 yJ4_toString_0e30d ∈ o_gW := o_gT (i := 1321) (by decide +kernel) rfl
theorem ml_J5_133 : Cond.methodLink RJ5 133 yJ1_fillNull_b72d1 ∈ o_gW := o_gT (i := 1330) (by decide +kernel) rfl
theorem ml_J1_236 : Cond.methodLink RJ1 236 yJ7_fill_eb02e ∈ o_gW := o_gT (i := 1333) (by decide +kernel) rfl
theorem ml_J7_13 : Cond.methodLink RJ7 13 yJ7_rangeCheck_23922 ∈ o_gW := o_gT (i := 1336) (by decide +kernel) rfl
theorem ml_J7_70 : Cond.methodLink RJ7 70 yJx00060_init_d00df ∈ o_gW := o_gT (i := 1343) (by decide +kernel) rfl
theorem ml_Jx00060_12 : Cond.methodLink RJx00060 12 yJ4_init_da8c8 ∈ o_gW := o_gT (i := 1347) (by decide +kernel) rfl
theorem ml_Jx00060_15 : Cond.methodLink RJx00060 15 yJ4_append_15ec4 ∈ o_gW := o_gT (i := 1349) (by decide +kernel) rfl
theorem ml_Jx00060_19 : Cond.methodLink RJx00060 19 yJ4_append_bf812 ∈ o_gW := o_gT (i := 1350) (by decide +kernel) rfl
theorem ml_Jx00060_22 : Cond.methodLink RJx00060 22 yJ4_toString_0e30d ∈ o_gW := o_gT (i := 1351) (by decide +kernel) rfl
theorem ml_J5_137 : Cond.methodLink RJ5 137 yJ2_fillNull_b72d1 ∈ o_gW := o_gT (i := 1352) (by decide +kernel) rfl
theorem ml_J2_380 : Cond.methodLink RJ2 380 yJ7_fill_eb02e ∈ o_gW := o_gT (i := 1355) (by decide +kernel) rfl
theorem ml_X11_350 : Cond.methodLink RX11 350 yJ4_append_cf468 ∈ o_gW := o_gT (i := 1356) (by decide +kernel) rfl
theorem ml_J4_50 : Cond.methodLink RJ4 50 yJ5_append_3fe6f ∈ o_gW := o_gT (i := 1360) (by decide +kernel) rfl
theorem ml_J5_191 : Cond.methodLink RJ5 191 yJ1_canEncode_fc78d ∈ o_gW := o_gT (i := 1363) (by decide +kernel) rfl
theorem ml_J5_197 : Cond.methodLink RJ5 197 yJ2_putCharSB_b72d1 ∈ o_gW := o_gT (i := 1366) (by decide +kernel) rfl
theorem ml_J2_67 : Cond.methodLink RJ2 67 yJ2_checkIndex_2214a ∈ o_gW := o_gT (i := 1369) (by decide +kernel) rfl
theorem ml_J2_414 : Cond.methodLink RJ2 414 yJ0_checkIndex_df160 ∈ o_gW := o_gT (i := 1372) (by decide +kernel) rfl
theorem ml_J0_1059 : Cond.methodLink RJ0 1059 yJ3_checkIndex_8e157 ∈ o_gW := o_gT (i := 1375) (by decide +kernel) rfl
theorem ml_X11_353 : Cond.methodLink RX11 353 yX11_describe ∈ o_gW := o_gT (i := 1378) (by decide +kernel) rfl
theorem ml_X11_358 : Cond.methodLink RX11 358 yJ4_append_bf812 ∈ o_gW := o_gT (i := 1382) (by decide +kernel) rfl
theorem ml_X11_361 : Cond.methodLink RX11 361 yX8_positionOf ∈ o_gW := o_gT (i := 1383) (by decide +kernel) rfl
theorem ml_X11_356 : Cond.methodLink RX11 356 yJ4_length_8abf5 ∈ o_gW := o_gT (i := 1384) (by decide +kernel) rfl
theorem ml_L_324 : Cond.methodLink RL 324 yL_spells ∈ o_gW := o_gT (i := 1385) (by decide +kernel) rfl
theorem ml_L_127 : Cond.methodLink RL 127 yJ0_length_8abf5 ∈ o_gW := o_gT (i := 1388) (by decide +kernel) rfl
theorem ml_L_290 : Cond.methodLink RL 290 yL_outputAt ∈ o_gW := o_gT (i := 1389) (by decide +kernel) rfl
theorem ml_L_120 : Cond.methodLink RL 120 yX11_outputChar ∈ o_gW := o_gT (i := 1392) (by decide +kernel) rfl
theorem ml_X11_369 : Cond.methodLink RX11 369 yJ4_charAt_5068e ∈ o_gW := o_gT (i := 1397) (by decide +kernel) rfl
theorem ml_J4_329 : Cond.methodLink RJ4 329 yJ5_charAt_5068e ∈ o_gW := o_gT (i := 1401) (by decide +kernel) rfl
theorem ml_J5_138 : Cond.methodLink RJ5 138 yJ9_min_7cf53 ∈ o_gW := o_gT (i := 1404) (by decide +kernel) rfl
theorem ml_J5_144 : Cond.methodLink RJ5 144 yJ0_checkIndex_df160 ∈ o_gW := o_gT (i := 1405) (by decide +kernel) rfl
theorem ml_J5_148 : Cond.methodLink RJ5 148 yJ2_getChar_3b067 ∈ o_gW := o_gT (i := 1406) (by decide +kernel) rfl
theorem ml_L_132 : Cond.methodLink RL 132 yJ0_charAt_5068e ∈ o_gW := o_gT (i := 1407) (by decide +kernel) rfl
theorem ml_J0_492 : Cond.methodLink RJ0 492 yJ0_isLatin1_aae02 ∈ o_gW := o_gT (i := 1411) (by decide +kernel) rfl
theorem ml_J0_495 : Cond.methodLink RJ0 495 yJ1_charAt_3b067 ∈ o_gW := o_gT (i := 1415) (by decide +kernel) rfl
theorem ml_J1_9 : Cond.methodLink RJ1 9 yJ0_checkIndex_df160 ∈ o_gW := o_gT (i := 1418) (by decide +kernel) rfl
theorem ml_J0_498 : Cond.methodLink RJ0 498 yJ2_charAt_3b067 ∈ o_gW := o_gT (i := 1419) (by decide +kernel) rfl
theorem ml_L_191 : Cond.methodLink RL 191 yL_undone ∈ o_gW := o_gT (i := 1422) (by decide +kernel) rfl
theorem ml_L_347 : Cond.methodLink RL 347 yL_sum ∈ o_gW := o_gT (i := 1425) (by decide +kernel) rfl
theorem ml_L_332 : Cond.methodLink RL 332 yX11_refusedRenewals ∈ o_gW := o_gT (i := 1430) (by decide +kernel) rfl
theorem ml_L_355 : Cond.methodLink RL 355 yL_run ∈ o_gW := o_gT (i := 1442) (by decide +kernel) rfl
theorem ml_L_135 : Cond.methodLink RL 135 yL_feed ∈ o_gW := o_gT (i := 1445) (by decide +kernel) rfl
theorem ml_L_103 : Cond.methodLink RL 103 yX11_feed ∈ o_gW := o_gT (i := 1448) (by decide +kernel) rfl
theorem ml_X11_282 : Cond.methodLink RX11 282 yX2_append ∈ o_gW := o_gT (i := 1453) (by decide +kernel) rfl
theorem ml_L_140 : Cond.methodLink RL 140 yL_runs ∈ o_gW := o_gT (i := 1457) (by decide +kernel) rfl
theorem ml_L_107 : Cond.methodLink RL 107 yX11_runCommands ∈ o_gW := o_gT (i := 1460) (by decide +kernel) rfl
theorem ml_X11_285 : Cond.methodLink RX11 285 yX2_parse ∈ o_gW := o_gT (i := 1464) (by decide +kernel) rfl
theorem ml_X2_32 : Cond.methodLink RX2 32 yX2_readCommand ∈ o_gW := o_gT (i := 1468) (by decide +kernel) rfl
theorem ml_X2_40 : Cond.methodLink RX2 40 yX2_readKeyword ∈ o_gW := o_gT (i := 1472) (by decide +kernel) rfl
theorem ml_X2_82 : Cond.methodLink RX2 82 yX2_commonLetters ∈ o_gW := o_gT (i := 1478) (by decide +kernel) rfl
theorem ml_X2_62 : Cond.methodLink RX2 62 yJ0_length_8abf5 ∈ o_gW := o_gT (i := 1482) (by decide +kernel) rfl
theorem ml_X2_67 : Cond.methodLink RX2 67 yJ0_charAt_5068e ∈ o_gW := o_gT (i := 1483) (by decide +kernel) rfl
theorem ml_X2_86 : Cond.methodLink RX2 86 yJ9_max_7cf53 ∈ o_gW := o_gT (i := 1484) (by decide +kernel) rfl
theorem ml_X2_36 : Cond.methodLink RX2 36 yX2_isAt ∈ o_gW := o_gT (i := 1485) (by decide +kernel) rfl
theorem ml_X2_54 : Cond.methodLink RX2 54 yX1_put ∈ o_gW := o_gT (i := 1489) (by decide +kernel) rfl
theorem ml_X2_71 : Cond.methodLink RX2 71 yX2_readBlankAndNumber ∈ o_gW := o_gT (i := 1493) (by decide +kernel) rfl
theorem ml_X2_92 : Cond.methodLink RX2 92 yX2_isAtDigit ∈ o_gW := o_gT (i := 1497) (by decide +kernel) rfl
theorem ml_X11_288 : Cond.methodLink RX11 288 yX2_clear ∈ o_gW := o_gT (i := 1501) (by decide +kernel) rfl
theorem ml_X11_299 : Cond.methodLink RX11 299 yX10_copyFrom ∈ o_gW := o_gT (i := 1506) (by decide +kernel) rfl
theorem ml_X11_309 : Cond.methodLink RX11 309 yX11_faultOf ∈ o_gW := o_gT (i := 1507) (by decide +kernel) rfl
theorem ml_X11_338 : Cond.methodLink RX11 338 yX1_first ∈ o_gW := o_gT (i := 1519) (by decide +kernel) rfl
theorem ml_X11_341 : Cond.methodLink RX11 341 yX1_second ∈ o_gW := o_gT (i := 1523) (by decide +kernel) rfl
theorem ml_X11_344 : Cond.methodLink RX11 344 yX1_third ∈ o_gW := o_gT (i := 1527) (by decide +kernel) rfl
theorem ml_X11_318 : Cond.methodLink RX11 318 yX11_carryOut ∈ o_gW := o_gT (i := 1532) (by decide +kernel) rfl
theorem ml_L_367 : Cond.methodLink RL 367 yX11_undoCount ∈ o_gW := o_gT (i := 1540) (by decide +kernel) rfl
theorem ml_L_370 : Cond.methodLink RL 370 yL_undo ∈ o_gW := o_gT (i := 1544) (by decide +kernel) rfl
theorem ml_L_124 : Cond.methodLink RL 124 yX11_undo ∈ o_gW := o_gT (i := 1547) (by decide +kernel) rfl
theorem ml_X11_375 : Cond.methodLink RX11 375 yX5_popInto ∈ o_gW := o_gT (i := 1552) (by decide +kernel) rfl
