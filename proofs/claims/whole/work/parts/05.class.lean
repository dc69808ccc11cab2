/-! the classes: their fields lie as the tables say (written by program, wip/whole/genclass.py) -/
theorem wl_0_0 : u_lay RX0 TX0 0 ∈ lw_tbl := kf_m2 (List.mem_of_getElem? (i := 135) rfl)
theorem wl_0_1 : u_lay RX0 TX0 1 ∈ lw_tbl := kf_m2 (List.mem_of_getElem? (i := 137) rfl)
theorem wl_0_2 : u_lay RX0 TX0 2 ∈ lw_tbl := kf_m2 (List.mem_of_getElem? (i := 139) rfl)
theorem wl_0_3 : u_lay RX0 TX0 3 ∈ lw_tbl := kf_m2 (List.mem_of_getElem? (i := 141) rfl)
theorem wl_0_4 : u_lay RX0 TX0 4 ∈ lw_tbl := kf_m2 (List.mem_of_getElem? (i := 143) rfl)
theorem wl_0_5 : u_lay RX0 TX0 5 ∈ lw_tbl := kf_m2 (List.mem_of_getElem? (i := 145) rfl)
theorem wl_0_6 : u_lay RX0 TX0 6 ∈ lw_tbl := kf_m2 (List.mem_of_getElem? (i := 147) rfl)
theorem wl_0_7 : u_lay RX0 TX0 7 ∈ lw_tbl := kf_m2 (List.mem_of_getElem? (i := 149) rfl)
theorem wl_0_8 : u_lay RX0 TX0 8 ∈ lw_tbl := kf_m2 (List.mem_of_getElem? (i := 151) rfl)
theorem wl_0_9 : u_lay RX0 TX0 9 ∈ lw_tbl := kf_m2 (List.mem_of_getElem? (i := 153) rfl)
theorem wl_0_10 : u_lay RX0 TX0 10 ∈ lw_tbl := kf_m2 (List.mem_of_getElem? (i := 155) rfl)
theorem wl_0_11 : u_lay RX0 TX0 11 ∈ lw_tbl := kf_m2 (List.mem_of_getElem? (i := 157) rfl)
set_option maxRecDepth 20000 in
theorem wl_0 : ∀ k, k < 12 → u_lay RX0 TX0 k ∈ lw_tbl := lt_s (lt_s (lt_s (lt_s (lt_s (lt_s (lt_s (lt_s (lt_s (lt_s (lt_s (lt_s (lt_0) wl_0_0) wl_0_1) wl_0_2) wl_0_3) wl_0_4) wl_0_5) wl_0_6) wl_0_7) wl_0_8) wl_0_9) wl_0_10) wl_0_11
theorem wi_0 : Cond.instantiable RX0 12 ∈ lw_tbl := kf_m2 (List.mem_of_getElem? (i := 12) rfl)
theorem wn_0 : Cond.initialized RX0 ∈ lw_tbl := kf_m1 (List.mem_of_getElem? (i := 12) rfl)
theorem wd_0 : ∀ j, j < 12 → defaultValue (tyX0 j) = vp_V ((kf_nw[0]?).getD []) j := by decide +kernel
theorem wl_1_0 : u_lay RX1 TX1 0 ∈ lw_tbl := kf_m2 (List.mem_of_getElem? (i := 52) rfl)
theorem wl_1_1 : u_lay RX1 TX1 1 ∈ lw_tbl := kf_m2 (List.mem_of_getElem? (i := 54) rfl)
theorem wl_1_2 : u_lay RX1 TX1 2 ∈ lw_tbl := kf_m2 (List.mem_of_getElem? (i := 56) rfl)
theorem wl_1_3 : u_lay RX1 TX1 3 ∈ lw_tbl := kf_m2 (List.mem_of_getElem? (i := 58) rfl)
theorem wl_1_4 : u_lay RX1 TX1 4 ∈ lw_tbl := kf_m2 (List.mem_of_getElem? (i := 60) rfl)
theorem wl_1_5 : u_lay RX1 TX1 5 ∈ lw_tbl := kf_m2 (List.mem_of_getElem? (i := 62) rfl)
set_option maxRecDepth 20000 in
theorem wl_1 : ∀ k, k < 6 → u_lay RX1 TX1 k ∈ lw_tbl := lt_s (lt_s (lt_s (lt_s (lt_s (lt_s (lt_0) wl_1_0) wl_1_1) wl_1_2) wl_1_3) wl_1_4) wl_1_5
theorem wi_1 : Cond.instantiable RX1 6 ∈ lw_tbl := kf_m2 (List.mem_of_getElem? (i := 18) rfl)
theorem wn_1 : Cond.initialized RX1 ∈ lw_tbl := kf_m1 (List.mem_of_getElem? (i := 13) rfl)
theorem wd_1 : ∀ j, j < 6 → defaultValue (tyX1 j) = vp_V ((kf_nw[1]?).getD []) j := by decide +kernel
theorem wl_2_0 : u_lay RX2 TX2 0 ∈ lw_tbl := kf_m1 (List.mem_of_getElem? (i := 97) rfl)
theorem wl_2_1 : u_lay RX2 TX2 1 ∈ lw_tbl := kf_m1 (List.mem_of_getElem? (i := 99) rfl)
theorem wl_2_2 : u_lay RX2 TX2 2 ∈ lw_tbl := kf_m1 (List.mem_of_getElem? (i := 101) rfl)
set_option maxRecDepth 20000 in
theorem wl_2 : ∀ k, k < 3 → u_lay RX2 TX2 k ∈ lw_tbl := lt_s (lt_s (lt_s (lt_0) wl_2_0) wl_2_1) wl_2_2
theorem wi_2 : Cond.instantiable RX2 3 ∈ lw_tbl := kf_m1 (List.mem_of_getElem? (i := 89) rfl)
theorem wn_2 : Cond.initialized RX2 ∈ lw_tbl := kf_m1 (List.mem_of_getElem? (i := 6) rfl)
theorem wd_2 : ∀ j, j < 3 → defaultValue (tyX2 j) = vp_V ((kf_nw[2]?).getD []) j := by decide +kernel
theorem wl_3_0 : u_lay RX3 TX3 0 ∈ lw_tbl := kf_m1 (List.mem_of_getElem? (i := 205) rfl)
theorem wl_3_1 : u_lay RX3 TX3 1 ∈ lw_tbl := kf_m1 (List.mem_of_getElem? (i := 207) rfl)
theorem wl_3_2 : u_lay RX3 TX3 2 ∈ lw_tbl := kf_m1 (List.mem_of_getElem? (i := 209) rfl)
theorem wl_3_3 : u_lay RX3 TX3 3 ∈ lw_tbl := kf_m1 (List.mem_of_getElem? (i := 211) rfl)
theorem wl_3_4 : u_lay RX3 TX3 4 ∈ lw_tbl := kf_m1 (List.mem_of_getElem? (i := 213) rfl)
theorem wl_3_5 : u_lay RX3 TX3 5 ∈ lw_tbl := kf_m1 (List.mem_of_getElem? (i := 215) rfl)
theorem wl_3_6 : u_lay RX3 TX3 6 ∈ lw_tbl := kf_m1 (List.mem_of_getElem? (i := 217) rfl)
set_option maxRecDepth 20000 in
theorem wl_3 : ∀ k, k < 7 → u_lay RX3 TX3 k ∈ lw_tbl := lt_s (lt_s (lt_s (lt_s (lt_s (lt_s (lt_s (lt_0) wl_3_0) wl_3_1) wl_3_2) wl_3_3) wl_3_4) wl_3_5) wl_3_6
theorem wi_3 : Cond.instantiable RX3 7 ∈ lw_tbl := kf_m1 (List.mem_of_getElem? (i := 182) rfl)
theorem wn_3 : Cond.initialized RX3 ∈ lw_tbl := kf_m1 (List.mem_of_getElem? (i := 9) rfl)
theorem wd_3 : ∀ j, j < 7 → defaultValue (tyX3 j) = vp_V ((kf_nw[3]?).getD []) j := by decide +kernel
theorem wl_4_0 : u_lay RX4 TX4 0 ∈ lw_tbl := kf_m2 (List.mem_of_getElem? (i := 85) rfl)
theorem wl_4_1 : u_lay RX4 TX4 1 ∈ lw_tbl := kf_m2 (List.mem_of_getElem? (i := 87) rfl)
theorem wl_4_2 : u_lay RX4 TX4 2 ∈ lw_tbl := kf_m2 (List.mem_of_getElem? (i := 89) rfl)
set_option maxRecDepth 20000 in
theorem wl_4 : ∀ k, k < 3 → u_lay RX4 TX4 k ∈ lw_tbl := lt_s (lt_s (lt_s (lt_0) wl_4_0) wl_4_1) wl_4_2
theorem wi_4 : Cond.instantiable RX4 3 ∈ lw_tbl := kf_m2 (List.mem_of_getElem? (i := 72) rfl)
theorem wn_4 : Cond.initialized RX4 ∈ lw_tbl := kf_m1 (List.mem_of_getElem? (i := 14) rfl)
theorem wd_4 : ∀ j, j < 3 → defaultValue (tyX4 j) = vp_V ((kf_nw[4]?).getD []) j := by decide +kernel
theorem wl_5_0 : u_lay RX5 TX5 0 ∈ lw_tbl := kf_m1 (List.mem_of_getElem? (i := 238) rfl)
theorem wl_5_1 : u_lay RX5 TX5 1 ∈ lw_tbl := kf_m2 (List.mem_of_getElem? (i := 0) rfl)
theorem wl_5_2 : u_lay RX5 TX5 2 ∈ lw_tbl := kf_m2 (List.mem_of_getElem? (i := 2) rfl)
set_option maxRecDepth 20000 in
theorem wl_5 : ∀ k, k < 3 → u_lay RX5 TX5 k ∈ lw_tbl := lt_s (lt_s (lt_s (lt_0) wl_5_0) wl_5_1) wl_5_2
theorem wi_5 : Cond.instantiable RX5 3 ∈ lw_tbl := kf_m1 (List.mem_of_getElem? (i := 229) rfl)
theorem wn_5 : Cond.initialized RX5 ∈ lw_tbl := kf_m1 (List.mem_of_getElem? (i := 10) rfl)
theorem wd_5 : ∀ j, j < 3 → defaultValue (tyX5 j) = vp_V ((kf_nw[5]?).getD []) j := by decide +kernel
theorem wl_6_0 : u_lay RX6 TX6 0 ∈ lw_tbl := kf_m1 (List.mem_of_getElem? (i := 223) rfl)
theorem wl_6_1 : u_lay RX6 TX6 1 ∈ lw_tbl := kf_m1 (List.mem_of_getElem? (i := 225) rfl)
set_option maxRecDepth 20000 in
theorem wl_6 : ∀ k, k < 2 → u_lay RX6 TX6 k ∈ lw_tbl := lt_s (lt_s (lt_0) wl_6_0) wl_6_1
theorem wi_6 : Cond.instantiable RX6 2 ∈ lw_tbl := kf_m1 (List.mem_of_getElem? (i := 175) rfl)
theorem wn_6 : Cond.initialized RX6 ∈ lw_tbl := kf_m1 (List.mem_of_getElem? (i := 8) rfl)
theorem wd_6 : ∀ j, j < 2 → defaultValue (tyX6 j) = vp_V ((kf_nw[6]?).getD []) j := by decide +kernel
theorem wl_7_0 : u_lay RX7 TX7 0 ∈ lw_tbl := kf_m1 (List.mem_of_getElem? (i := 48) rfl)
theorem wl_7_1 : u_lay RX7 TX7 1 ∈ lw_tbl := kf_m1 (List.mem_of_getElem? (i := 50) rfl)
set_option maxRecDepth 20000 in
theorem wl_7 : ∀ k, k < 2 → u_lay RX7 TX7 k ∈ lw_tbl := lt_s (lt_s (lt_0) wl_7_0) wl_7_1
theorem wi_7 : Cond.instantiable RX7 2 ∈ lw_tbl := kf_m1 (List.mem_of_getElem? (i := 32) rfl)
theorem wn_7 : Cond.initialized RX7 ∈ lw_tbl := kf_m1 (List.mem_of_getElem? (i := 3) rfl)
theorem wd_7 : ∀ j, j < 2 → defaultValue (tyX7 j) = vp_V ((kf_nw[7]?).getD []) j := by decide +kernel
theorem wl_8_0 : u_lay RX8 TX8 0 ∈ lw_tbl := kf_m2 (List.mem_of_getElem? (i := 191) rfl)
theorem wl_8_1 : u_lay RX8 TX8 1 ∈ lw_tbl := kf_m2 (List.mem_of_getElem? (i := 193) rfl)
theorem wl_8_2 : u_lay RX8 TX8 2 ∈ lw_tbl := kf_m2 (List.mem_of_getElem? (i := 195) rfl)
theorem wl_8_3 : u_lay RX8 TX8 3 ∈ lw_tbl := kf_m2 (List.mem_of_getElem? (i := 197) rfl)
theorem wl_8_4 : u_lay RX8 TX8 4 ∈ lw_tbl := kf_m2 (List.mem_of_getElem? (i := 199) rfl)
theorem wl_8_5 : u_lay RX8 TX8 5 ∈ lw_tbl := kf_m2 (List.mem_of_getElem? (i := 201) rfl)
theorem wl_8_6 : u_lay RX8 TX8 6 ∈ lw_tbl := kf_m2 (List.mem_of_getElem? (i := 203) rfl)
theorem wl_8_7 : u_lay RX8 TX8 7 ∈ lw_tbl := kf_m2 (List.mem_of_getElem? (i := 205) rfl)
theorem wl_8_8 : u_lay RX8 TX8 8 ∈ lw_tbl := kf_m2 (List.mem_of_getElem? (i := 207) rfl)
theorem wl_8_9 : u_lay RX8 TX8 9 ∈ lw_tbl := kf_m2 (List.mem_of_getElem? (i := 209) rfl)
theorem wl_8_10 : u_lay RX8 TX8 10 ∈ lw_tbl := kf_m2 (List.mem_of_getElem? (i := 211) rfl)
theorem wl_8_11 : u_lay RX8 TX8 11 ∈ lw_tbl := kf_m2 (List.mem_of_getElem? (i := 213) rfl)
theorem wl_8_12 : u_lay RX8 TX8 12 ∈ lw_tbl := kf_m2 (List.mem_of_getElem? (i := 215) rfl)
theorem wl_8_13 : u_lay RX8 TX8 13 ∈ lw_tbl := kf_m2 (List.mem_of_getElem? (i := 217) rfl)
theorem wl_8_14 : u_lay RX8 TX8 14 ∈ lw_tbl := kf_m2 (List.mem_of_getElem? (i := 219) rfl)
theorem wl_8_15 : u_lay RX8 TX8 15 ∈ lw_tbl := kf_m2 (List.mem_of_getElem? (i := 221) rfl)
theorem wl_8_16 : u_lay RX8 TX8 16 ∈ lw_tbl := kf_m2 (List.mem_of_getElem? (i := 223) rfl)
set_option maxRecDepth 20000 in
theorem wl_8 : ∀ k, k < 17 → u_lay RX8 TX8 k ∈ lw_tbl := lt_s (lt_s (lt_s (lt_s (lt_s (lt_s (lt_s (lt_s (lt_s (lt_s (lt_s (lt_s (lt_s (lt_s (lt_s (lt_s (lt_s (lt_0) wl_8_0) wl_8_1) wl_8_2) wl_8_3) wl_8_4) wl_8_5) wl_8_6) wl_8_7) wl_8_8) wl_8_9) wl_8_10) wl_8_11) wl_8_12) wl_8_13) wl_8_14) wl_8_15) wl_8_16
theorem wi_8 : Cond.instantiable RX8 17 ∈ lw_tbl := kf_m2 (List.mem_of_getElem? (i := 6) rfl)
theorem wn_8 : Cond.initialized RX8 ∈ lw_tbl := kf_m1 (List.mem_of_getElem? (i := 11) rfl)
theorem wd_8 : ∀ j, j < 17 → defaultValue (tyX8 j) = vp_V ((kf_nw[8]?).getD []) j := by decide +kernel
theorem wl_9_0 : u_lay RX9 TX9 0 ∈ lw_tbl := kf_m1 (List.mem_of_getElem? (i := 63) rfl)
theorem wl_9_1 : u_lay RX9 TX9 1 ∈ lw_tbl := kf_m1 (List.mem_of_getElem? (i := 65) rfl)
theorem wl_9_2 : u_lay RX9 TX9 2 ∈ lw_tbl := kf_m1 (List.mem_of_getElem? (i := 67) rfl)
theorem wl_9_3 : u_lay RX9 TX9 3 ∈ lw_tbl := kf_m1 (List.mem_of_getElem? (i := 69) rfl)
theorem wl_9_4 : u_lay RX9 TX9 4 ∈ lw_tbl := kf_m1 (List.mem_of_getElem? (i := 71) rfl)
theorem wl_9_5 : u_lay RX9 TX9 5 ∈ lw_tbl := kf_m1 (List.mem_of_getElem? (i := 73) rfl)
theorem wl_9_6 : u_lay RX9 TX9 6 ∈ lw_tbl := kf_m1 (List.mem_of_getElem? (i := 75) rfl)
theorem wl_9_7 : u_lay RX9 TX9 7 ∈ lw_tbl := kf_m1 (List.mem_of_getElem? (i := 77) rfl)
set_option maxRecDepth 20000 in
theorem wl_9 : ∀ k, k < 8 → u_lay RX9 TX9 k ∈ lw_tbl := lt_s (lt_s (lt_s (lt_s (lt_s (lt_s (lt_s (lt_s (lt_0) wl_9_0) wl_9_1) wl_9_2) wl_9_3) wl_9_4) wl_9_5) wl_9_6) wl_9_7
theorem wi_9 : Cond.instantiable RX9 8 ∈ lw_tbl := kf_m1 (List.mem_of_getElem? (i := 26) rfl)
theorem wn_9 : Cond.initialized RX9 ∈ lw_tbl := kf_m1 (List.mem_of_getElem? (i := 2) rfl)
theorem wd_9 : ∀ j, j < 8 → defaultValue (tyX9 j) = vp_V ((kf_nw[9]?).getD []) j := by decide +kernel
theorem wl_10_0 : u_lay RX10 TX10 0 ∈ lw_tbl := kf_m1 (List.mem_of_getElem? (i := 155) rfl)
theorem wl_10_1 : u_lay RX10 TX10 1 ∈ lw_tbl := kf_m1 (List.mem_of_getElem? (i := 157) rfl)
theorem wl_10_2 : u_lay RX10 TX10 2 ∈ lw_tbl := kf_m1 (List.mem_of_getElem? (i := 159) rfl)
theorem wl_10_3 : u_lay RX10 TX10 3 ∈ lw_tbl := kf_m1 (List.mem_of_getElem? (i := 161) rfl)
theorem wl_10_4 : u_lay RX10 TX10 4 ∈ lw_tbl := kf_m1 (List.mem_of_getElem? (i := 163) rfl)
theorem wl_10_5 : u_lay RX10 TX10 5 ∈ lw_tbl := kf_m1 (List.mem_of_getElem? (i := 165) rfl)
theorem wl_10_6 : u_lay RX10 TX10 6 ∈ lw_tbl := kf_m1 (List.mem_of_getElem? (i := 167) rfl)
theorem wl_10_7 : u_lay RX10 TX10 7 ∈ lw_tbl := kf_m1 (List.mem_of_getElem? (i := 169) rfl)
theorem wl_10_8 : u_lay RX10 TX10 8 ∈ lw_tbl := kf_m1 (List.mem_of_getElem? (i := 171) rfl)
set_option maxRecDepth 20000 in
theorem wl_10 : ∀ k, k < 9 → u_lay RX10 TX10 k ∈ lw_tbl := lt_s (lt_s (lt_s (lt_s (lt_s (lt_s (lt_s (lt_s (lt_s (lt_0) wl_10_0) wl_10_1) wl_10_2) wl_10_3) wl_10_4) wl_10_5) wl_10_6) wl_10_7) wl_10_8
theorem wi_10 : Cond.instantiable RX10 9 ∈ lw_tbl := kf_m1 (List.mem_of_getElem? (i := 83) rfl)
theorem wn_10 : Cond.initialized RX10 ∈ lw_tbl := kf_m1 (List.mem_of_getElem? (i := 5) rfl)
theorem wd_10 : ∀ j, j < 9 → defaultValue (tyX10 j) = vp_V ((kf_nw[10]?).getD []) j := by decide +kernel
theorem wl_11_0 : u_lay RX11 TX11 0 ∈ lw_tbl := kf_m3 (List.mem_of_getElem? (i := 1) rfl)
theorem wl_11_1 : u_lay RX11 TX11 1 ∈ lw_tbl := kf_m3 (List.mem_of_getElem? (i := 3) rfl)
theorem wl_11_2 : u_lay RX11 TX11 2 ∈ lw_tbl := kf_m3 (List.mem_of_getElem? (i := 5) rfl)
theorem wl_11_3 : u_lay RX11 TX11 3 ∈ lw_tbl := kf_m3 (List.mem_of_getElem? (i := 7) rfl)
theorem wl_11_4 : u_lay RX11 TX11 4 ∈ lw_tbl := kf_m3 (List.mem_of_getElem? (i := 9) rfl)
theorem wl_11_5 : u_lay RX11 TX11 5 ∈ lw_tbl := kf_m3 (List.mem_of_getElem? (i := 11) rfl)
theorem wl_11_6 : u_lay RX11 TX11 6 ∈ lw_tbl := kf_m3 (List.mem_of_getElem? (i := 13) rfl)
theorem wl_11_7 : u_lay RX11 TX11 7 ∈ lw_tbl := kf_m3 (List.mem_of_getElem? (i := 15) rfl)
theorem wl_11_8 : u_lay RX11 TX11 8 ∈ lw_tbl := kf_m3 (List.mem_of_getElem? (i := 17) rfl)
theorem wl_11_9 : u_lay RX11 TX11 9 ∈ lw_tbl := kf_m3 (List.mem_of_getElem? (i := 19) rfl)
theorem wl_11_10 : u_lay RX11 TX11 10 ∈ lw_tbl := kf_m3 (List.mem_of_getElem? (i := 21) rfl)
theorem wl_11_11 : u_lay RX11 TX11 11 ∈ lw_tbl := kf_m3 (List.mem_of_getElem? (i := 23) rfl)
theorem wl_11_12 : u_lay RX11 TX11 12 ∈ lw_tbl := kf_m3 (List.mem_of_getElem? (i := 25) rfl)
set_option maxRecDepth 20000 in
theorem wl_11 : ∀ k, k < 13 → u_lay RX11 TX11 k ∈ lw_tbl := lt_s (lt_s (lt_s (lt_s (lt_s (lt_s (lt_s (lt_s (lt_s (lt_s (lt_s (lt_s (lt_s (lt_0) wl_11_0) wl_11_1) wl_11_2) wl_11_3) wl_11_4) wl_11_5) wl_11_6) wl_11_7) wl_11_8) wl_11_9) wl_11_10) wl_11_11) wl_11_12
theorem wi_11 : Cond.instantiable RX11 13 ∈ lw_tbl := kf_m1 (List.mem_of_getElem? (i := 18) rfl)
theorem wn_11 : Cond.initialized RX11 ∈ lw_tbl := kf_m1 (List.mem_of_getElem? (i := 1) rfl)
theorem wd_11 : ∀ j, j < 13 → defaultValue (tyX11 j) = vp_V ((kf_nw[11]?).getD []) j := by decide +kernel
theorem wl_12_0 : u_lay RX12 TX12 0 ∈ lw_tbl := kf_m5 (List.mem_of_getElem? (i := 89) rfl)
theorem wl_12_1 : u_lay RX12 TX12 1 ∈ lw_tbl := kf_m5 (List.mem_of_getElem? (i := 91) rfl)
theorem wl_12_2 : u_lay RX12 TX12 2 ∈ lw_tbl := kf_m5 (List.mem_of_getElem? (i := 93) rfl)
theorem wl_12_3 : u_lay RX12 TX12 3 ∈ lw_tbl := kf_m5 (List.mem_of_getElem? (i := 95) rfl)
theorem wl_12_4 : u_lay RX12 TX12 4 ∈ lw_tbl := kf_m5 (List.mem_of_getElem? (i := 97) rfl)
theorem wl_12_5 : u_lay RX12 TX12 5 ∈ lw_tbl := kf_m5 (List.mem_of_getElem? (i := 99) rfl)
theorem wl_12_6 : u_lay RX12 TX12 6 ∈ lw_tbl := kf_m5 (List.mem_of_getElem? (i := 101) rfl)
theorem wl_12_7 : u_lay RX12 TX12 7 ∈ lw_tbl := kf_m5 (List.mem_of_getElem? (i := 103) rfl)
theorem wl_12_8 : u_lay RX12 TX12 8 ∈ lw_tbl := kf_m5 (List.mem_of_getElem? (i := 105) rfl)
theorem wl_12_9 : u_lay RX12 TX12 9 ∈ lw_tbl := kf_m5 (List.mem_of_getElem? (i := 107) rfl)
theorem wl_12_10 : u_lay RX12 TX12 10 ∈ lw_tbl := kf_m5 (List.mem_of_getElem? (i := 109) rfl)
theorem wl_12_11 : u_lay RX12 TX12 11 ∈ lw_tbl := kf_m5 (List.mem_of_getElem? (i := 111) rfl)
theorem wl_12_12 : u_lay RX12 TX12 12 ∈ lw_tbl := kf_m5 (List.mem_of_getElem? (i := 113) rfl)
theorem wl_12_13 : u_lay RX12 TX12 13 ∈ lw_tbl := kf_m5 (List.mem_of_getElem? (i := 115) rfl)
theorem wl_12_14 : u_lay RX12 TX12 14 ∈ lw_tbl := kf_m5 (List.mem_of_getElem? (i := 117) rfl)
theorem wl_12_15 : u_lay RX12 TX12 15 ∈ lw_tbl := kf_m5 (List.mem_of_getElem? (i := 119) rfl)
theorem wl_12_16 : u_lay RX12 TX12 16 ∈ lw_tbl := kf_m5 (List.mem_of_getElem? (i := 121) rfl)
theorem wl_12_17 : u_lay RX12 TX12 17 ∈ lw_tbl := kf_m5 (List.mem_of_getElem? (i := 123) rfl)
theorem wl_12_18 : u_lay RX12 TX12 18 ∈ lw_tbl := kf_m5 (List.mem_of_getElem? (i := 125) rfl)
theorem wl_12_19 : u_lay RX12 TX12 19 ∈ lw_tbl := kf_m5 (List.mem_of_getElem? (i := 127) rfl)
theorem wl_12_20 : u_lay RX12 TX12 20 ∈ lw_tbl := kf_m5 (List.mem_of_getElem? (i := 129) rfl)
theorem wl_12_21 : u_lay RX12 TX12 21 ∈ lw_tbl := kf_m5 (List.mem_of_getElem? (i := 131) rfl)
theorem wl_12_22 : u_lay RX12 TX12 22 ∈ lw_tbl := kf_m5 (List.mem_of_getElem? (i := 133) rfl)
theorem wl_12_23 : u_lay RX12 TX12 23 ∈ lw_tbl := kf_m5 (List.mem_of_getElem? (i := 135) rfl)
theorem wl_12_24 : u_lay RX12 TX12 24 ∈ lw_tbl := kf_m5 (List.mem_of_getElem? (i := 137) rfl)
theorem wl_12_25 : u_lay RX12 TX12 25 ∈ lw_tbl := kf_m5 (List.mem_of_getElem? (i := 139) rfl)
theorem wl_12_26 : u_lay RX12 TX12 26 ∈ lw_tbl := kf_m5 (List.mem_of_getElem? (i := 141) rfl)
theorem wl_12_27 : u_lay RX12 TX12 27 ∈ lw_tbl := kf_m5 (List.mem_of_getElem? (i := 143) rfl)
theorem wl_12_28 : u_lay RX12 TX12 28 ∈ lw_tbl := kf_m5 (List.mem_of_getElem? (i := 145) rfl)
theorem wl_12_29 : u_lay RX12 TX12 29 ∈ lw_tbl := kf_m5 (List.mem_of_getElem? (i := 147) rfl)
theorem wl_12_30 : u_lay RX12 TX12 30 ∈ lw_tbl := kf_m5 (List.mem_of_getElem? (i := 149) rfl)
theorem wl_12_31 : u_lay RX12 TX12 31 ∈ lw_tbl := kf_m5 (List.mem_of_getElem? (i := 151) rfl)
theorem wl_12_32 : u_lay RX12 TX12 32 ∈ lw_tbl := kf_m5 (List.mem_of_getElem? (i := 153) rfl)
theorem wl_12_33 : u_lay RX12 TX12 33 ∈ lw_tbl := kf_m5 (List.mem_of_getElem? (i := 155) rfl)
theorem wl_12_34 : u_lay RX12 TX12 34 ∈ lw_tbl := kf_m5 (List.mem_of_getElem? (i := 157) rfl)
theorem wl_12_35 : u_lay RX12 TX12 35 ∈ lw_tbl := kf_m5 (List.mem_of_getElem? (i := 159) rfl)
theorem wl_12_36 : u_lay RX12 TX12 36 ∈ lw_tbl := kf_m5 (List.mem_of_getElem? (i := 161) rfl)
theorem wl_12_37 : u_lay RX12 TX12 37 ∈ lw_tbl := kf_m5 (List.mem_of_getElem? (i := 163) rfl)
theorem wl_12_38 : u_lay RX12 TX12 38 ∈ lw_tbl := kf_m5 (List.mem_of_getElem? (i := 165) rfl)
theorem wl_12_39 : u_lay RX12 TX12 39 ∈ lw_tbl := kf_m5 (List.mem_of_getElem? (i := 167) rfl)
theorem wl_12_40 : u_lay RX12 TX12 40 ∈ lw_tbl := kf_m5 (List.mem_of_getElem? (i := 169) rfl)
theorem wl_12_41 : u_lay RX12 TX12 41 ∈ lw_tbl := kf_m5 (List.mem_of_getElem? (i := 171) rfl)
theorem wl_12_42 : u_lay RX12 TX12 42 ∈ lw_tbl := kf_m5 (List.mem_of_getElem? (i := 173) rfl)
theorem wl_12_43 : u_lay RX12 TX12 43 ∈ lw_tbl := kf_m5 (List.mem_of_getElem? (i := 175) rfl)
theorem wl_12_44 : u_lay RX12 TX12 44 ∈ lw_tbl := kf_m5 (List.mem_of_getElem? (i := 177) rfl)
theorem wl_12_45 : u_lay RX12 TX12 45 ∈ lw_tbl := kf_m5 (List.mem_of_getElem? (i := 179) rfl)
theorem wl_12_46 : u_lay RX12 TX12 46 ∈ lw_tbl := kf_m5 (List.mem_of_getElem? (i := 181) rfl)
theorem wl_12_47 : u_lay RX12 TX12 47 ∈ lw_tbl := kf_m5 (List.mem_of_getElem? (i := 183) rfl)
theorem wl_12_48 : u_lay RX12 TX12 48 ∈ lw_tbl := kf_m5 (List.mem_of_getElem? (i := 185) rfl)
theorem wl_12_49 : u_lay RX12 TX12 49 ∈ lw_tbl := kf_m5 (List.mem_of_getElem? (i := 187) rfl)
theorem wl_12_50 : u_lay RX12 TX12 50 ∈ lw_tbl := kf_m5 (List.mem_of_getElem? (i := 189) rfl)
theorem wl_12_51 : u_lay RX12 TX12 51 ∈ lw_tbl := kf_m5 (List.mem_of_getElem? (i := 191) rfl)
theorem wl_12_52 : u_lay RX12 TX12 52 ∈ lw_tbl := kf_m5 (List.mem_of_getElem? (i := 193) rfl)
theorem wl_12_53 : u_lay RX12 TX12 53 ∈ lw_tbl := kf_m5 (List.mem_of_getElem? (i := 195) rfl)
theorem wl_12_54 : u_lay RX12 TX12 54 ∈ lw_tbl := kf_m5 (List.mem_of_getElem? (i := 197) rfl)
theorem wl_12_55 : u_lay RX12 TX12 55 ∈ lw_tbl := kf_m5 (List.mem_of_getElem? (i := 199) rfl)
theorem wl_12_56 : u_lay RX12 TX12 56 ∈ lw_tbl := kf_m5 (List.mem_of_getElem? (i := 201) rfl)
theorem wl_12_57 : u_lay RX12 TX12 57 ∈ lw_tbl := kf_m5 (List.mem_of_getElem? (i := 203) rfl)
theorem wl_12_58 : u_lay RX12 TX12 58 ∈ lw_tbl := kf_m5 (List.mem_of_getElem? (i := 205) rfl)
theorem wl_12_59 : u_lay RX12 TX12 59 ∈ lw_tbl := kf_m5 (List.mem_of_getElem? (i := 207) rfl)
theorem wl_12_60 : u_lay RX12 TX12 60 ∈ lw_tbl := kf_m5 (List.mem_of_getElem? (i := 209) rfl)
theorem wl_12_61 : u_lay RX12 TX12 61 ∈ lw_tbl := kf_m5 (List.mem_of_getElem? (i := 211) rfl)
theorem wl_12_62 : u_lay RX12 TX12 62 ∈ lw_tbl := kf_m5 (List.mem_of_getElem? (i := 213) rfl)
theorem wl_12_63 : u_lay RX12 TX12 63 ∈ lw_tbl := kf_m5 (List.mem_of_getElem? (i := 215) rfl)
theorem wl_12_64 : u_lay RX12 TX12 64 ∈ lw_tbl := kf_m5 (List.mem_of_getElem? (i := 217) rfl)
theorem wl_12_65 : u_lay RX12 TX12 65 ∈ lw_tbl := kf_m5 (List.mem_of_getElem? (i := 219) rfl)
theorem wl_12_66 : u_lay RX12 TX12 66 ∈ lw_tbl := kf_m5 (List.mem_of_getElem? (i := 221) rfl)
theorem wl_12_67 : u_lay RX12 TX12 67 ∈ lw_tbl := kf_m5 (List.mem_of_getElem? (i := 223) rfl)
theorem wl_12_68 : u_lay RX12 TX12 68 ∈ lw_tbl := kf_m5 (List.mem_of_getElem? (i := 225) rfl)
theorem wl_12_69 : u_lay RX12 TX12 69 ∈ lw_tbl := kf_m5 (List.mem_of_getElem? (i := 227) rfl)
theorem wl_12_70 : u_lay RX12 TX12 70 ∈ lw_tbl := kf_m5 (List.mem_of_getElem? (i := 229) rfl)
theorem wl_12_71 : u_lay RX12 TX12 71 ∈ lw_tbl := kf_m5 (List.mem_of_getElem? (i := 231) rfl)
theorem wl_12_72 : u_lay RX12 TX12 72 ∈ lw_tbl := kf_m5 (List.mem_of_getElem? (i := 233) rfl)
theorem wl_12_73 : u_lay RX12 TX12 73 ∈ lw_tbl := kf_m5 (List.mem_of_getElem? (i := 235) rfl)
theorem wl_12_74 : u_lay RX12 TX12 74 ∈ lw_tbl := kf_m5 (List.mem_of_getElem? (i := 237) rfl)
set_option maxRecDepth 20000 in
theorem wl_12 : ∀ k, k < 75 → u_lay RX12 TX12 k ∈ lw_tbl := lt_s (lt_s (lt_s (lt_s (lt_s (lt_s (lt_s (lt_s (lt_s (lt_s (lt_s (lt_s (lt_s (lt_s (lt_s (lt_s (lt_s (lt_s (lt_s (lt_s (lt_s (lt_s (lt_s (lt_s (lt_s (lt_s (lt_s (lt_s (lt_s (lt_s (lt_s (lt_s (lt_s (lt_s (lt_s (lt_s (lt_s (lt_s (lt_s (lt_s (lt_s (lt_s (lt_s (lt_s (lt_s (lt_s (lt_s (lt_s (lt_s (lt_s (lt_s (lt_s (lt_s (lt_s (lt_s (lt_s (lt_s (lt_s (lt_s (lt_s (lt_s (lt_s (lt_s (lt_s (lt_s (lt_s (lt_s (lt_s (lt_s (lt_s (lt_s (lt_s (lt_s (lt_s (lt_s (lt_0) wl_12_0) wl_12_1) wl_12_2) wl_12_3) wl_12_4) wl_12_5) wl_12_6) wl_12_7) wl_12_8) wl_12_9) wl_12_10) wl_12_11) wl_12_12) wl_12_13) wl_12_14) wl_12_15) wl_12_16) wl_12_17) wl_12_18) wl_12_19) wl_12_20) wl_12_21) wl_12_22) wl_12_23) wl_12_24) wl_12_25) wl_12_26) wl_12_27) wl_12_28) wl_12_29) wl_12_30) wl_12_31) wl_12_32) wl_12_33) wl_12_34) wl_12_35) wl_12_36) wl_12_37) wl_12_38) wl_12_39) wl_12_40) wl_12_41) wl_12_42) wl_12_43) wl_12_44) wl_12_45) wl_12_46) wl_12_47) wl_12_48) wl_12_49) wl_12_50) wl_12_51) wl_12_52) wl_12_53) wl_12_54) wl_12_55) wl_12_56) wl_12_57) wl_12_58) wl_12_59) wl_12_60) wl_12_61) wl_12_62) wl_12_63) wl_12_64) wl_12_65) wl_12_66) wl_12_67) wl_12_68) wl_12_69) wl_12_70) wl_12_71) wl_12_72) wl_12_73) wl_12_74
theorem wi_12 : Cond.instantiable RX12 75 ∈ lw_tbl := kf_m4 (List.mem_of_getElem? (i := 195) rfl)
theorem wn_12 : Cond.initialized RX12 ∈ lw_tbl := kf_m1 (List.mem_of_getElem? (i := 15) rfl)
theorem wd_12 : ∀ j, j < 75 → defaultValue (tyX12 j) = vp_V ((kf_nw[12]?).getD []) j := by decide +kernel
/-- all that is used of a class -/
def kf_isCl (c : Nat) (q : vw_C) : Prop := q.1 = kf_cno c ∧ (∀ k, k < q.2.2 → u_lay q.1 q.2.1 k ∈ lw_tbl) ∧ Cond.instantiable q.1 q.2.2 ∈ lw_tbl ∧ Cond.initialized q.1 ∈ lw_tbl ∧ (∀ a, a < q.2.2 → ∀ b, b < q.2.2 → a ≠ b → (q.2.1 a).2.1 ≠ (q.2.1 b).2.1) ∧ (∃ ty : Nat → FieldType, (∀ k, k < q.2.2 → parseFieldDescriptor (q.2.1 k).2.2.1 = some (ty k)) ∧ ∃ fs, kf_nw[c]? = some fs ∧ fs.length = q.2.2 ∧ ∀ j, j < q.2.2 → defaultValue (ty j) = vp_V fs j)
theorem cl_ok_0 : kf_isCl 0 (RX0, TX0, 12) := ⟨rfl, wl_0, wi_0, wn_0, nmX0, tyX0, tyX0_ok, _, rfl, rfl, wd_0⟩
theorem cl_ok_1 : kf_isCl 1 (RX1, TX1, 6) := ⟨rfl, wl_1, wi_1, wn_1, nmX1, tyX1, tyX1_ok, _, rfl, rfl, wd_1⟩
theorem cl_ok_2 : kf_isCl 2 (RX2, TX2, 3) := ⟨rfl, wl_2, wi_2, wn_2, nmX2, tyX2, tyX2_ok, _, rfl, rfl, wd_2⟩
theorem cl_ok_3 : kf_isCl 3 (RX3, TX3, 7) := ⟨rfl, wl_3, wi_3, wn_3, nmX3, tyX3, tyX3_ok, _, rfl, rfl, wd_3⟩
theorem cl_ok_4 : kf_isCl 4 (RX4, TX4, 3) := ⟨rfl, wl_4, wi_4, wn_4, nmX4, tyX4, tyX4_ok, _, rfl, rfl, wd_4⟩
theorem cl_ok_5 : kf_isCl 5 (RX5, TX5, 3) := ⟨rfl, wl_5, wi_5, wn_5, nmX5, tyX5, tyX5_ok, _, rfl, rfl, wd_5⟩
theorem cl_ok_6 : kf_isCl 6 (RX6, TX6, 2) := ⟨rfl, wl_6, wi_6, wn_6, nmX6, tyX6, tyX6_ok, _, rfl, rfl, wd_6⟩
theorem cl_ok_7 : kf_isCl 7 (RX7, TX7, 2) := ⟨rfl, wl_7, wi_7, wn_7, nmX7, tyX7, tyX7_ok, _, rfl, rfl, wd_7⟩
theorem cl_ok_8 : kf_isCl 8 (RX8, TX8, 17) := ⟨rfl, wl_8, wi_8, wn_8, nmX8, tyX8, tyX8_ok, _, rfl, rfl, wd_8⟩
theorem cl_ok_9 : kf_isCl 9 (RX9, TX9, 8) := ⟨rfl, wl_9, wi_9, wn_9, nmX9, tyX9, tyX9_ok, _, rfl, rfl, wd_9⟩
theorem cl_ok_10 : kf_isCl 10 (RX10, TX10, 9) := ⟨rfl, wl_10, wi_10, wn_10, nmX10, tyX10, tyX10_ok, _, rfl, rfl, wd_10⟩
theorem cl_ok_11 : kf_isCl 11 (RX11, TX11, 13) := ⟨rfl, wl_11, wi_11, wn_11, nmX11, tyX11, tyX11_ok, _, rfl, rfl, wd_11⟩
theorem cl_ok_12 : kf_isCl 12 (RX12, TX12, 75) := ⟨rfl, wl_12, wi_12, wn_12, nmX12, tyX12, tyX12_ok, _, rfl, rfl, wd_12⟩
theorem kf_cl_ok : ∀ (c : Nat) (q : vw_C), vwCl[c]? = some q → kf_isCl c q := by
  intro c q h
  match c, h with
  | 0, h => cases h; exact cl_ok_0
  | 1, h => cases h; exact cl_ok_1
  | 2, h => cases h; exact cl_ok_2
  | 3, h => cases h; exact cl_ok_3
  | 4, h => cases h; exact cl_ok_4
  | 5, h => cases h; exact cl_ok_5
  | 6, h => cases h; exact cl_ok_6
  | 7, h => cases h; exact cl_ok_7
  | 8, h => cases h; exact cl_ok_8
  | 9, h => cases h; exact cl_ok_9
  | 10, h => cases h; exact cl_ok_10
  | 11, h => cases h; exact cl_ok_11
  | 12, h => cases h; exact cl_ok_12
  | c + 13, h => simp [vwCl] at h
theorem wo_Point : Cond.arrayOver (.object "KeyFob$Point") ∈ lw_tbl := kf_m2 (List.mem_of_getElem? (i := 71) rfl)
theorem wo_Key : Cond.arrayOver (.object "KeyFob$Key") ∈ lw_tbl := kf_m1 (List.mem_of_getElem? (i := 181) rfl)
theorem wa_int : Cond.arrayClass .int ∈ lw_tbl := kf_m1 (List.mem_of_getElem? (i := 53) rfl)
theorem wa_long : Cond.arrayClass .long ∈ lw_tbl := kf_m2 (List.mem_of_getElem? (i := 65) rfl)
theorem wa_boolean : Cond.arrayClass .boolean ∈ lw_tbl := kf_m6 (List.mem_of_getElem? (i := 0) rfl)
theorem wx_cs : Cond.static arraycopyName ∈ lw_tbl := kf_m1 (List.mem_of_getElem? (i := 111) rfl)
theorem wx_cn : Cond.native arraycopyName ∈ lw_tbl := kf_m1 (List.mem_of_getElem? (i := 112) rfl)
theorem wx_ci : Cond.initialized "java/lang/System" ∈ lw_tbl := kf_m1 (List.mem_of_getElem? (i := 7) rfl)
theorem wx_maxs : Cond.static Lib.Math.max.name ∈ lw_tbl := kf_m1 (List.mem_of_getElem? (i := 38) rfl)
theorem wx_maxc : Cond.code Lib.Math.max.name Lib.Math.max.code 2 (some .int) ∈ lw_tbl := kf_m1 (List.mem_of_getElem? (i := 39) rfl)
theorem wx_mins : Cond.static Lib.Math.min.name ∈ lw_tbl := kf_m3 (List.mem_of_getElem? (i := 124) rfl)
theorem wx_minc : Cond.code Lib.Math.min.name Lib.Math.min.code 2 (some .int) ∈ lw_tbl := kf_m3 (List.mem_of_getElem? (i := 125) rfl)
theorem wx_mi : Cond.initialized "java/lang/Math" ∈ lw_tbl := kf_m1 (List.mem_of_getElem? (i := 4) rfl)
theorem wx_oi : Cond.instanceMethod objectInit ∈ lw_tbl := kf_m1 (List.mem_of_getElem? (i := 23) rfl)
theorem wx_oc : Cond.code objectInit ⟨#[0xb1]⟩ 1 none ∈ lw_tbl := kf_m1 (List.mem_of_getElem? (i := 24) rfl)
