/-! calls -/
/-- a method's whole run -/
noncomputable def kf_cl (k : Nat) (as : List Value) (M : kf_M) : Option kf_R := (kf_ini kf_mx k as).bind fun l0 => kf_ev k 0 l0 [] M
section CALLS
variable {cs : List Int64} {nw : List (List Value)} {own : List Nat} {rt pc ln n a b e t k : Nat} {ls : kf_L} {st r : List Value} {M : kf_M} {x y : Int32} {p : Int64} {v1 v2 v3 v4 v5 v6 : Value}
theorem d_C' {as : List Value} {k' : Nat} : kf_do kf_ev kf_mx k (aC k' as pc ls st M) = (kf_cl k' as M).bind fun q => kf_ev k pc ls (q.1.toList ++ st) q.2 := by
  rw [d_C, kf_cl, Option.bind_assoc]
theorem kf_w_0 : kf_w [] = 0 := rfl
theorem kf_w_i : kf_w (.int x :: r) = kf_w r + 1 := by simp [kf_w, Value.category]; omega
theorem kf_w_a : kf_w (.ref a :: r) = kf_w r + 1 := by simp [kf_w, Value.category]; omega
theorem kf_w_n : kf_w (.null :: r) = kf_w r + 1 := by simp [kf_w, Value.category]; omega
theorem kf_w_j : kf_w (.long p :: r) = kf_w r + 2 := by simp [kf_w, Value.category]; omega
theorem c_0 : kf_call k 0 pc ls r M = if kf_w r ≤ 8 then aC k [] pc ls r M else none := by simp [kf_call]
theorem c_1 : kf_call k 1 pc ls (v1 :: r) M = if kf_w r ≤ 8 then aC k [v1] pc ls r M else none := by simp [kf_call]
theorem c_2 : kf_call k 2 pc ls (v2 :: v1 :: r) M = if kf_w r ≤ 8 then aC k [v1, v2] pc ls r M else none := by simp [kf_call]
theorem c_3 : kf_call k 3 pc ls (v3 :: v2 :: v1 :: r) M = if kf_w r ≤ 8 then aC k [v1, v2, v3] pc ls r M else none := by simp [kf_call]
theorem c_4 : kf_call k 4 pc ls (v4 :: v3 :: v2 :: v1 :: r) M = if kf_w r ≤ 8 then aC k [v1, v2, v3, v4] pc ls r M else none := by simp [kf_call]
theorem c_5 : kf_call k 5 pc ls (v5 :: v4 :: v3 :: v2 :: v1 :: r) M = if kf_w r ≤ 8 then aC k [v1, v2, v3, v4, v5] pc ls r M else none := by simp [kf_call]
theorem c_6 : kf_call k 6 pc ls (v6 :: v5 :: v4 :: v3 :: v2 :: v1 :: r) M = if kf_w r ≤ 8 then aC k [v1, v2, v3, v4, v5, v6] pc ls r M else none := by simp [kf_call]
theorem kf_rcv_ok {c : Nat} {fs : List Value} (h : gO M b = some (c, fs)) : kf_rcv M c (some (.ref b)) = true := by simp [kf_rcv, h]
theorem tl_0 : (none : Option Value).toList ++ st = st := rfl
theorem tl_1 {v : Value} : (some v).toList ++ st = v :: st := rfl
end CALLS
theorem cs_0 : kf_cs[0]? = some (-3 : Int64) := rfl
theorem cs_1 : kf_cs[1]? = some (-1 : Int64) := rfl
theorem cs_2 : kf_cs[2]? = some (2 : Int64) := rfl
theorem cs_3 : kf_cs[3]? = some (3 : Int64) := rfl
theorem cs_4 : kf_cs[4]? = some (8 : Int64) := rfl
theorem cs_5 : kf_cs[5]? = some (9 : Int64) := rfl
theorem cs_6 : kf_cs[6]? = some (234929231 : Int64) := rfl
theorem cs_7 : kf_cs[7]? = some (268435455 : Int64) := rfl
theorem cs_8 : kf_cs[8]? = some (4294967295 : Int64) := rfl
theorem ow_0 : kf_own[0]? = some 0 := rfl
theorem ow_1 : kf_own[1]? = some 0 := rfl
theorem ow_2 : kf_own[2]? = some 0 := rfl
theorem ow_3 : kf_own[3]? = some 0 := rfl
theorem ow_4 : kf_own[4]? = some 0 := rfl
theorem ow_5 : kf_own[5]? = some 0 := rfl
theorem ow_6 : kf_own[6]? = some 0 := rfl
theorem ow_7 : kf_own[7]? = some 1 := rfl
theorem ow_8 : kf_own[8]? = some 1 := rfl
theorem ow_9 : kf_own[9]? = some 1 := rfl
theorem ow_10 : kf_own[10]? = some 1 := rfl
theorem ow_11 : kf_own[11]? = some 1 := rfl
theorem ow_12 : kf_own[12]? = some 1 := rfl
theorem ow_13 : kf_own[13]? = some 1 := rfl
theorem ow_14 : kf_own[14]? = some 1 := rfl
theorem ow_15 : kf_own[15]? = some 1 := rfl
theorem ow_16 : kf_own[16]? = some 1 := rfl
theorem ow_17 : kf_own[17]? = some 1 := rfl
theorem ow_18 : kf_own[18]? = some 1 := rfl
theorem ow_19 : kf_own[19]? = some 1 := rfl
theorem ow_20 : kf_own[20]? = some 1 := rfl
theorem ow_21 : kf_own[21]? = some 1 := rfl
theorem ow_22 : kf_own[22]? = some 1 := rfl
theorem ow_23 : kf_own[23]? = some 1 := rfl
theorem ow_24 : kf_own[24]? = some 2 := rfl
theorem ow_25 : kf_own[25]? = some 2 := rfl
theorem ow_26 : kf_own[26]? = some 2 := rfl
theorem ow_27 : kf_own[27]? = some 2 := rfl
theorem ow_28 : kf_own[28]? = some 2 := rfl
theorem ow_29 : kf_own[29]? = some 2 := rfl
theorem ow_30 : kf_own[30]? = some 3 := rfl
theorem ow_31 : kf_own[31]? = some 3 := rfl
theorem ow_32 : kf_own[32]? = some 3 := rfl
theorem ow_33 : kf_own[33]? = some 3 := rfl
theorem ow_34 : kf_own[34]? = some 4 := rfl
theorem ow_35 : kf_own[35]? = some 4 := rfl
theorem ow_36 : kf_own[36]? = some 5 := rfl
theorem ow_37 : kf_own[37]? = some 5 := rfl
theorem ow_38 : kf_own[38]? = some 5 := rfl
theorem ow_39 : kf_own[39]? = some 5 := rfl
theorem ow_40 : kf_own[40]? = some 5 := rfl
theorem ow_41 : kf_own[41]? = some 5 := rfl
theorem ow_42 : kf_own[42]? = some 6 := rfl
theorem ow_43 : kf_own[43]? = some 6 := rfl
theorem ow_44 : kf_own[44]? = some 6 := rfl
theorem ow_45 : kf_own[45]? = some 6 := rfl
theorem ow_46 : kf_own[46]? = some 6 := rfl
theorem ow_47 : kf_own[47]? = some 7 := rfl
theorem ow_48 : kf_own[48]? = some 7 := rfl
theorem ow_49 : kf_own[49]? = some 7 := rfl
theorem ow_50 : kf_own[50]? = some 7 := rfl
theorem ow_51 : kf_own[51]? = some 7 := rfl
theorem ow_52 : kf_own[52]? = some 7 := rfl
theorem ow_53 : kf_own[53]? = some 7 := rfl
theorem ow_54 : kf_own[54]? = some 7 := rfl
theorem ow_55 : kf_own[55]? = some 7 := rfl
theorem ow_56 : kf_own[56]? = some 7 := rfl
theorem ow_57 : kf_own[57]? = some 8 := rfl
theorem ow_58 : kf_own[58]? = some 8 := rfl
theorem ow_59 : kf_own[59]? = some 8 := rfl
theorem ow_60 : kf_own[60]? = some 8 := rfl
theorem ow_61 : kf_own[61]? = some 8 := rfl
theorem ow_62 : kf_own[62]? = some 8 := rfl
theorem ow_63 : kf_own[63]? = some 8 := rfl
theorem ow_64 : kf_own[64]? = some 8 := rfl
theorem ow_65 : kf_own[65]? = some 8 := rfl
theorem ow_66 : kf_own[66]? = some 9 := rfl
theorem ow_67 : kf_own[67]? = some 9 := rfl
theorem ow_68 : kf_own[68]? = some 9 := rfl
theorem ow_69 : kf_own[69]? = some 9 := rfl
theorem ow_70 : kf_own[70]? = some 9 := rfl
theorem ow_71 : kf_own[71]? = some 9 := rfl
theorem ow_72 : kf_own[72]? = some 9 := rfl
theorem ow_73 : kf_own[73]? = some 9 := rfl
theorem ow_74 : kf_own[74]? = some 9 := rfl
theorem ow_75 : kf_own[75]? = some 9 := rfl
theorem ow_76 : kf_own[76]? = some 9 := rfl
theorem ow_77 : kf_own[77]? = some 9 := rfl
theorem ow_78 : kf_own[78]? = some 9 := rfl
theorem ow_79 : kf_own[79]? = some 9 := rfl
theorem ow_80 : kf_own[80]? = some 9 := rfl
theorem ow_81 : kf_own[81]? = some 9 := rfl
theorem ow_82 : kf_own[82]? = some 9 := rfl
theorem ow_83 : kf_own[83]? = some 9 := rfl
theorem ow_84 : kf_own[84]? = some 9 := rfl
theorem ow_85 : kf_own[85]? = some 9 := rfl
theorem ow_86 : kf_own[86]? = some 10 := rfl
theorem ow_87 : kf_own[87]? = some 10 := rfl
theorem ow_88 : kf_own[88]? = some 10 := rfl
theorem ow_89 : kf_own[89]? = some 10 := rfl
theorem ow_90 : kf_own[90]? = some 10 := rfl
theorem ow_91 : kf_own[91]? = some 10 := rfl
theorem ow_92 : kf_own[92]? = some 10 := rfl
theorem ow_93 : kf_own[93]? = some 10 := rfl
theorem ow_94 : kf_own[94]? = some 10 := rfl
theorem ow_95 : kf_own[95]? = some 11 := rfl
theorem ow_96 : kf_own[96]? = some 11 := rfl
theorem ow_97 : kf_own[97]? = some 11 := rfl
theorem ow_98 : kf_own[98]? = some 11 := rfl
theorem ow_99 : kf_own[99]? = some 11 := rfl
theorem ow_100 : kf_own[100]? = some 11 := rfl
theorem ow_101 : kf_own[101]? = some 11 := rfl
theorem ow_102 : kf_own[102]? = some 11 := rfl
theorem ow_103 : kf_own[103]? = some 11 := rfl
theorem ow_104 : kf_own[104]? = some 11 := rfl
theorem ow_105 : kf_own[105]? = some 11 := rfl
theorem ow_106 : kf_own[106]? = some 11 := rfl
theorem ow_107 : kf_own[107]? = some 11 := rfl
theorem ow_108 : kf_own[108]? = some 11 := rfl
theorem ow_109 : kf_own[109]? = some 11 := rfl
theorem ow_110 : kf_own[110]? = some 11 := rfl
theorem ow_111 : kf_own[111]? = some 11 := rfl
theorem ow_112 : kf_own[112]? = some 11 := rfl
theorem ow_113 : kf_own[113]? = some 11 := rfl
theorem ow_114 : kf_own[114]? = some 11 := rfl
theorem ow_115 : kf_own[115]? = some 11 := rfl
theorem ow_116 : kf_own[116]? = some 11 := rfl
theorem ow_117 : kf_own[117]? = some 11 := rfl
theorem ow_118 : kf_own[118]? = some 11 := rfl
theorem ow_119 : kf_own[119]? = some 11 := rfl
theorem ow_120 : kf_own[120]? = some 12 := rfl
theorem ow_121 : kf_own[121]? = some 12 := rfl
theorem ow_122 : kf_own[122]? = some 12 := rfl
theorem ow_123 : kf_own[123]? = some 12 := rfl
theorem ow_124 : kf_own[124]? = some 12 := rfl
theorem ow_125 : kf_own[125]? = some 12 := rfl
theorem ow_126 : kf_own[126]? = some 12 := rfl
theorem ow_127 : kf_own[127]? = some 12 := rfl
theorem ow_128 : kf_own[128]? = some 12 := rfl
theorem ow_129 : kf_own[129]? = some 12 := rfl
theorem ow_130 : kf_own[130]? = some 12 := rfl
theorem ow_131 : kf_own[131]? = some 12 := rfl
theorem ow_132 : kf_own[132]? = some 12 := rfl
theorem ow_133 : kf_own[133]? = some 12 := rfl
theorem ow_134 : kf_own[134]? = some 12 := rfl
theorem ow_135 : kf_own[135]? = some 12 := rfl
theorem ow_136 : kf_own[136]? = some 12 := rfl
theorem ow_137 : kf_own[137]? = some 12 := rfl
theorem ow_138 : kf_own[138]? = some 12 := rfl
theorem ow_139 : kf_own[139]? = some 12 := rfl
theorem ow_140 : kf_own[140]? = some 12 := rfl
theorem ow_141 : kf_own[141]? = some 12 := rfl
theorem ow_142 : kf_own[142]? = some 12 := rfl
theorem ow_143 : kf_own[143]? = some 12 := rfl
theorem ow_144 : kf_own[144]? = some 12 := rfl
theorem ow_145 : kf_own[145]? = some 12 := rfl
theorem ow_146 : kf_own[146]? = some 12 := rfl
theorem ow_147 : kf_own[147]? = some 12 := rfl
theorem ow_148 : kf_own[148]? = some 12 := rfl
theorem ow_149 : kf_own[149]? = some 12 := rfl
theorem ow_150 : kf_own[150]? = some 12 := rfl
theorem ow_151 : kf_own[151]? = some 12 := rfl
theorem ow_152 : kf_own[152]? = some 12 := rfl
theorem ow_153 : kf_own[153]? = some 12 := rfl
theorem ow_154 : kf_own[154]? = some 12 := rfl
theorem ow_155 : kf_own[155]? = some 12 := rfl
theorem ow_156 : kf_own[156]? = some 12 := rfl
theorem ow_157 : kf_own[157]? = some 12 := rfl
theorem ow_158 : kf_own[158]? = some 12 := rfl
theorem ow_159 : kf_own[159]? = some 12 := rfl
theorem ow_160 : kf_own[160]? = some 12 := rfl
theorem ow_161 : kf_own[161]? = some 12 := rfl
theorem ow_162 : kf_own[162]? = some 12 := rfl
theorem ow_163 : kf_own[163]? = some 12 := rfl
theorem ow_164 : kf_own[164]? = some 12 := rfl
theorem ow_165 : kf_own[165]? = some 12 := rfl
theorem ow_166 : kf_own[166]? = some 12 := rfl
theorem ow_167 : kf_own[167]? = some 12 := rfl
theorem ow_168 : kf_own[168]? = some 12 := rfl
theorem ow_169 : kf_own[169]? = some 12 := rfl
theorem ow_170 : kf_own[170]? = some 12 := rfl
theorem ow_171 : kf_own[171]? = some 12 := rfl
theorem ow_172 : kf_own[172]? = some 12 := rfl
theorem ow_173 : kf_own[173]? = some 12 := rfl
theorem ow_174 : kf_own[174]? = some 12 := rfl
theorem ow_175 : kf_own[175]? = some 12 := rfl
theorem ow_176 : kf_own[176]? = some 12 := rfl
theorem ow_177 : kf_own[177]? = some 12 := rfl
theorem ow_178 : kf_own[178]? = some 12 := rfl
theorem ow_179 : kf_own[179]? = some 12 := rfl
theorem ow_180 : kf_own[180]? = some 12 := rfl
theorem ow_181 : kf_own[181]? = some 12 := rfl
theorem ow_182 : kf_own[182]? = some 12 := rfl
theorem ow_183 : kf_own[183]? = some 12 := rfl
theorem ow_184 : kf_own[184]? = some 12 := rfl
theorem ow_185 : kf_own[185]? = some 12 := rfl
theorem ow_186 : kf_own[186]? = some 12 := rfl
theorem ow_187 : kf_own[187]? = some 12 := rfl
theorem ow_188 : kf_own[188]? = some 12 := rfl
theorem ow_189 : kf_own[189]? = some 12 := rfl
theorem ow_190 : kf_own[190]? = some 12 := rfl
theorem ow_191 : kf_own[191]? = some 12 := rfl
theorem ow_192 : kf_own[192]? = some 12 := rfl
theorem ow_193 : kf_own[193]? = some 12 := rfl
theorem ow_194 : kf_own[194]? = some 12 := rfl
theorem ow_195 : kf_own[195]? = some 12 := rfl
theorem ow_196 : kf_own[196]? = some 12 := rfl
theorem ow_197 : kf_own[197]? = some 12 := rfl
theorem ow_198 : kf_own[198]? = some 12 := rfl
theorem ow_199 : kf_own[199]? = some 12 := rfl
theorem ow_200 : kf_own[200]? = some 12 := rfl
theorem ow_201 : kf_own[201]? = some 12 := rfl
theorem ow_202 : kf_own[202]? = some 12 := rfl
theorem ow_203 : kf_own[203]? = some 12 := rfl
theorem ow_204 : kf_own[204]? = some 12 := rfl
theorem ow_205 : kf_own[205]? = some 12 := rfl
theorem ow_206 : kf_own[206]? = some 12 := rfl
theorem ow_207 : kf_own[207]? = some 13 := rfl
theorem ow_208 : kf_own[208]? = some 13 := rfl
theorem cl_0 (x0 : Nat) {M : kf_M} : kf_cl 0 [.ref x0] M = kf_ev 0 0 [some (.ref x0), none, none] [] M := rfl
theorem cl_1 (x0 : Nat) (x1 : Nat) (x2 : Nat) (x3 : Nat) {M : kf_M} : kf_cl 1 [.ref x0, .ref x1, .ref x2, .ref x3] M = kf_ev 1 0 [some (.ref x0), some (.ref x1), some (.ref x2), some (.ref x3), none, none] [] M := rfl
theorem cl_2 (x0 : Nat) (x1 : Nat) (x2 : Nat) {M : kf_M} : kf_cl 2 [.ref x0, .ref x1, .ref x2] M = kf_ev 2 0 [some (.ref x0), some (.ref x1), some (.ref x2), none, none, none, none, none] [] M := rfl
theorem cl_3 (x0 : Nat) (x1 : Nat) {M : kf_M} : kf_cl 3 [.ref x0, .ref x1] M = kf_ev 3 0 [some (.ref x0), some (.ref x1)] [] M := rfl
theorem cl_4 (x0 : Nat) (x1 : Nat) (x2 : Nat) (x3 : Nat) {M : kf_M} : kf_cl 4 [.ref x0, .ref x1, .ref x2, .ref x3] M = kf_ev 4 0 [some (.ref x0), some (.ref x1), some (.ref x2), some (.ref x3)] [] M := rfl
theorem cl_5 (x0 : Nat) (x1 : Nat) {M : kf_M} : kf_cl 5 [.ref x0, .ref x1] M = kf_ev 5 0 [some (.ref x0), some (.ref x1)] [] M := rfl
theorem cl_6 (x0 : Nat) (x1 : Nat) {M : kf_M} : kf_cl 6 [.ref x0, .ref x1] M = kf_ev 6 0 [some (.ref x0), some (.ref x1), none, none] [] M := rfl
theorem cl_7 (x0 : Nat) (x1 : Nat) (x2 : Nat) (x3 : Int64) {M : kf_M} : kf_cl 7 [.ref x0, .ref x1, .ref x2, .long x3] M = kf_ev 7 0 [some (.ref x0), some (.ref x1), some (.ref x2), some (.long x3), none, none] [] M := rfl
theorem cl_8 (x0 : Nat) (x1 : Nat) (x2 : Int32) {M : kf_M} : kf_cl 8 [.ref x0, .ref x1, .int x2] M = kf_ev 8 0 [some (.ref x0), some (.ref x1), some (.int x2), none, none, none, none] [] M := rfl
theorem cl_9 (x0 : Nat) (x1 : Nat) (x2 : Int32) {M : kf_M} : kf_cl 9 [.ref x0, .ref x1, .int x2] M = kf_ev 9 0 [some (.ref x0), some (.ref x1), some (.int x2), none, none, none, none] [] M := rfl
theorem cl_10 (x0 : Nat) (x1 : Int32) (x2 : Nat) {M : kf_M} : kf_cl 10 [.ref x0, .int x1, .ref x2] M = kf_ev 10 0 [some (.ref x0), some (.int x1), some (.ref x2), none, none] [] M := rfl
theorem cl_11 (x0 : Nat) (x1 : Int32) {M : kf_M} : kf_cl 11 [.ref x0, .int x1] M = kf_ev 11 0 [some (.ref x0), some (.int x1)] [] M := rfl
theorem cl_12 (x0 : Nat) (x1 : Nat) {M : kf_M} : kf_cl 12 [.ref x0, .ref x1] M = kf_ev 12 0 [some (.ref x0), some (.ref x1), none] [] M := rfl
theorem cl_13 (x0 : Nat) {M : kf_M} : kf_cl 13 [.ref x0] M = kf_ev 13 0 [some (.ref x0), none] [] M := rfl
theorem cl_14 (x0 : Nat) (x1 : Nat) {M : kf_M} : kf_cl 14 [.ref x0, .ref x1] M = kf_ev 14 0 [some (.ref x0), some (.ref x1)] [] M := rfl
theorem cl_15 (x0 : Nat) (x1 : Nat) (x2 : Int64) (x3 : Nat) {M : kf_M} : kf_cl 15 [.ref x0, .ref x1, .long x2, .ref x3] M = kf_ev 15 0 [some (.ref x0), some (.ref x1), some (.long x2), none, some (.ref x3), none, none, none, none, none] [] M := rfl
theorem cl_16 (x0 : Nat) (x1 : Nat) (x2 : Nat) (x3 : Nat) {M : kf_M} : kf_cl 16 [.ref x0, .ref x1, .ref x2, .ref x3] M = kf_ev 16 0 [some (.ref x0), some (.ref x1), some (.ref x2), some (.ref x3), none, none, none, none, none, none, none, none, none, none, none, none, none, none, none, none, none, none, none, none, none, none, none, none, none, none, none, none, none, none, none, none, none, none, none, none, none, none, none, none, none, none, none, none, none, none, none, none, none, none, none, none, none, none, none, none, none, none, none, none, none, none, none, none, none, none, none, none] [] M := rfl
theorem cl_17 (x0 : Nat) (x1 : Nat) (x2 : Nat) {M : kf_M} : kf_cl 17 [.ref x0, .ref x1, .ref x2] M = kf_ev 17 0 [some (.ref x0), some (.ref x1), some (.ref x2), none] [] M := rfl
theorem cl_18 (x0 : Nat) (x1 : Nat) (x2 : Nat) {M : kf_M} : kf_cl 18 [.ref x0, .ref x1, .ref x2] M = kf_ev 18 0 [some (.ref x0), some (.ref x1), some (.ref x2)] [] M := rfl
theorem cl_19 (x0 : Nat) (x1 : Nat) (x2 : Nat) {M : kf_M} : kf_cl 19 [.ref x0, .ref x1, .ref x2] M = kf_ev 19 0 [some (.ref x0), some (.ref x1), some (.ref x2)] [] M := rfl
theorem cl_20 (x0 : Nat) (x1 : Nat) {M : kf_M} : kf_cl 20 [.ref x0, .ref x1] M = kf_ev 20 0 [some (.ref x0), some (.ref x1), none, none] [] M := rfl
theorem cl_21 (x0 : Nat) (x1 : Nat) (x2 : Nat) {M : kf_M} : kf_cl 21 [.ref x0, .ref x1, .ref x2] M = kf_ev 21 0 [some (.ref x0), some (.ref x1), some (.ref x2)] [] M := rfl
theorem cl_22 (x0 : Nat) (x1 : Nat) {M : kf_M} : kf_cl 22 [.ref x0, .ref x1] M = kf_ev 22 0 [some (.ref x0), some (.ref x1), none] [] M := rfl
theorem cl_23 (x0 : Nat) (x1 : Int32) {M : kf_M} : kf_cl 23 [.ref x0, .int x1] M = kf_ev 23 0 [some (.ref x0), some (.int x1)] [] M := rfl
theorem cl_24 (x0 : Nat) {M : kf_M} : kf_cl 24 [.ref x0] M = kf_ev 24 0 [some (.ref x0)] [] M := rfl
theorem cl_25 (x0 : Nat) {M : kf_M} : kf_cl 25 [.ref x0] M = kf_ev 25 0 [some (.ref x0)] [] M := rfl
theorem cl_26 (x0 : Nat) (x1 : Int32) {M : kf_M} : kf_cl 26 [.ref x0, .int x1] M = kf_ev 26 0 [some (.ref x0), some (.int x1), none] [] M := rfl
theorem cl_27 (x0 : Nat) (x1 : Nat) (x2 : Int32) (x3 : Int32) {M : kf_M} : kf_cl 27 [.ref x0, .ref x1, .int x2, .int x3] M = kf_ev 27 0 [some (.ref x0), some (.ref x1), some (.int x2), some (.int x3), none] [] M := rfl
theorem cl_28 (x0 : Nat) (x1 : Nat) {M : kf_M} : kf_cl 28 [.ref x0, .ref x1] M = kf_ev 28 0 [some (.ref x0), some (.ref x1), none, none, none] [] M := rfl
theorem cl_29 (x0 : Nat) {M : kf_M} : kf_cl 29 [.ref x0] M = kf_ev 29 0 [some (.ref x0), none, none, none, none, none, none, none, none, none, none, none, none, none] [] M := rfl
theorem cl_30 (x0 : Nat) {M : kf_M} : kf_cl 30 [.ref x0] M = kf_ev 30 0 [some (.ref x0)] [] M := rfl
theorem cl_31 (x0 : Nat) (x1 : Nat) {M : kf_M} : kf_cl 31 [.ref x0, .ref x1] M = kf_ev 31 0 [some (.ref x0), some (.ref x1)] [] M := rfl
theorem cl_32 (x0 : Nat) (x1 : Int32) (x2 : Int32) {M : kf_M} : kf_cl 32 [.ref x0, .int x1, .int x2] M = kf_ev 32 0 [some (.ref x0), some (.int x1), some (.int x2)] [] M := rfl
theorem cl_33 (x0 : Nat) (x1 : Int32) (x2 : Int32) {M : kf_M} : kf_cl 33 [.ref x0, .int x1, .int x2] M = kf_ev 33 0 [some (.ref x0), some (.int x1), some (.int x2)] [] M := rfl
theorem cl_34 (x0 : Nat) {M : kf_M} : kf_cl 34 [.ref x0] M = kf_ev 34 0 [some (.ref x0)] [] M := rfl
theorem cl_35 (x0 : Int32) {M : kf_M} : kf_cl 35 [.int x0] M = kf_ev 35 0 [some (.int x0), none, none] [] M := rfl
theorem cl_36 (x0 : Nat) {M : kf_M} : kf_cl 36 [.ref x0] M = kf_ev 36 0 [some (.ref x0)] [] M := rfl
theorem cl_37 (x0 : Nat) {M : kf_M} : kf_cl 37 [.ref x0] M = kf_ev 37 0 [some (.ref x0)] [] M := rfl
theorem cl_38 (x0 : Nat) {M : kf_M} : kf_cl 38 [.ref x0] M = kf_ev 38 0 [some (.ref x0)] [] M := rfl
theorem cl_39 (x0 : Nat) (x1 : Nat) {M : kf_M} : kf_cl 39 [.ref x0, .ref x1] M = kf_ev 39 0 [some (.ref x0), some (.ref x1)] [] M := rfl
theorem cl_40 (x0 : Nat) {M : kf_M} : kf_cl 40 [.ref x0] M = kf_ev 40 0 [some (.ref x0)] [] M := rfl
theorem cl_41 (x0 : Nat) {M : kf_M} : kf_cl 41 [.ref x0] M = kf_ev 41 0 [some (.ref x0)] [] M := rfl
theorem cl_42 (x0 : Nat) {M : kf_M} : kf_cl 42 [.ref x0] M = kf_ev 42 0 [some (.ref x0), none] [] M := rfl
theorem cl_43 (x0 : Nat) {M : kf_M} : kf_cl 43 [.ref x0] M = kf_ev 43 0 [some (.ref x0)] [] M := rfl
theorem cl_44 (x0 : Nat) (x1 : Int32) {M : kf_M} : kf_cl 44 [.ref x0, .int x1] M = kf_ev 44 0 [some (.ref x0), some (.int x1)] [] M := rfl
theorem cl_45 (x0 : Nat) (x1 : Nat) (x2 : Nat) (x3 : Int32) {M : kf_M} : kf_cl 45 [.ref x0, .ref x1, .ref x2, .int x3] M = kf_ev 45 0 [some (.ref x0), some (.ref x1), some (.ref x2), some (.int x3), none, none] [] M := rfl
theorem cl_46 (x0 : Nat) (x1 : Int32) {M : kf_M} : kf_cl 46 [.ref x0, .int x1] M = kf_ev 46 0 [some (.ref x0), some (.int x1), none, none] [] M := rfl
theorem cl_47 (x0 : Nat) (x1 : Int32) {M : kf_M} : kf_cl 47 [.ref x0, .int x1] M = kf_ev 47 0 [some (.ref x0), some (.int x1)] [] M := rfl
theorem cl_48 (x0 : Nat) (x1 : Int32) {M : kf_M} : kf_cl 48 [.ref x0, .int x1] M = kf_ev 48 0 [some (.ref x0), some (.int x1)] [] M := rfl
theorem cl_49 (x0 : Nat) (x1 : Int32) {M : kf_M} : kf_cl 49 [.ref x0, .int x1] M = kf_ev 49 0 [some (.ref x0), some (.int x1)] [] M := rfl
theorem cl_50 (x0 : Nat) (x1 : Int32) {M : kf_M} : kf_cl 50 [.ref x0, .int x1] M = kf_ev 50 0 [some (.ref x0), some (.int x1)] [] M := rfl
theorem cl_51 (x0 : Nat) (x1 : Int32) {M : kf_M} : kf_cl 51 [.ref x0, .int x1] M = kf_ev 51 0 [some (.ref x0), some (.int x1)] [] M := rfl
theorem cl_52 (x0 : Nat) (x1 : Int64) {M : kf_M} : kf_cl 52 [.ref x0, .long x1] M = kf_ev 52 0 [some (.ref x0), some (.long x1), none, none] [] M := rfl
theorem cl_53 (x0 : Nat) (x1 : Nat) (x2 : Int32) (x3 : Int32) {M : kf_M} : kf_cl 53 [.ref x0, .ref x1, .int x2, .int x3] M = kf_ev 53 0 [some (.ref x0), some (.ref x1), some (.int x2), some (.int x3)] [] M := rfl
theorem cl_54 (x0 : Nat) (x1 : Int32) {M : kf_M} : kf_cl 54 [.ref x0, .int x1] M = kf_ev 54 0 [some (.ref x0), some (.int x1)] [] M := rfl
theorem cl_55 (x0 : Nat) (x1 : Int32) (x2 : Int32) {M : kf_M} : kf_cl 55 [.ref x0, .int x1, .int x2] M = kf_ev 55 0 [some (.ref x0), some (.int x1), some (.int x2)] [] M := rfl
theorem cl_56 (x0 : Nat) (x1 : Int32) (x2 : Nat) (x3 : Int32) {M : kf_M} : kf_cl 56 [.ref x0, .int x1, .ref x2, .int x3] M = kf_ev 56 0 [some (.ref x0), some (.int x1), some (.ref x2), some (.int x3)] [] M := rfl
theorem cl_57 (x0 : Nat) {M : kf_M} : kf_cl 57 [.ref x0] M = kf_ev 57 0 [some (.ref x0)] [] M := rfl
theorem cl_58 (x0 : Nat) {M : kf_M} : kf_cl 58 [.ref x0] M = kf_ev 58 0 [some (.ref x0)] [] M := rfl
theorem cl_59 (x0 : Nat) (x1 : Nat) (x2 : Nat) {M : kf_M} : kf_cl 59 [.ref x0, .ref x1, .ref x2] M = kf_ev 59 0 [some (.ref x0), some (.ref x1), some (.ref x2)] [] M := rfl
theorem cl_60 (x0 : Nat) (x1 : Nat) (x2 : Nat) (x3 : Nat) {M : kf_M} : kf_cl 60 [.ref x0, .ref x1, .ref x2, .ref x3] M = kf_ev 60 0 [some (.ref x0), some (.ref x1), some (.ref x2), some (.ref x3), none, none] [] M := rfl
theorem cl_61 (x0 : Nat) (x1 : Int32) {M : kf_M} : kf_cl 61 [.ref x0, .int x1] M = kf_ev 61 0 [some (.ref x0), some (.int x1)] [] M := rfl
theorem cl_62 (x0 : Nat) (x1 : Nat) {M : kf_M} : kf_cl 62 [.ref x0, .ref x1] M = kf_ev 62 0 [some (.ref x0), some (.ref x1)] [] M := rfl
theorem cl_63 (x0 : Nat) (x1 : Nat) (x2 : Int32) {M : kf_M} : kf_cl 63 [.ref x0, .ref x1, .int x2] M = kf_ev 63 0 [some (.ref x0), some (.ref x1), some (.int x2)] [] M := rfl
theorem cl_64 (x0 : Nat) (x1 : Nat) {M : kf_M} : kf_cl 64 [.ref x0, .ref x1] M = kf_ev 64 0 [some (.ref x0), some (.ref x1)] [] M := rfl
theorem cl_65 (x0 : Nat) {M : kf_M} : kf_cl 65 [.ref x0] M = kf_ev 65 0 [some (.ref x0)] [] M := rfl
theorem cl_66 (x0 : Nat) {M : kf_M} : kf_cl 66 [.ref x0] M = kf_ev 66 0 [some (.ref x0)] [] M := rfl
theorem cl_67 (x0 : Nat) (x1 : Nat) {M : kf_M} : kf_cl 67 [.ref x0, .ref x1] M = kf_ev 67 0 [some (.ref x0), some (.ref x1), none] [] M := rfl
theorem cl_68 (x0 : Nat) (x1 : Int32) {M : kf_M} : kf_cl 68 [.ref x0, .int x1] M = kf_ev 68 0 [some (.ref x0), some (.int x1)] [] M := rfl
theorem cl_69 (x0 : Nat) (x1 : Int32) {M : kf_M} : kf_cl 69 [.ref x0, .int x1] M = kf_ev 69 0 [some (.ref x0), some (.int x1)] [] M := rfl
theorem cl_70 (x0 : Nat) (x1 : Int32) {M : kf_M} : kf_cl 70 [.ref x0, .int x1] M = kf_ev 70 0 [some (.ref x0), some (.int x1)] [] M := rfl
theorem cl_71 (x0 : Nat) (x1 : Int32) {M : kf_M} : kf_cl 71 [.ref x0, .int x1] M = kf_ev 71 0 [some (.ref x0), some (.int x1)] [] M := rfl
theorem cl_72 (x0 : Nat) (x1 : Int32) (x2 : Nat) (x3 : Int32) {M : kf_M} : kf_cl 72 [.ref x0, .int x1, .ref x2, .int x3] M = kf_ev 72 0 [some (.ref x0), some (.int x1), some (.ref x2), some (.int x3)] [] M := rfl
theorem cl_73 (x0 : Nat) (x1 : Int32) (x2 : Nat) {M : kf_M} : kf_cl 73 [.ref x0, .int x1, .ref x2] M = kf_ev 73 0 [some (.ref x0), some (.int x1), some (.ref x2), none, none] [] M := rfl
theorem cl_74 (x0 : Nat) (x1 : Int32) (x2 : Nat) {M : kf_M} : kf_cl 74 [.ref x0, .int x1, .ref x2] M = kf_ev 74 0 [some (.ref x0), some (.int x1), some (.ref x2), none, none] [] M := rfl
theorem cl_75 (x0 : Nat) (x1 : Int32) {M : kf_M} : kf_cl 75 [.ref x0, .int x1] M = kf_ev 75 0 [some (.ref x0), some (.int x1)] [] M := rfl
theorem cl_76 (x0 : Nat) (x1 : Int32) (x2 : Int32) (x3 : Int32) {M : kf_M} : kf_cl 76 [.ref x0, .int x1, .int x2, .int x3] M = kf_ev 76 0 [some (.ref x0), some (.int x1), some (.int x2), some (.int x3), none, none, none] [] M := rfl
theorem cl_77 (x0 : Nat) {M : kf_M} : kf_cl 77 [.ref x0] M = kf_ev 77 0 [some (.ref x0), none, none, none, none] [] M := rfl
theorem cl_78 (x0 : Nat) {M : kf_M} : kf_cl 78 [.ref x0] M = kf_ev 78 0 [some (.ref x0), none] [] M := rfl
theorem cl_79 (x0 : Nat) (x1 : Int32) {M : kf_M} : kf_cl 79 [.ref x0, .int x1] M = kf_ev 79 0 [some (.ref x0), some (.int x1), none, none] [] M := rfl
theorem cl_80 (x0 : Nat) (x1 : Int32) (x2 : Int32) (x3 : Int32) (x4 : Int32) {M : kf_M} : kf_cl 80 [.ref x0, .int x1, .int x2, .int x3, .int x4] M = kf_ev 80 0 [some (.ref x0), some (.int x1), some (.int x2), some (.int x3), some (.int x4)] [] M := rfl
theorem cl_81 (x0 : Nat) {M : kf_M} : kf_cl 81 [.ref x0] M = kf_ev 81 0 [some (.ref x0), none, none] [] M := rfl
theorem cl_82 (x0 : Nat) (x1 : Int32) {M : kf_M} : kf_cl 82 [.ref x0, .int x1] M = kf_ev 82 0 [some (.ref x0), some (.int x1), none] [] M := rfl
theorem cl_83 (x0 : Nat) (x1 : Int32) (x2 : Int32) (x3 : Int32) {M : kf_M} : kf_cl 83 [.ref x0, .int x1, .int x2, .int x3] M = kf_ev 83 0 [some (.ref x0), some (.int x1), some (.int x2), some (.int x3), none] [] M := rfl
theorem cl_84 (x0 : Nat) (x1 : Int32) {M : kf_M} : kf_cl 84 [.ref x0, .int x1] M = kf_ev 84 0 [some (.ref x0), some (.int x1)] [] M := rfl
theorem cl_85 (x0 : Nat) (x1 : Int32) (x2 : Int32) {M : kf_M} : kf_cl 85 [.ref x0, .int x1, .int x2] M = kf_ev 85 0 [some (.ref x0), some (.int x1), some (.int x2), none, none, none, none, none] [] M := rfl
theorem cl_86 (x0 : Nat) {M : kf_M} : kf_cl 86 [.ref x0] M = kf_ev 86 0 [some (.ref x0)] [] M := rfl
theorem cl_87 (x0 : Nat) {M : kf_M} : kf_cl 87 [.ref x0] M = kf_ev 87 0 [some (.ref x0)] [] M := rfl
theorem cl_88 (x0 : Nat) {M : kf_M} : kf_cl 88 [.ref x0] M = kf_ev 88 0 [some (.ref x0)] [] M := rfl
theorem cl_89 (x0 : Nat) (x1 : Nat) {M : kf_M} : kf_cl 89 [.ref x0, .ref x1] M = kf_ev 89 0 [some (.ref x0), some (.ref x1), none] [] M := rfl
theorem cl_90 (x0 : Nat) (x1 : Nat) (x2 : Int32) {M : kf_M} : kf_cl 90 [.ref x0, .ref x1, .int x2] M = kf_ev 90 0 [some (.ref x0), some (.ref x1), some (.int x2)] [] M := rfl
theorem cl_91 (x0 : Nat) (x1 : Nat) (x2 : Int32) {M : kf_M} : kf_cl 91 [.ref x0, .ref x1, .int x2] M = kf_ev 91 0 [some (.ref x0), some (.ref x1), some (.int x2)] [] M := rfl
theorem cl_92 (x0 : Nat) (x1 : Nat) (x2 : Int32) (x3 : Nat) {M : kf_M} : kf_cl 92 [.ref x0, .ref x1, .int x2, .ref x3] M = kf_ev 92 0 [some (.ref x0), some (.ref x1), some (.int x2), some (.ref x3)] [] M := rfl
theorem cl_93 (x0 : Nat) {M : kf_M} : kf_cl 93 [.ref x0] M = kf_ev 93 0 [some (.ref x0)] [] M := rfl
theorem cl_94 (x0 : Nat) (x1 : Int32) {M : kf_M} : kf_cl 94 [.ref x0, .int x1] M = kf_ev 94 0 [some (.ref x0), some (.int x1), none] [] M := rfl
theorem cl_95 (x0 : Nat) {M : kf_M} : kf_cl 95 [.ref x0] M = kf_ev 95 0 [some (.ref x0)] [] M := rfl
theorem cl_96 (x0 : Nat) (x1 : Int32) (x2 : Int32) (x3 : Int32) (x4 : Int32) (x5 : Int32) {M : kf_M} : kf_cl 96 [.ref x0, .int x1, .int x2, .int x3, .int x4, .int x5] M = kf_ev 96 0 [some (.ref x0), some (.int x1), some (.int x2), some (.int x3), some (.int x4), some (.int x5)] [] M := rfl
theorem cl_97 (x0 : Nat) (x1 : Int32) {M : kf_M} : kf_cl 97 [.ref x0, .int x1] M = kf_ev 97 0 [some (.ref x0), some (.int x1)] [] M := rfl
theorem cl_98 (x0 : Nat) (x1 : Int32) {M : kf_M} : kf_cl 98 [.ref x0, .int x1] M = kf_ev 98 0 [some (.ref x0), some (.int x1), none] [] M := rfl
theorem cl_99 (x0 : Nat) (x1 : Int32) {M : kf_M} : kf_cl 99 [.ref x0, .int x1] M = kf_ev 99 0 [some (.ref x0), some (.int x1)] [] M := rfl
theorem cl_100 (x0 : Nat) (x1 : Int32) (x2 : Int32) {M : kf_M} : kf_cl 100 [.ref x0, .int x1, .int x2] M = kf_ev 100 0 [some (.ref x0), some (.int x1), some (.int x2)] [] M := rfl
theorem cl_101 (x0 : Nat) {M : kf_M} : kf_cl 101 [.ref x0] M = kf_ev 101 0 [some (.ref x0)] [] M := rfl
theorem cl_102 (x0 : Nat) {M : kf_M} : kf_cl 102 [.ref x0] M = kf_ev 102 0 [some (.ref x0)] [] M := rfl
theorem cl_103 (x0 : Nat) (x1 : Int32) (x2 : Int32) {M : kf_M} : kf_cl 103 [.ref x0, .int x1, .int x2] M = kf_ev 103 0 [some (.ref x0), some (.int x1), some (.int x2), none, none, none] [] M := rfl
theorem cl_104 (x0 : Nat) {M : kf_M} : kf_cl 104 [.ref x0] M = kf_ev 104 0 [some (.ref x0)] [] M := rfl
theorem cl_105 (x0 : Nat) (x1 : Int32) {M : kf_M} : kf_cl 105 [.ref x0, .int x1] M = kf_ev 105 0 [some (.ref x0), some (.int x1)] [] M := rfl
theorem cl_106 (x0 : Nat) (x1 : Int32) {M : kf_M} : kf_cl 106 [.ref x0, .int x1] M = kf_ev 106 0 [some (.ref x0), some (.int x1)] [] M := rfl
theorem cl_107 (x0 : Nat) (x1 : Int32) (x2 : Int32) (x3 : Int32) {M : kf_M} : kf_cl 107 [.ref x0, .int x1, .int x2, .int x3] M = kf_ev 107 0 [some (.ref x0), some (.int x1), some (.int x2), some (.int x3), none] [] M := rfl
theorem cl_108 (x0 : Nat) {M : kf_M} : kf_cl 108 [.ref x0] M = kf_ev 108 0 [some (.ref x0), none, none, none] [] M := rfl
theorem cl_109 (x0 : Nat) (x1 : Int32) {M : kf_M} : kf_cl 109 [.ref x0, .int x1] M = kf_ev 109 0 [some (.ref x0), some (.int x1)] [] M := rfl
theorem cl_110 (x0 : Nat) (x1 : Int32) {M : kf_M} : kf_cl 110 [.ref x0, .int x1] M = kf_ev 110 0 [some (.ref x0), some (.int x1), none, none] [] M := rfl
theorem cl_111 (x0 : Nat) (x1 : Nat) {M : kf_M} : kf_cl 111 [.ref x0, .ref x1] M = kf_ev 111 0 [some (.ref x0), some (.ref x1)] [] M := rfl
theorem cl_112 (x0 : Nat) (x1 : Nat) (x2 : Int32) {M : kf_M} : kf_cl 112 [.ref x0, .ref x1, .int x2] M = kf_ev 112 0 [some (.ref x0), some (.ref x1), some (.int x2)] [] M := rfl
theorem cl_113 (x0 : Nat) {M : kf_M} : kf_cl 113 [.ref x0] M = kf_ev 113 0 [some (.ref x0), none, none, none, none] [] M := rfl
theorem cl_114 (x0 : Nat) (x1 : Int32) {M : kf_M} : kf_cl 114 [.ref x0, .int x1] M = kf_ev 114 0 [some (.ref x0), some (.int x1), none] [] M := rfl
theorem cl_115 (x0 : Nat) (x1 : Int32) {M : kf_M} : kf_cl 115 [.ref x0, .int x1] M = kf_ev 115 0 [some (.ref x0), some (.int x1), none] [] M := rfl
theorem cl_116 (x0 : Nat) {M : kf_M} : kf_cl 116 [.ref x0] M = kf_ev 116 0 [some (.ref x0), none, none] [] M := rfl
theorem cl_117 (x0 : Nat) (x1 : Int32) {M : kf_M} : kf_cl 117 [.ref x0, .int x1] M = kf_ev 117 0 [some (.ref x0), some (.int x1), none, none] [] M := rfl
theorem cl_118 (x0 : Nat) {M : kf_M} : kf_cl 118 [.ref x0] M = kf_ev 118 0 [some (.ref x0)] [] M := rfl
theorem cl_119 (x0 : Nat) (x1 : Nat) (x2 : Int32) (x3 : Int32) {M : kf_M} : kf_cl 119 [.ref x0, .ref x1, .int x2, .int x3] M = kf_ev 119 0 [some (.ref x0), some (.ref x1), some (.int x2), some (.int x3), none] [] M := rfl
theorem cl_120 (x0 : Nat) {M : kf_M} : kf_cl 120 [.ref x0] M = kf_ev 120 0 [some (.ref x0)] [] M := rfl
theorem cl_121 (x0 : Nat) {M : kf_M} : kf_cl 121 [.ref x0] M = kf_ev 121 0 [some (.ref x0)] [] M := rfl
theorem cl_122 (x0 : Nat) (x1 : Int32) {M : kf_M} : kf_cl 122 [.ref x0, .int x1] M = kf_ev 122 0 [some (.ref x0), some (.int x1)] [] M := rfl
theorem cl_123 (x0 : Nat) (x1 : Nat) (x2 : Int32) (x3 : Int32) {M : kf_M} : kf_cl 123 [.ref x0, .ref x1, .int x2, .int x3] M = kf_ev 123 0 [some (.ref x0), some (.ref x1), some (.int x2), some (.int x3), none] [] M := rfl
theorem cl_124 (x0 : Nat) (x1 : Int32) {M : kf_M} : kf_cl 124 [.ref x0, .int x1] M = kf_ev 124 0 [some (.ref x0), some (.int x1), none] [] M := rfl
theorem cl_125 (x0 : Nat) (x1 : Int32) {M : kf_M} : kf_cl 125 [.ref x0, .int x1] M = kf_ev 125 0 [some (.ref x0), some (.int x1)] [] M := rfl
theorem cl_126 (x0 : Int32) (x1 : Int32) {M : kf_M} : kf_cl 126 [.int x0, .int x1] M = kf_ev 126 0 [some (.int x0), some (.int x1)] [] M := rfl
theorem cl_127 (x0 : Nat) (x1 : Int32) {M : kf_M} : kf_cl 127 [.ref x0, .int x1] M = kf_ev 127 0 [some (.ref x0), some (.int x1), none, none, none, none, none, none, none, none, none, none, none] [] M := rfl
theorem cl_128 (x0 : Nat) {M : kf_M} : kf_cl 128 [.ref x0] M = kf_ev 128 0 [some (.ref x0), none, none] [] M := rfl
theorem cl_129 (x0 : Nat) (x1 : Int32) (x2 : Nat) (x3 : Int32) {M : kf_M} : kf_cl 129 [.ref x0, .int x1, .ref x2, .int x3] M = kf_ev 129 0 [some (.ref x0), some (.int x1), some (.ref x2), some (.int x3)] [] M := rfl
theorem cl_130 (x0 : Nat) (x1 : Int32) (x2 : Nat) (x3 : Int32) (x4 : Int32) {M : kf_M} : kf_cl 130 [.ref x0, .int x1, .ref x2, .int x3, .int x4] M = kf_ev 130 0 [some (.ref x0), some (.int x1), some (.ref x2), some (.int x3), some (.int x4), none] [] M := rfl
theorem cl_131 (x0 : Nat) (x1 : Int32) (x2 : Nat) (x3 : Int32) (x4 : Int32) {M : kf_M} : kf_cl 131 [.ref x0, .int x1, .ref x2, .int x3, .int x4] M = kf_ev 131 0 [some (.ref x0), some (.int x1), some (.ref x2), some (.int x3), some (.int x4), none, none] [] M := rfl
theorem cl_132 (x0 : Nat) (x1 : Nat) (x2 : Int32) {M : kf_M} : kf_cl 132 [.ref x0, .ref x1, .int x2] M = kf_ev 132 0 [some (.ref x0), some (.ref x1), some (.int x2), none] [] M := rfl
theorem cl_133 (x0 : Nat) (x1 : Nat) (x2 : Nat) (x3 : Int32) (x4 : Int32) {M : kf_M} : kf_cl 133 [.ref x0, .ref x1, .ref x2, .int x3, .int x4] M = kf_ev 133 0 [some (.ref x0), some (.ref x1), some (.ref x2), some (.int x3), some (.int x4)] [] M := rfl
theorem cl_134 (x0 : Nat) {M : kf_M} : kf_cl 134 [.ref x0] M = kf_ev 134 0 [some (.ref x0)] [] M := rfl
theorem cl_135 (x0 : Nat) {M : kf_M} : kf_cl 135 [.ref x0] M = kf_ev 135 0 [some (.ref x0)] [] M := rfl
theorem cl_136 (x0 : Nat) {M : kf_M} : kf_cl 136 [.ref x0] M = kf_ev 136 0 [some (.ref x0)] [] M := rfl
theorem cl_137 (x0 : Nat) (x1 : Nat) {M : kf_M} : kf_cl 137 [.ref x0, .ref x1] M = kf_ev 137 0 [some (.ref x0), some (.ref x1), none] [] M := rfl
theorem cl_138 (x0 : Nat) {M : kf_M} : kf_cl 138 [.ref x0] M = kf_ev 138 0 [some (.ref x0), none, none] [] M := rfl
theorem cl_139 (x0 : Nat) {M : kf_M} : kf_cl 139 [.ref x0] M = kf_ev 139 0 [some (.ref x0), none, none] [] M := rfl
theorem cl_140 (x0 : Nat) (x1 : Nat) {M : kf_M} : kf_cl 140 [.ref x0, .ref x1] M = kf_ev 140 0 [some (.ref x0), some (.ref x1), none] [] M := rfl
theorem cl_141 (x0 : Nat) (x1 : Int32) {M : kf_M} : kf_cl 141 [.ref x0, .int x1] M = kf_ev 141 0 [some (.ref x0), some (.int x1), none] [] M := rfl
theorem cl_142 (x0 : Nat) (x1 : Nat) (x2 : Nat) {M : kf_M} : kf_cl 142 [.ref x0, .ref x1, .ref x2] M = kf_ev 142 0 [some (.ref x0), some (.ref x1), some (.ref x2), none, none, none] [] M := rfl
theorem cl_143 (x0 : Nat) (x1 : Nat) (x2 : Nat) {M : kf_M} : kf_cl 143 [.ref x0, .ref x1, .ref x2] M = kf_ev 143 0 [some (.ref x0), some (.ref x1), some (.ref x2), none, none, none] [] M := rfl
theorem cl_144 (x0 : Nat) (x1 : Nat) {M : kf_M} : kf_cl 144 [.ref x0, .ref x1] M = kf_ev 144 0 [some (.ref x0), some (.ref x1)] [] M := rfl
theorem cl_145 (x0 : Nat) (x1 : Nat) (x2 : Nat) (x3 : Nat) {M : kf_M} : kf_cl 145 [.ref x0, .ref x1, .ref x2, .ref x3] M = kf_ev 145 0 [some (.ref x0), some (.ref x1), some (.ref x2), some (.ref x3), none] [] M := rfl
theorem cl_146 (x0 : Nat) (x1 : Nat) (x2 : Nat) (x3 : Nat) {M : kf_M} : kf_cl 146 [.ref x0, .ref x1, .ref x2, .ref x3] M = kf_ev 146 0 [some (.ref x0), some (.ref x1), some (.ref x2), some (.ref x3), none, none] [] M := rfl
theorem cl_147 (x0 : Nat) (x1 : Nat) (x2 : Nat) (x3 : Nat) (x4 : Nat) {M : kf_M} : kf_cl 147 [.ref x0, .ref x1, .ref x2, .ref x3, .ref x4] M = kf_ev 147 0 [some (.ref x0), some (.ref x1), some (.ref x2), some (.ref x3), some (.ref x4), none, none, none, none, none, none] [] M := rfl
theorem cl_148 (x0 : Nat) (x1 : Int32) (x2 : Nat) {M : kf_M} : kf_cl 148 [.ref x0, .int x1, .ref x2] M = kf_ev 148 0 [some (.ref x0), some (.int x1), some (.ref x2), none, none, none, none, none, none, none, none, none, none, none, none, none, none, none, none] [] M := rfl
theorem cl_149 (x0 : Nat) (x1 : Int32) {M : kf_M} : kf_cl 149 [.ref x0, .int x1] M = kf_ev 149 0 [some (.ref x0), some (.int x1), none, none] [] M := rfl
theorem cl_150 (x0 : Nat) (x1 : Nat) (x2 : Nat) {M : kf_M} : kf_cl 150 [.ref x0, .ref x1, .ref x2] M = kf_ev 150 0 [some (.ref x0), some (.ref x1), some (.ref x2), none] [] M := rfl
theorem cl_151 (x0 : Nat) (x1 : Nat) (x2 : Nat) (x3 : Nat) {M : kf_M} : kf_cl 151 [.ref x0, .ref x1, .ref x2, .ref x3] M = kf_ev 151 0 [some (.ref x0), some (.ref x1), some (.ref x2), some (.ref x3)] [] M := rfl
theorem cl_152 (x0 : Nat) (x1 : Nat) (x2 : Int32) {M : kf_M} : kf_cl 152 [.ref x0, .ref x1, .int x2] M = kf_ev 152 0 [some (.ref x0), some (.ref x1), some (.int x2), none, none] [] M := rfl
theorem cl_153 (x0 : Nat) (x1 : Nat) (x2 : Int32) {M : kf_M} : kf_cl 153 [.ref x0, .ref x1, .int x2] M = kf_ev 153 0 [some (.ref x0), some (.ref x1), some (.int x2), none] [] M := rfl
theorem cl_154 (x0 : Nat) (x1 : Nat) (x2 : Nat) {M : kf_M} : kf_cl 154 [.ref x0, .ref x1, .ref x2] M = kf_ev 154 0 [some (.ref x0), some (.ref x1), some (.ref x2)] [] M := rfl
theorem cl_155 (x0 : Nat) {M : kf_M} : kf_cl 155 [.ref x0] M = kf_ev 155 0 [some (.ref x0)] [] M := rfl
theorem cl_156 (x0 : Nat) (x1 : Nat) {M : kf_M} : kf_cl 156 [.ref x0, .ref x1] M = kf_ev 156 0 [some (.ref x0), some (.ref x1)] [] M := rfl
theorem cl_157 (x0 : Nat) (x1 : Nat) (x2 : Nat) (x3 : Nat) {M : kf_M} : kf_cl 157 [.ref x0, .ref x1, .ref x2, .ref x3] M = kf_ev 157 0 [some (.ref x0), some (.ref x1), some (.ref x2), some (.ref x3), none] [] M := rfl
theorem cl_158 (x0 : Nat) (x1 : Nat) (x2 : Nat) (x3 : Int32) {M : kf_M} : kf_cl 158 [.ref x0, .ref x1, .ref x2, .int x3] M = kf_ev 158 0 [some (.ref x0), some (.ref x1), some (.ref x2), some (.int x3), none] [] M := rfl
theorem cl_159 (x0 : Nat) (x1 : Int32) (x2 : Nat) {M : kf_M} : kf_cl 159 [.ref x0, .int x1, .ref x2] M = kf_ev 159 0 [some (.ref x0), some (.int x1), some (.ref x2), none, none] [] M := rfl
theorem cl_160 (x0 : Nat) {M : kf_M} : kf_cl 160 [.ref x0] M = kf_ev 160 0 [some (.ref x0), none] [] M := rfl
theorem cl_161 (x0 : Nat) (x1 : Int32) (x2 : Int32) (x3 : Int32) (x4 : Int32) (x5 : Int32) {M : kf_M} : kf_cl 161 [.ref x0, .int x1, .int x2, .int x3, .int x4, .int x5] M = kf_ev 161 0 [some (.ref x0), some (.int x1), some (.int x2), some (.int x3), some (.int x4), some (.int x5)] [] M := rfl
theorem cl_162 (x0 : Nat) (x1 : Int32) {M : kf_M} : kf_cl 162 [.ref x0, .int x1] M = kf_ev 162 0 [some (.ref x0), some (.int x1), none] [] M := rfl
theorem cl_163 (x0 : Nat) (x1 : Int32) {M : kf_M} : kf_cl 163 [.ref x0, .int x1] M = kf_ev 163 0 [some (.ref x0), some (.int x1)] [] M := rfl
theorem cl_164 (x0 : Nat) (x1 : Int32) {M : kf_M} : kf_cl 164 [.ref x0, .int x1] M = kf_ev 164 0 [some (.ref x0), some (.int x1)] [] M := rfl
theorem cl_165 (x0 : Nat) (x1 : Int32) (x2 : Int32) {M : kf_M} : kf_cl 165 [.ref x0, .int x1, .int x2] M = kf_ev 165 0 [some (.ref x0), some (.int x1), some (.int x2), none] [] M := rfl
theorem cl_166 (x0 : Nat) (x1 : Int32) {M : kf_M} : kf_cl 166 [.ref x0, .int x1] M = kf_ev 166 0 [some (.ref x0), some (.int x1)] [] M := rfl
theorem cl_167 (x0 : Nat) (x1 : Int32) (x2 : Nat) (x3 : Int32) (x4 : Int32) {M : kf_M} : kf_cl 167 [.ref x0, .int x1, .ref x2, .int x3, .int x4] M = kf_ev 167 0 [some (.ref x0), some (.int x1), some (.ref x2), some (.int x3), some (.int x4), none] [] M := rfl
theorem cl_168 (x0 : Nat) (x1 : Int32) (x2 : Int32) {M : kf_M} : kf_cl 168 [.ref x0, .int x1, .int x2] M = kf_ev 168 0 [some (.ref x0), some (.int x1), some (.int x2)] [] M := rfl
theorem cl_169 (x0 : Nat) {M : kf_M} : kf_cl 169 [.ref x0] M = kf_ev 169 0 [some (.ref x0)] [] M := rfl
theorem cl_170 (x0 : Nat) (x1 : Int32) {M : kf_M} : kf_cl 170 [.ref x0, .int x1] M = kf_ev 170 0 [some (.ref x0), some (.int x1), none] [] M := rfl
theorem cl_171 (x0 : Nat) (x1 : Int32) {M : kf_M} : kf_cl 171 [.ref x0, .int x1] M = kf_ev 171 0 [some (.ref x0), some (.int x1), none] [] M := rfl
theorem cl_172 (x0 : Nat) (x1 : Int32) {M : kf_M} : kf_cl 172 [.ref x0, .int x1] M = kf_ev 172 0 [some (.ref x0), some (.int x1), none, none] [] M := rfl
theorem cl_173 (x0 : Nat) (x1 : Int32) {M : kf_M} : kf_cl 173 [.ref x0, .int x1] M = kf_ev 173 0 [some (.ref x0), some (.int x1), none, none, none] [] M := rfl
theorem cl_174 (x0 : Nat) (x1 : Int32) {M : kf_M} : kf_cl 174 [.ref x0, .int x1] M = kf_ev 174 0 [some (.ref x0), some (.int x1), none, none, none, none] [] M := rfl
theorem cl_175 (x0 : Nat) {M : kf_M} : kf_cl 175 [.ref x0] M = kf_ev 175 0 [some (.ref x0), none] [] M := rfl
theorem cl_176 (x0 : Nat) (x1 : Int32) (x2 : Int32) (x3 : Int32) (x4 : Int32) (x5 : Int32) {M : kf_M} : kf_cl 176 [.ref x0, .int x1, .int x2, .int x3, .int x4, .int x5] M = kf_ev 176 0 [some (.ref x0), some (.int x1), some (.int x2), some (.int x3), some (.int x4), some (.int x5)] [] M := rfl
theorem cl_177 (x0 : Nat) (x1 : Int32) (x2 : Int32) {M : kf_M} : kf_cl 177 [.ref x0, .int x1, .int x2] M = kf_ev 177 0 [some (.ref x0), some (.int x1), some (.int x2)] [] M := rfl
theorem cl_178 (x0 : Nat) (x1 : Int32) (x2 : Int32) {M : kf_M} : kf_cl 178 [.ref x0, .int x1, .int x2] M = kf_ev 178 0 [some (.ref x0), some (.int x1), some (.int x2), none, none] [] M := rfl
theorem cl_179 (x0 : Nat) (x1 : Int32) {M : kf_M} : kf_cl 179 [.ref x0, .int x1] M = kf_ev 179 0 [some (.ref x0), some (.int x1), none, none] [] M := rfl
theorem cl_180 (x0 : Nat) (x1 : Int32) {M : kf_M} : kf_cl 180 [.ref x0, .int x1] M = kf_ev 180 0 [some (.ref x0), some (.int x1), none] [] M := rfl
theorem cl_181 (x0 : Nat) (x1 : Int32) {M : kf_M} : kf_cl 181 [.ref x0, .int x1] M = kf_ev 181 0 [some (.ref x0), some (.int x1)] [] M := rfl
theorem cl_182 (x0 : Nat) (x1 : Int32) {M : kf_M} : kf_cl 182 [.ref x0, .int x1] M = kf_ev 182 0 [some (.ref x0), some (.int x1)] [] M := rfl
theorem cl_183 (x0 : Nat) (x1 : Int32) (x2 : Int32) {M : kf_M} : kf_cl 183 [.ref x0, .int x1, .int x2] M = kf_ev 183 0 [some (.ref x0), some (.int x1), some (.int x2), none, none, none] [] M := rfl
theorem cl_184 (x0 : Nat) (x1 : Int32) (x2 : Int32) {M : kf_M} : kf_cl 184 [.ref x0, .int x1, .int x2] M = kf_ev 184 0 [some (.ref x0), some (.int x1), some (.int x2)] [] M := rfl
theorem cl_185 (x0 : Nat) (x1 : Nat) (x2 : Int32) (x3 : Int32) {M : kf_M} : kf_cl 185 [.ref x0, .ref x1, .int x2, .int x3] M = kf_ev 185 0 [some (.ref x0), some (.ref x1), some (.int x2), some (.int x3), none] [] M := rfl
theorem cl_186 (x0 : Nat) (x1 : Int32) (x2 : Int32) {M : kf_M} : kf_cl 186 [.ref x0, .int x1, .int x2] M = kf_ev 186 0 [some (.ref x0), some (.int x1), some (.int x2), none] [] M := rfl
theorem cl_187 (x0 : Nat) (x1 : Int32) (x2 : Nat) (x3 : Int32) {M : kf_M} : kf_cl 187 [.ref x0, .int x1, .ref x2, .int x3] M = kf_ev 187 0 [some (.ref x0), some (.int x1), some (.ref x2), some (.int x3)] [] M := rfl
theorem cl_188 (x0 : Nat) (x1 : Int32) {M : kf_M} : kf_cl 188 [.ref x0, .int x1] M = kf_ev 188 0 [some (.ref x0), some (.int x1), none] [] M := rfl
theorem cl_189 (x0 : Nat) (x1 : Int32) {M : kf_M} : kf_cl 189 [.ref x0, .int x1] M = kf_ev 189 0 [some (.ref x0), some (.int x1), none] [] M := rfl
theorem cl_190 (x0 : Nat) (x1 : Int32) {M : kf_M} : kf_cl 190 [.ref x0, .int x1] M = kf_ev 190 0 [some (.ref x0), some (.int x1), none, none, none] [] M := rfl
theorem cl_191 (x0 : Nat) (x1 : Int32) (x2 : Nat) (x3 : Int32) (x4 : Int32) (x5 : Int32) {M : kf_M} : kf_cl 191 [.ref x0, .int x1, .ref x2, .int x3, .int x4, .int x5] M = kf_ev 191 0 [some (.ref x0), some (.int x1), some (.ref x2), some (.int x3), some (.int x4), some (.int x5)] [] M := rfl
theorem cl_192 (x0 : Nat) (x1 : Int32) {M : kf_M} : kf_cl 192 [.ref x0, .int x1] M = kf_ev 192 0 [some (.ref x0), some (.int x1), none, none, none, none, none] [] M := rfl
theorem cl_193 (x0 : Nat) {M : kf_M} : kf_cl 193 [.ref x0] M = kf_ev 193 0 [some (.ref x0), none, none] [] M := rfl
theorem cl_194 (x0 : Nat) {M : kf_M} : kf_cl 194 [.ref x0] M = kf_ev 194 0 [some (.ref x0)] [] M := rfl
theorem cl_195 (x0 : Nat) {M : kf_M} : kf_cl 195 [.ref x0] M = kf_ev 195 0 [some (.ref x0)] [] M := rfl
theorem cl_196 (x0 : Nat) (x1 : Int32) {M : kf_M} : kf_cl 196 [.ref x0, .int x1] M = kf_ev 196 0 [some (.ref x0), some (.int x1), none, none, none] [] M := rfl
theorem cl_197 (x0 : Nat) {M : kf_M} : kf_cl 197 [.ref x0] M = kf_ev 197 0 [some (.ref x0)] [] M := rfl
theorem cl_198 (x0 : Nat) (x1 : Int32) {M : kf_M} : kf_cl 198 [.ref x0, .int x1] M = kf_ev 198 0 [some (.ref x0), some (.int x1), none] [] M := rfl
theorem cl_199 (x0 : Nat) {M : kf_M} : kf_cl 199 [.ref x0] M = kf_ev 199 0 [some (.ref x0), none] [] M := rfl
theorem cl_200 (x0 : Nat) {M : kf_M} : kf_cl 200 [.ref x0] M = kf_ev 200 0 [some (.ref x0)] [] M := rfl
theorem cl_201 (x0 : Nat) (x1 : Int32) {M : kf_M} : kf_cl 201 [.ref x0, .int x1] M = kf_ev 201 0 [some (.ref x0), some (.int x1)] [] M := rfl
theorem cl_202 (x0 : Nat) (x1 : Int32) (x2 : Int32) {M : kf_M} : kf_cl 202 [.ref x0, .int x1, .int x2] M = kf_ev 202 0 [some (.ref x0), some (.int x1), some (.int x2)] [] M := rfl
theorem cl_203 (x0 : Nat) {M : kf_M} : kf_cl 203 [.ref x0] M = kf_ev 203 0 [some (.ref x0)] [] M := rfl
theorem cl_204 (x0 : Nat) (x1 : Int32) {M : kf_M} : kf_cl 204 [.ref x0, .int x1] M = kf_ev 204 0 [some (.ref x0), some (.int x1)] [] M := rfl
theorem cl_205 (x0 : Nat) (x1 : Int32) {M : kf_M} : kf_cl 205 [.ref x0, .int x1] M = kf_ev 205 0 [some (.ref x0), some (.int x1)] [] M := rfl
theorem cl_206 (x0 : Nat) (x1 : Int32) (x2 : Int32) (x3 : Int32) {M : kf_M} : kf_cl 206 [.ref x0, .int x1, .int x2, .int x3] M = kf_ev 206 0 [some (.ref x0), some (.int x1), some (.int x2), some (.int x3), none] [] M := rfl
theorem cl_207 (x0 : Nat) {M : kf_M} : kf_cl 207 [.ref x0] M = kf_ev 207 0 [some (.ref x0), none, none, none] [] M := rfl
theorem cl_208 (x0 : Int64) (x1 : Int64) {M : kf_M} : kf_cl 208 [.long x0, .long x1] M = kf_ev 208 0 [some (.long x0), none, some (.long x1), none, none, none, none, none] [] M := rfl
