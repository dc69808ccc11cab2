/-! each row of the tables against the bytes -/
def kf_ln : Instr → Nat
  | .aload _ => 2
  | .iload _ => 2
  | .lload _ => 2
  | .istore _ => 2
  | .astore _ => 2
  | .lstore _ => 2
  | .newarray _ => 2
  | .iinc _ _ => 3
  | _ => 1
def kf_ok (o : Nat) (ini : Bool) (pc ln : Nat) (i j : Instr) : Bool := match j with
  | .getfield e => match i with | .getfield x => ln == 3 && kf_pF.elem (o, x, e) | _ => false
  | .putfield e => match i with | .putfield x => ln == 3 && kf_pF.elem (o, x, e) && (!(kf_fin e) || (ini && o == e / 1000)) | _ => false
  | .getstatic e => match i with | .getstatic x => ln == 3 && kf_pS.elem (o, x, e) | _ => false
  | .ldc2_w e => match i with | .ldc2_w x => ln == 3 && kf_pK.elem (o, x, e) | _ => false
  | .new e => match i with | .new x => ln == 3 && kf_pC.elem (o, x, e) | _ => false
  | .anewarray e => match i with | .anewarray x => ln == 3 && kf_pC.elem (o, x, e) && (e == 3 || e == 4) | _ => false
  | .invokestatic e => match i with | .invokestatic x => ln == 3 && kf_pM.elem (o, x, e) && (e == 9985 || e == 9972 || e == 9962 || kf_kd[e / 10]? == some 0) | _ => false
  | .invokespecial e => match i with | .invokespecial x => ln == 3 && kf_pM.elem (o, x, e) && (e == 9991 || kf_kd[e / 10]? == some 2) | _ => false
  | .invokevirtual e => match i with | .invokevirtual x => ln == 3 && kf_pM.elem (o, x, e) && kf_kd[e / 10]? == some 1 | _ => false
  | .goto t => match i with | .goto f => ln == 3 && decide ((pc : Int) + f = t) && decide (0 ≤ t) | _ => false
  | .if_icmp c t => match i with | .if_icmp c' f => ln == 3 && decide (c' = c) && decide ((pc : Int) + f = t) && decide (0 ≤ t) | _ => false
  | .ifCond c t => match i with | .ifCond c' f => ln == 3 && decide (c' = c) && decide ((pc : Int) + f = t) && decide (0 ≤ t) | _ => false
  | .ifnull t => match i with | .ifnull f => ln == 3 && decide ((pc : Int) + f = t) && decide (0 ≤ t) | _ => false
  | .ifnonnull t => match i with | .ifnonnull f => ln == 3 && decide ((pc : Int) + f = t) && decide (0 ≤ t) | _ => false
  | .tableswitch d lo hi os => match i with | .tableswitch d' lo' hi' os' => decide (lo' = lo) && decide (hi' = hi) && decide ((pc : Int) + d' = d) && decide (0 ≤ d) && decide (os.toList = os'.toList.map (fun f => (pc : Int) + f)) && os.toList.all (fun t => decide (0 ≤ t)) | _ => false
  | .lookupswitch d ps => match i with | .lookupswitch d' ps' => decide ((pc : Int) + d' = d) && decide (0 ≤ d) && decide (ps.toList = ps'.toList.map (fun q => (q.1, (pc : Int) + q.2))) && ps.toList.all (fun q => decide (0 ≤ q.2)) && (ps'.toList.zip (ps'.toList.drop 1)).all (fun (a, next) => a.1 < next.1) | _ => false
  | .bipush c => decide (i = .bipush c) && ln == 2 && decide ((Int8.ofInt c).toInt32 = Int32.ofInt c)
  | .sipush c => decide (i = .sipush c) && ln == 3 && decide ((Int16.ofInt c).toInt32 = Int32.ofInt c)
  | j => decide (i = j) && ln == kf_ln j
def kf_rowok (cc : ByteArray) (o : Nat) (ini : Bool) (r : Nat × Instr × Nat) : Bool := match decode cc r.1 with
  | .ok (i, ln) => ln == r.2.2 && kf_ok o ini r.1 r.2.2 i r.2.1
  | .error _ => false
def kf_tabok (k : Nat) : Bool := match kf_tabs[k]?, kf_cc[k]?, kf_co[k]?, kf_kd[k]? with
  | some t, some cc, some o, some kd => t.all (kf_rowok cc o (kd == 2))
  | _, _, _, _ => false
theorem tk_0 : kf_tabok 0 = true := by decide +kernel
theorem tk_1 : kf_tabok 1 = true := by decide +kernel
theorem tk_2 : kf_tabok 2 = true := by decide +kernel
theorem tk_3 : kf_tabok 3 = true := by decide +kernel
theorem tk_4 : kf_tabok 4 = true := by decide +kernel
theorem tk_5 : kf_tabok 5 = true := by decide +kernel
theorem tk_6 : kf_tabok 6 = true := by decide +kernel
theorem tk_7 : kf_tabok 7 = true := by decide +kernel
theorem tk_8 : kf_tabok 8 = true := by decide +kernel
theorem tk_9 : kf_tabok 9 = true := by decide +kernel
theorem tk_10 : kf_tabok 10 = true := by decide +kernel
theorem tk_11 : kf_tabok 11 = true := by decide +kernel
theorem tk_12 : kf_tabok 12 = true := by decide +kernel
theorem tk_13 : kf_tabok 13 = true := by decide +kernel
theorem tk_14 : kf_tabok 14 = true := by decide +kernel
theorem tk_15 : kf_tabok 15 = true := by decide +kernel
theorem tk_16 : kf_tabok 16 = true := by decide +kernel
theorem tk_17 : kf_tabok 17 = true := by decide +kernel
theorem tk_18 : kf_tabok 18 = true := by decide +kernel
theorem tk_19 : kf_tabok 19 = true := by decide +kernel
theorem tk_20 : kf_tabok 20 = true := by decide +kernel
theorem tk_21 : kf_tabok 21 = true := by decide +kernel
theorem tk_22 : kf_tabok 22 = true := by decide +kernel
theorem tk_23 : kf_tabok 23 = true := by decide +kernel
theorem tk_24 : kf_tabok 24 = true := by decide +kernel
theorem tk_25 : kf_tabok 25 = true := by decide +kernel
theorem tk_26 : kf_tabok 26 = true := by decide +kernel
theorem tk_27 : kf_tabok 27 = true := by decide +kernel
theorem tk_28 : kf_tabok 28 = true := by decide +kernel
theorem tk_29 : kf_tabok 29 = true := by decide +kernel
theorem tk_30 : kf_tabok 30 = true := by decide +kernel
theorem tk_31 : kf_tabok 31 = true := by decide +kernel
theorem tk_32 : kf_tabok 32 = true := by decide +kernel
theorem tk_33 : kf_tabok 33 = true := by decide +kernel
theorem tk_34 : kf_tabok 34 = true := by decide +kernel
theorem tk_35 : kf_tabok 35 = true := by decide +kernel
theorem tk_36 : kf_tabok 36 = true := by decide +kernel
theorem tk_37 : kf_tabok 37 = true := by decide +kernel
theorem tk_38 : kf_tabok 38 = true := by decide +kernel
theorem tk_39 : kf_tabok 39 = true := by decide +kernel
theorem tk_40 : kf_tabok 40 = true := by decide +kernel
theorem tk_41 : kf_tabok 41 = true := by decide +kernel
theorem tk_42 : kf_tabok 42 = true := by decide +kernel
theorem tk_43 : kf_tabok 43 = true := by decide +kernel
theorem tk_44 : kf_tabok 44 = true := by decide +kernel
theorem tk_45 : kf_tabok 45 = true := by decide +kernel
theorem tk_46 : kf_tabok 46 = true := by decide +kernel
theorem tk_47 : kf_tabok 47 = true := by decide +kernel
theorem tk_48 : kf_tabok 48 = true := by decide +kernel
theorem tk_49 : kf_tabok 49 = true := by decide +kernel
theorem tk_50 : kf_tabok 50 = true := by decide +kernel
theorem tk_51 : kf_tabok 51 = true := by decide +kernel
theorem tk_52 : kf_tabok 52 = true := by decide +kernel
theorem tk_53 : kf_tabok 53 = true := by decide +kernel
theorem tk_54 : kf_tabok 54 = true := by decide +kernel
theorem tk_55 : kf_tabok 55 = true := by decide +kernel
theorem tk_56 : kf_tabok 56 = true := by decide +kernel
theorem tk_57 : kf_tabok 57 = true := by decide +kernel
theorem tk_58 : kf_tabok 58 = true := by decide +kernel
theorem tk_59 : kf_tabok 59 = true := by decide +kernel
theorem tk_60 : kf_tabok 60 = true := by decide +kernel
theorem tk_61 : kf_tabok 61 = true := by decide +kernel
theorem tk_62 : kf_tabok 62 = true := by decide +kernel
theorem tk_63 : kf_tabok 63 = true := by decide +kernel
theorem tk_64 : kf_tabok 64 = true := by decide +kernel
theorem tk_65 : kf_tabok 65 = true := by decide +kernel
theorem tk_66 : kf_tabok 66 = true := by decide +kernel
theorem tk_67 : kf_tabok 67 = true := by decide +kernel
theorem tk_68 : kf_tabok 68 = true := by decide +kernel
theorem tk_69 : kf_tabok 69 = true := by decide +kernel
theorem tk_70 : kf_tabok 70 = true := by decide +kernel
theorem tk_71 : kf_tabok 71 = true := by decide +kernel
theorem tk_72 : kf_tabok 72 = true := by decide +kernel
theorem tk_73 : kf_tabok 73 = true := by decide +kernel
theorem tk_74 : kf_tabok 74 = true := by decide +kernel
theorem tk_75 : kf_tabok 75 = true := by decide +kernel
theorem tk_76 : kf_tabok 76 = true := by decide +kernel
theorem tk_77 : kf_tabok 77 = true := by decide +kernel
theorem tk_78 : kf_tabok 78 = true := by decide +kernel
theorem tk_79 : kf_tabok 79 = true := by decide +kernel
theorem tk_80 : kf_tabok 80 = true := by decide +kernel
theorem tk_81 : kf_tabok 81 = true := by decide +kernel
theorem tk_82 : kf_tabok 82 = true := by decide +kernel
theorem tk_83 : kf_tabok 83 = true := by decide +kernel
theorem tk_84 : kf_tabok 84 = true := by decide +kernel
theorem tk_85 : kf_tabok 85 = true := by decide +kernel
theorem tk_86 : kf_tabok 86 = true := by decide +kernel
theorem tk_87 : kf_tabok 87 = true := by decide +kernel
theorem tk_88 : kf_tabok 88 = true := by decide +kernel
theorem tk_89 : kf_tabok 89 = true := by decide +kernel
theorem tk_90 : kf_tabok 90 = true := by decide +kernel
theorem tk_91 : kf_tabok 91 = true := by decide +kernel
theorem tk_92 : kf_tabok 92 = true := by decide +kernel
theorem tk_93 : kf_tabok 93 = true := by decide +kernel
theorem tk_94 : kf_tabok 94 = true := by decide +kernel
theorem tk_95 : kf_tabok 95 = true := by decide +kernel
theorem tk_96 : kf_tabok 96 = true := by decide +kernel
theorem tk_97 : kf_tabok 97 = true := by decide +kernel
theorem tk_98 : kf_tabok 98 = true := by decide +kernel
theorem tk_99 : kf_tabok 99 = true := by decide +kernel
theorem tk_100 : kf_tabok 100 = true := by decide +kernel
theorem tk_101 : kf_tabok 101 = true := by decide +kernel
theorem tk_102 : kf_tabok 102 = true := by decide +kernel
theorem tk_103 : kf_tabok 103 = true := by decide +kernel
theorem tk_104 : kf_tabok 104 = true := by decide +kernel
theorem tk_105 : kf_tabok 105 = true := by decide +kernel
theorem tk_106 : kf_tabok 106 = true := by decide +kernel
theorem tk_107 : kf_tabok 107 = true := by decide +kernel
theorem tk_108 : kf_tabok 108 = true := by decide +kernel
theorem tk_109 : kf_tabok 109 = true := by decide +kernel
theorem tk_110 : kf_tabok 110 = true := by decide +kernel
theorem tk_111 : kf_tabok 111 = true := by decide +kernel
theorem tk_112 : kf_tabok 112 = true := by decide +kernel
theorem tk_113 : kf_tabok 113 = true := by decide +kernel
theorem tk_114 : kf_tabok 114 = true := by decide +kernel
theorem tk_115 : kf_tabok 115 = true := by decide +kernel
theorem tk_116 : kf_tabok 116 = true := by decide +kernel
theorem tk_117 : kf_tabok 117 = true := by decide +kernel
theorem tk_118 : kf_tabok 118 = true := by decide +kernel
theorem tk_119 : kf_tabok 119 = true := by decide +kernel
theorem tk_120 : kf_tabok 120 = true := by decide +kernel
theorem tk_121 : kf_tabok 121 = true := by decide +kernel
theorem tk_122 : kf_tabok 122 = true := by decide +kernel
theorem tk_123 : kf_tabok 123 = true := by decide +kernel
theorem tk_124 : kf_tabok 124 = true := by decide +kernel
theorem tk_125 : kf_tabok 125 = true := by decide +kernel
theorem tk_126 : kf_tabok 126 = true := by decide +kernel
theorem tk_127 : kf_tabok 127 = true := by decide +kernel
theorem tk_128 : kf_tabok 128 = true := by decide +kernel
theorem tk_129 : kf_tabok 129 = true := by decide +kernel
theorem tk_130 : kf_tabok 130 = true := by decide +kernel
theorem tk_131 : kf_tabok 131 = true := by decide +kernel
theorem tk_132 : kf_tabok 132 = true := by decide +kernel
theorem tk_133 : kf_tabok 133 = true := by decide +kernel
theorem tk_134 : kf_tabok 134 = true := by decide +kernel
theorem tk_135 : kf_tabok 135 = true := by decide +kernel
theorem tk_136 : kf_tabok 136 = true := by decide +kernel
theorem tk_137 : kf_tabok 137 = true := by decide +kernel
theorem tk_138 : kf_tabok 138 = true := by decide +kernel
theorem tk_139 : kf_tabok 139 = true := by decide +kernel
theorem tk_140 : kf_tabok 140 = true := by decide +kernel
theorem tk_141 : kf_tabok 141 = true := by decide +kernel
theorem tk_142 : kf_tabok 142 = true := by decide +kernel
theorem tk_143 : kf_tabok 143 = true := by decide +kernel
theorem tk_144 : kf_tabok 144 = true := by decide +kernel
theorem tk_145 : kf_tabok 145 = true := by decide +kernel
theorem tk_146 : kf_tabok 146 = true := by decide +kernel
theorem tk_147 : kf_tabok 147 = true := by decide +kernel
theorem tk_148 : kf_tabok 148 = true := by decide +kernel
theorem tk_149 : kf_tabok 149 = true := by decide +kernel
theorem tk_150 : kf_tabok 150 = true := by decide +kernel
theorem tk_151 : kf_tabok 151 = true := by decide +kernel
theorem tk_152 : kf_tabok 152 = true := by decide +kernel
theorem tk_153 : kf_tabok 153 = true := by decide +kernel
theorem tk_154 : kf_tabok 154 = true := by decide +kernel
theorem tk_155 : kf_tabok 155 = true := by decide +kernel
theorem tk_156 : kf_tabok 156 = true := by decide +kernel
theorem tk_157 : kf_tabok 157 = true := by decide +kernel
theorem tk_158 : kf_tabok 158 = true := by decide +kernel
theorem tk_159 : kf_tabok 159 = true := by decide +kernel
theorem tk_160 : kf_tabok 160 = true := by decide +kernel
theorem tk_161 : kf_tabok 161 = true := by decide +kernel
theorem tk_162 : kf_tabok 162 = true := by decide +kernel
theorem tk_163 : kf_tabok 163 = true := by decide +kernel
theorem tk_164 : kf_tabok 164 = true := by decide +kernel
theorem tk_165 : kf_tabok 165 = true := by decide +kernel
theorem tk_166 : kf_tabok 166 = true := by decide +kernel
theorem tk_167 : kf_tabok 167 = true := by decide +kernel
theorem tk_168 : kf_tabok 168 = true := by decide +kernel
theorem tk_169 : kf_tabok 169 = true := by decide +kernel
theorem tk_170 : kf_tabok 170 = true := by decide +kernel
theorem tk_171 : kf_tabok 171 = true := by decide +kernel
theorem tk_172 : kf_tabok 172 = true := by decide +kernel
theorem tk_173 : kf_tabok 173 = true := by decide +kernel
theorem tk_174 : kf_tabok 174 = true := by decide +kernel
theorem tk_175 : kf_tabok 175 = true := by decide +kernel
theorem tk_176 : kf_tabok 176 = true := by decide +kernel
theorem tk_177 : kf_tabok 177 = true := by decide +kernel
theorem tk_178 : kf_tabok 178 = true := by decide +kernel
theorem tk_179 : kf_tabok 179 = true := by decide +kernel
theorem tk_180 : kf_tabok 180 = true := by decide +kernel
theorem tk_181 : kf_tabok 181 = true := by decide +kernel
theorem tk_182 : kf_tabok 182 = true := by decide +kernel
theorem tk_183 : kf_tabok 183 = true := by decide +kernel
theorem tk_184 : kf_tabok 184 = true := by decide +kernel
theorem tk_185 : kf_tabok 185 = true := by decide +kernel
theorem tk_186 : kf_tabok 186 = true := by decide +kernel
theorem tk_187 : kf_tabok 187 = true := by decide +kernel
theorem tk_188 : kf_tabok 188 = true := by decide +kernel
theorem tk_189 : kf_tabok 189 = true := by decide +kernel
theorem tk_190 : kf_tabok 190 = true := by decide +kernel
theorem tk_191 : kf_tabok 191 = true := by decide +kernel
theorem tk_192 : kf_tabok 192 = true := by decide +kernel
theorem tk_193 : kf_tabok 193 = true := by decide +kernel
theorem tk_194 : kf_tabok 194 = true := by decide +kernel
theorem tk_195 : kf_tabok 195 = true := by decide +kernel
theorem tk_196 : kf_tabok 196 = true := by decide +kernel
theorem tk_197 : kf_tabok 197 = true := by decide +kernel
theorem tk_198 : kf_tabok 198 = true := by decide +kernel
theorem tk_199 : kf_tabok 199 = true := by decide +kernel
theorem tk_200 : kf_tabok 200 = true := by decide +kernel
theorem tk_201 : kf_tabok 201 = true := by decide +kernel
theorem tk_202 : kf_tabok 202 = true := by decide +kernel
theorem tk_203 : kf_tabok 203 = true := by decide +kernel
theorem tk_204 : kf_tabok 204 = true := by decide +kernel
theorem tk_205 : kf_tabok 205 = true := by decide +kernel
theorem tk_206 : kf_tabok 206 = true := by decide +kernel
theorem tk_207 : kf_tabok 207 = true := by decide +kernel
theorem tk_208 : kf_tabok 208 = true := by decide +kernel
set_option maxRecDepth 100000 in
theorem tk_all : ∀ k, k < 209 → kf_tabok k = true := lt_s (lt_s (lt_s (lt_s (lt_s (lt_s (lt_s (lt_s (lt_s (lt_s (lt_s (lt_s (lt_s (lt_s (lt_s (lt_s (lt_s (lt_s (lt_s (lt_s (lt_s (lt_s (lt_s (lt_s (lt_s (lt_s (lt_s (lt_s (lt_s (lt_s (lt_s (lt_s (lt_s (lt_s (lt_s (lt_s (lt_s (lt_s (lt_s (lt_s (lt_s (lt_s (lt_s (lt_s (lt_s (lt_s (lt_s (lt_s (lt_s (lt_s (lt_s (lt_s (lt_s (lt_s (lt_s (lt_s (lt_s (lt_s (lt_s (lt_s (lt_s (lt_s (lt_s (lt_s (lt_s (lt_s (lt_s (lt_s (lt_s (lt_s (lt_s (lt_s (lt_s (lt_s (lt_s (lt_s (lt_s (lt_s (lt_s (lt_s (lt_s (lt_s (lt_s (lt_s (lt_s (lt_s (lt_s (lt_s (lt_s (lt_s (lt_s (lt_s (lt_s (lt_s (lt_s (lt_s (lt_s (lt_s (lt_s (lt_s (lt_s (lt_s (lt_s (lt_s (lt_s (lt_s (lt_s (lt_s (lt_s (lt_s (lt_s (lt_s (lt_s (lt_s (lt_s (lt_s (lt_s (lt_s (lt_s (lt_s (lt_s (lt_s (lt_s (lt_s (lt_s (lt_s (lt_s (lt_s (lt_s (lt_s (lt_s (lt_s (lt_s (lt_s (lt_s (lt_s (lt_s (lt_s (lt_s (lt_s (lt_s (lt_s (lt_s (lt_s (lt_s (lt_s (lt_s (lt_s (lt_s (lt_s (lt_s (lt_s (lt_s (lt_s (lt_s (lt_s (lt_s (lt_s (lt_s (lt_s (lt_s (lt_s (lt_s (lt_s (lt_s (lt_s (lt_s (lt_s (lt_s (lt_s (lt_s (lt_s (lt_s (lt_s (lt_s (lt_s (lt_s (lt_s (lt_s (lt_s (lt_s (lt_s (lt_s (lt_s (lt_s (lt_s (lt_s (lt_s (lt_s (lt_s (lt_s (lt_s (lt_s (lt_s (lt_s (lt_s (lt_s (lt_s (lt_s (lt_s (lt_s (lt_s (lt_s (lt_s (lt_s (lt_s (lt_s (lt_s (lt_s (lt_0) tk_0) tk_1) tk_2) tk_3) tk_4) tk_5) tk_6) tk_7) tk_8) tk_9) tk_10) tk_11) tk_12) tk_13) tk_14) tk_15) tk_16) tk_17) tk_18) tk_19) tk_20) tk_21) tk_22) tk_23) tk_24) tk_25) tk_26) tk_27) tk_28) tk_29) tk_30) tk_31) tk_32) tk_33) tk_34) tk_35) tk_36) tk_37) tk_38) tk_39) tk_40) tk_41) tk_42) tk_43) tk_44) tk_45) tk_46) tk_47) tk_48) tk_49) tk_50) tk_51) tk_52) tk_53) tk_54) tk_55) tk_56) tk_57) tk_58) tk_59) tk_60) tk_61) tk_62) tk_63) tk_64) tk_65) tk_66) tk_67) tk_68) tk_69) tk_70) tk_71) tk_72) tk_73) tk_74) tk_75) tk_76) tk_77) tk_78) tk_79) tk_80) tk_81) tk_82) tk_83) tk_84) tk_85) tk_86) tk_87) tk_88) tk_89) tk_90) tk_91) tk_92) tk_93) tk_94) tk_95) tk_96) tk_97) tk_98) tk_99) tk_100) tk_101) tk_102) tk_103) tk_104) tk_105) tk_106) tk_107) tk_108) tk_109) tk_110) tk_111) tk_112) tk_113) tk_114) tk_115) tk_116) tk_117) tk_118) tk_119) tk_120) tk_121) tk_122) tk_123) tk_124) tk_125) tk_126) tk_127) tk_128) tk_129) tk_130) tk_131) tk_132) tk_133) tk_134) tk_135) tk_136) tk_137) tk_138) tk_139) tk_140) tk_141) tk_142) tk_143) tk_144) tk_145) tk_146) tk_147) tk_148) tk_149) tk_150) tk_151) tk_152) tk_153) tk_154) tk_155) tk_156) tk_157) tk_158) tk_159) tk_160) tk_161) tk_162) tk_163) tk_164) tk_165) tk_166) tk_167) tk_168) tk_169) tk_170) tk_171) tk_172) tk_173) tk_174) tk_175) tk_176) tk_177) tk_178) tk_179) tk_180) tk_181) tk_182) tk_183) tk_184) tk_185) tk_186) tk_187) tk_188) tk_189) tk_190) tk_191) tk_192) tk_193) tk_194) tk_195) tk_196) tk_197) tk_198) tk_199) tk_200) tk_201) tk_202) tk_203) tk_204) tk_205) tk_206) tk_207) tk_208
def kf_roomok (k : Nat) : Bool := match kf_tabs[k]?, kf_fr[k]?, kf_lo[k]? with
  | some t, some fr, some lo => t.all fun r => match r.2.1 with
    | .invokestatic e => if e = 9985 ∨ e = 9972 ∨ e = 9962 then decide (1 ≤ fr ∧ 60 ≤ lo) else decide (((kf_fr[e / 10]?).getD 99) + 1 ≤ fr ∧ 8 + (((kf_mx[e / 10]?).getD 999) + 11) + ((kf_lo[e / 10]?).getD 999) ≤ lo)
    | .invokespecial e => if e = 9991 then decide (1 ≤ fr ∧ 60 ≤ lo) else decide (((kf_fr[e / 10]?).getD 99) + 1 ≤ fr ∧ 8 + (((kf_mx[e / 10]?).getD 999) + 11) + ((kf_lo[e / 10]?).getD 999) ≤ lo)
    | .invokevirtual e => decide (((kf_fr[e / 10]?).getD 99) + 1 ≤ fr ∧ 8 + (((kf_mx[e / 10]?).getD 999) + 11) + ((kf_lo[e / 10]?).getD 999) ≤ lo)
    | _ => true
  | _, _, _ => false
theorem rk_all : ∀ k, k < 209 → kf_roomok k = true := by decide +kernel
