/-! THE WORDS OF THE METHODS' BYTES -/
def cwP (y : Nat) : Prop := lw_tbl[(mPl y).1]? = some (.code (mNm y) (mCd y) (mMx y) (mRt y))
set_option maxRecDepth 20000 in
theorem cw_0 : cwP 0 := rfl
set_option maxRecDepth 20000 in
theorem cw_1 : cwP 1 := rfl
set_option maxRecDepth 20000 in
theorem cw_2 : cwP 2 := rfl
set_option maxRecDepth 20000 in
theorem cw_3 : cwP 3 := rfl
set_option maxRecDepth 20000 in
theorem cw_4 : cwP 4 := rfl
set_option maxRecDepth 20000 in
theorem cw_5 : cwP 5 := rfl
set_option maxRecDepth 20000 in
theorem cw_6 : cwP 6 := rfl
set_option maxRecDepth 20000 in
theorem cw_7 : cwP 7 := rfl
set_option maxRecDepth 20000 in
theorem cw_8 : cwP 8 := rfl
set_option maxRecDepth 20000 in
theorem cw_9 : cwP 9 := rfl
set_option maxRecDepth 20000 in
theorem cw_10 : cwP 10 := rfl
set_option maxRecDepth 20000 in
theorem cw_11 : cwP 11 := rfl
set_option maxRecDepth 20000 in
theorem cw_12 : cwP 12 := rfl
set_option maxRecDepth 20000 in
theorem cw_13 : cwP 13 := rfl
set_option maxRecDepth 20000 in
theorem cw_14 : cwP 14 := rfl
set_option maxRecDepth 20000 in
theorem cw_15 : cwP 15 := rfl
set_option maxRecDepth 20000 in
theorem cw_16 : cwP 16 := rfl
set_option maxRecDepth 20000 in
theorem cw_17 : cwP 17 := rfl
set_option maxRecDepth 20000 in
theorem cw_18 : cwP 18 := rfl
set_option maxRecDepth 20000 in
theorem cw_19 : cwP 19 := rfl
set_option maxRecDepth 20000 in
theorem cw_20 : cwP 20 := rfl
set_option maxRecDepth 20000 in
theorem cw_21 : cwP 21 := rfl
set_option maxRecDepth 20000 in
theorem cw_22 : cwP 22 := rfl
set_option maxRecDepth 20000 in
theorem cw_23 : cwP 23 := rfl
set_option maxRecDepth 20000 in
theorem cw_24 : cwP 24 := rfl
set_option maxRecDepth 20000 in
theorem cw_25 : cwP 25 := rfl
set_option maxRecDepth 20000 in
theorem cw_26 : cwP 26 := rfl
set_option maxRecDepth 20000 in
theorem cw_27 : cwP 27 := rfl
set_option maxRecDepth 20000 in
theorem cw_28 : cwP 28 := rfl
set_option maxRecDepth 20000 in
theorem cw_29 : cwP 29 := rfl
set_option maxRecDepth 20000 in
theorem cw_30 : cwP 30 := rfl
set_option maxRecDepth 20000 in
theorem cw_31 : cwP 31 := rfl
set_option maxRecDepth 20000 in
theorem cw_32 : cwP 32 := rfl
set_option maxRecDepth 20000 in
theorem cw_33 : cwP 33 := rfl
set_option maxRecDepth 20000 in
theorem cw_34 : cwP 34 := rfl
set_option maxRecDepth 20000 in
theorem cw_35 : cwP 35 := rfl
set_option maxRecDepth 20000 in
theorem cw_36 : cwP 36 := rfl
set_option maxRecDepth 20000 in
theorem cw_37 : cwP 37 := rfl
set_option maxRecDepth 20000 in
theorem cw_38 : cwP 38 := rfl
set_option maxRecDepth 20000 in
theorem cw_39 : cwP 39 := rfl
set_option maxRecDepth 20000 in
theorem cw_40 : cwP 40 := rfl
set_option maxRecDepth 20000 in
theorem cw_41 : cwP 41 := rfl
set_option maxRecDepth 20000 in
theorem cw_42 : cwP 42 := rfl
set_option maxRecDepth 20000 in
theorem cw_43 : cwP 43 := rfl
set_option maxRecDepth 20000 in
theorem cw_44 : cwP 44 := rfl
set_option maxRecDepth 20000 in
theorem cw_45 : cwP 45 := rfl
set_option maxRecDepth 20000 in
theorem cw_46 : cwP 46 := rfl
set_option maxRecDepth 20000 in
theorem cw_47 : cwP 47 := rfl
set_option maxRecDepth 20000 in
theorem cw_48 : cwP 48 := rfl
set_option maxRecDepth 20000 in
theorem cw_49 : cwP 49 := rfl
set_option maxRecDepth 20000 in
theorem cw_50 : cwP 50 := rfl
set_option maxRecDepth 20000 in
theorem cw_51 : cwP 51 := rfl
set_option maxRecDepth 20000 in
theorem cw_52 : cwP 52 := rfl
set_option maxRecDepth 20000 in
theorem cw_53 : cwP 53 := rfl
set_option maxRecDepth 20000 in
theorem cw_54 : cwP 54 := rfl
set_option maxRecDepth 20000 in
theorem cw_55 : cwP 55 := rfl
set_option maxRecDepth 20000 in
theorem cw_56 : cwP 56 := rfl
set_option maxRecDepth 20000 in
theorem cw_57 : cwP 57 := rfl
set_option maxRecDepth 20000 in
theorem cw_58 : cwP 58 := rfl
set_option maxRecDepth 20000 in
theorem cw_59 : cwP 59 := rfl
set_option maxRecDepth 20000 in
theorem cw_60 : cwP 60 := rfl
set_option maxRecDepth 20000 in
theorem cw_61 : cwP 61 := rfl
set_option maxRecDepth 20000 in
theorem cw_62 : cwP 62 := rfl
set_option maxRecDepth 20000 in
theorem cw_63 : cwP 63 := rfl
set_option maxRecDepth 20000 in
theorem cw_64 : cwP 64 := rfl
set_option maxRecDepth 20000 in
theorem cw_65 : cwP 65 := rfl
set_option maxRecDepth 20000 in
theorem cw_66 : cwP 66 := rfl
set_option maxRecDepth 20000 in
theorem cw_67 : cwP 67 := rfl
set_option maxRecDepth 20000 in
theorem cw_68 : cwP 68 := rfl
set_option maxRecDepth 20000 in
theorem cw_69 : cwP 69 := rfl
set_option maxRecDepth 20000 in
theorem cw_70 : cwP 70 := rfl
set_option maxRecDepth 20000 in
theorem cw_71 : cwP 71 := rfl
set_option maxRecDepth 20000 in
theorem cw_72 : cwP 72 := rfl
set_option maxRecDepth 20000 in
theorem cw_73 : cwP 73 := rfl
set_option maxRecDepth 20000 in
theorem cw_74 : cwP 74 := rfl
set_option maxRecDepth 20000 in
theorem cw_75 : cwP 75 := rfl
set_option maxRecDepth 20000 in
theorem cw_76 : cwP 76 := rfl
set_option maxRecDepth 20000 in
theorem cw_77 : cwP 77 := rfl
set_option maxRecDepth 20000 in
theorem cw_78 : cwP 78 := rfl
set_option maxRecDepth 20000 in
theorem cw_79 : cwP 79 := rfl
set_option maxRecDepth 20000 in
theorem cw_80 : cwP 80 := rfl
set_option maxRecDepth 20000 in
theorem cw_81 : cwP 81 := rfl
set_option maxRecDepth 20000 in
theorem cw_82 : cwP 82 := rfl
set_option maxRecDepth 20000 in
theorem cw_83 : cwP 83 := rfl
set_option maxRecDepth 20000 in
theorem cw_84 : cwP 84 := rfl
set_option maxRecDepth 20000 in
theorem cw_85 : cwP 85 := rfl
set_option maxRecDepth 20000 in
theorem cw_86 : cwP 86 := rfl
set_option maxRecDepth 20000 in
theorem cw_87 : cwP 87 := rfl
set_option maxRecDepth 20000 in
theorem cw_88 : cwP 88 := rfl
set_option maxRecDepth 20000 in
theorem cw_89 : cwP 89 := rfl
set_option maxRecDepth 20000 in
theorem cw_90 : cwP 90 := rfl
set_option maxRecDepth 20000 in
theorem cw_91 : cwP 91 := rfl
set_option maxRecDepth 20000 in
theorem cw_92 : cwP 92 := rfl
set_option maxRecDepth 20000 in
theorem cw_93 : cwP 93 := rfl
set_option maxRecDepth 20000 in
theorem cw_94 : cwP 94 := rfl
set_option maxRecDepth 20000 in
theorem cw_95 : cwP 95 := rfl
set_option maxRecDepth 20000 in
theorem cw_96 : cwP 96 := rfl
set_option maxRecDepth 20000 in
theorem cw_97 : cwP 97 := rfl
set_option maxRecDepth 20000 in
theorem cw_98 : cwP 98 := rfl
set_option maxRecDepth 20000 in
theorem cw_99 : cwP 99 := rfl
set_option maxRecDepth 20000 in
theorem cw_100 : cwP 100 := rfl
set_option maxRecDepth 20000 in
theorem cw_101 : cwP 101 := rfl
set_option maxRecDepth 20000 in
theorem cw_102 : cwP 102 := rfl
set_option maxRecDepth 20000 in
theorem cw_103 : cwP 103 := rfl
set_option maxRecDepth 20000 in
theorem cw_104 : cwP 104 := rfl
set_option maxRecDepth 20000 in
theorem cw_105 : cwP 105 := rfl
set_option maxRecDepth 20000 in
theorem cw_106 : cwP 106 := rfl
set_option maxRecDepth 20000 in
theorem cw_107 : cwP 107 := rfl
set_option maxRecDepth 20000 in
theorem cw_108 : cwP 108 := rfl
set_option maxRecDepth 20000 in
theorem cw_109 : cwP 109 := rfl
set_option maxRecDepth 20000 in
theorem cw_110 : cwP 110 := rfl
set_option maxRecDepth 20000 in
theorem cw_111 : cwP 111 := rfl
set_option maxRecDepth 20000 in
theorem cw_112 : cwP 112 := rfl
set_option maxRecDepth 20000 in
theorem cw_113 : cwP 113 := rfl
set_option maxRecDepth 20000 in
theorem cw_114 : cwP 114 := rfl
set_option maxRecDepth 20000 in
theorem cw_115 : cwP 115 := rfl
set_option maxRecDepth 20000 in
theorem cw_116 : cwP 116 := rfl
set_option maxRecDepth 20000 in
theorem cw_117 : cwP 117 := rfl
set_option maxRecDepth 20000 in
theorem cw_118 : cwP 118 := rfl
set_option maxRecDepth 20000 in
theorem cw_119 : cwP 119 := rfl
set_option maxRecDepth 20000 in
theorem cw_120 : cwP 120 := rfl
set_option maxRecDepth 20000 in
theorem cw_121 : cwP 121 := rfl
set_option maxRecDepth 20000 in
theorem cw_122 : cwP 122 := rfl
set_option maxRecDepth 20000 in
theorem cw_123 : cwP 123 := rfl
set_option maxRecDepth 20000 in
theorem cw_124 : cwP 124 := rfl
set_option maxRecDepth 20000 in
theorem cw_125 : cwP 125 := rfl
set_option maxRecDepth 20000 in
theorem cw_126 : cwP 126 := rfl
set_option maxRecDepth 20000 in
theorem cw_127 : cwP 127 := rfl
set_option maxRecDepth 20000 in
theorem cw_128 : cwP 128 := rfl
set_option maxRecDepth 20000 in
theorem cw_129 : cwP 129 := rfl
set_option maxRecDepth 20000 in
theorem cw_130 : cwP 130 := rfl
set_option maxRecDepth 20000 in
theorem cw_131 : cwP 131 := rfl
set_option maxRecDepth 20000 in
theorem cw_132 : cwP 132 := rfl
set_option maxRecDepth 20000 in
theorem cw_133 : cwP 133 := rfl
set_option maxRecDepth 20000 in
theorem cw_134 : cwP 134 := rfl
set_option maxRecDepth 20000 in
theorem cw_135 : cwP 135 := rfl
set_option maxRecDepth 20000 in
theorem cw_136 : cwP 136 := rfl
set_option maxRecDepth 20000 in
theorem cw_137 : cwP 137 := rfl
set_option maxRecDepth 20000 in
theorem cw_138 : cwP 138 := rfl
set_option maxRecDepth 20000 in
theorem cw_139 : cwP 139 := rfl
set_option maxRecDepth 20000 in
theorem cw_140 : cwP 140 := rfl
set_option maxRecDepth 20000 in
theorem cw_141 : cwP 141 := rfl
set_option maxRecDepth 20000 in
theorem cw_142 : cwP 142 := rfl
set_option maxRecDepth 20000 in
theorem cw_143 : cwP 143 := rfl
set_option maxRecDepth 20000 in
theorem cw_144 : cwP 144 := rfl
set_option maxRecDepth 20000 in
theorem cw_145 : cwP 145 := rfl
set_option maxRecDepth 20000 in
theorem cw_146 : cwP 146 := rfl
set_option maxRecDepth 20000 in
theorem cw_147 : cwP 147 := rfl
set_option maxRecDepth 20000 in
theorem cw_148 : cwP 148 := rfl
set_option maxRecDepth 20000 in
theorem cw_149 : cwP 149 := rfl
set_option maxRecDepth 20000 in
theorem cw_150 : cwP 150 := rfl
set_option maxRecDepth 20000 in
theorem cw_151 : cwP 151 := rfl
set_option maxRecDepth 20000 in
theorem cw_152 : cwP 152 := rfl
set_option maxRecDepth 20000 in
theorem cw_153 : cwP 153 := rfl
set_option maxRecDepth 20000 in
theorem cw_154 : cwP 154 := rfl
set_option maxRecDepth 20000 in
theorem cw_155 : cwP 155 := rfl
set_option maxRecDepth 20000 in
theorem cw_156 : cwP 156 := rfl
set_option maxRecDepth 20000 in
theorem cw_157 : cwP 157 := rfl
set_option maxRecDepth 20000 in
theorem cw_158 : cwP 158 := rfl
set_option maxRecDepth 20000 in
theorem cw_159 : cwP 159 := rfl
set_option maxRecDepth 20000 in
theorem cw_160 : cwP 160 := rfl
set_option maxRecDepth 20000 in
theorem cw_161 : cwP 161 := rfl
set_option maxRecDepth 20000 in
theorem cw_162 : cwP 162 := rfl
set_option maxRecDepth 20000 in
theorem cw_163 : cwP 163 := rfl
set_option maxRecDepth 20000 in
theorem cw_164 : cwP 164 := rfl
set_option maxRecDepth 20000 in
theorem cw_165 : cwP 165 := rfl
set_option maxRecDepth 20000 in
theorem cw_166 : cwP 166 := rfl
set_option maxRecDepth 20000 in
theorem cw_167 : cwP 167 := rfl
set_option maxRecDepth 20000 in
theorem cw_168 : cwP 168 := rfl
set_option maxRecDepth 20000 in
theorem cw_169 : cwP 169 := rfl
set_option maxRecDepth 20000 in
theorem cw_170 : cwP 170 := rfl
set_option maxRecDepth 20000 in
theorem cw_171 : cwP 171 := rfl
set_option maxRecDepth 20000 in
theorem cw_172 : cwP 172 := rfl
set_option maxRecDepth 20000 in
theorem cw_173 : cwP 173 := rfl
set_option maxRecDepth 20000 in
theorem cw_174 : cwP 174 := rfl
set_option maxRecDepth 20000 in
theorem cw_175 : cwP 175 := rfl
set_option maxRecDepth 20000 in
theorem cw_176 : cwP 176 := rfl
set_option maxRecDepth 20000 in
theorem cw_177 : cwP 177 := rfl
set_option maxRecDepth 20000 in
theorem cw_178 : cwP 178 := rfl
set_option maxRecDepth 20000 in
theorem cw_179 : cwP 179 := rfl
set_option maxRecDepth 20000 in
theorem cw_180 : cwP 180 := rfl
set_option maxRecDepth 20000 in
theorem cw_181 : cwP 181 := rfl
set_option maxRecDepth 20000 in
theorem cw_182 : cwP 182 := rfl
set_option maxRecDepth 20000 in
theorem cw_183 : cwP 183 := rfl
set_option maxRecDepth 20000 in
theorem cw_184 : cwP 184 := rfl
set_option maxRecDepth 20000 in
theorem cw_185 : cwP 185 := rfl
set_option maxRecDepth 20000 in
theorem cw_186 : cwP 186 := rfl
set_option maxRecDepth 20000 in
theorem cw_187 : cwP 187 := rfl
set_option maxRecDepth 20000 in
theorem cw_188 : cwP 188 := rfl
set_option maxRecDepth 20000 in
theorem cw_189 : cwP 189 := rfl
theorem cwA_0 : ∀ a, a < 10 → cwP a := (lt_s (lt_s (lt_s (lt_s (lt_s (lt_s (lt_s (lt_s (lt_s (lt_s (lt_0 (p := cwP)) cw_0) cw_1) cw_2) cw_3) cw_4) cw_5) cw_6) cw_7) cw_8) cw_9)
theorem cwA_1 : ∀ a, a < 20 → cwP a := (lt_s (lt_s (lt_s (lt_s (lt_s (lt_s (lt_s (lt_s (lt_s (lt_s cwA_0 cw_10) cw_11) cw_12) cw_13) cw_14) cw_15) cw_16) cw_17) cw_18) cw_19)
theorem cwA_2 : ∀ a, a < 30 → cwP a := (lt_s (lt_s (lt_s (lt_s (lt_s (lt_s (lt_s (lt_s (lt_s (lt_s cwA_1 cw_20) cw_21) cw_22) cw_23) cw_24) cw_25) cw_26) cw_27) cw_28) cw_29)
theorem cwA_3 : ∀ a, a < 40 → cwP a := (lt_s (lt_s (lt_s (lt_s (lt_s (lt_s (lt_s (lt_s (lt_s (lt_s cwA_2 cw_30) cw_31) cw_32) cw_33) cw_34) cw_35) cw_36) cw_37) cw_38) cw_39)
theorem cwA_4 : ∀ a, a < 50 → cwP a := (lt_s (lt_s (lt_s (lt_s (lt_s (lt_s (lt_s (lt_s (lt_s (lt_s cwA_3 cw_40) cw_41) cw_42) cw_43) cw_44) cw_45) cw_46) cw_47) cw_48) cw_49)
theorem cwA_5 : ∀ a, a < 60 → cwP a := (lt_s (lt_s (lt_s (lt_s (lt_s (lt_s (lt_s (lt_s (lt_s (lt_s cwA_4 cw_50) cw_51) cw_52) cw_53) cw_54) cw_55) cw_56) cw_57) cw_58) cw_59)
theorem cwA_6 : ∀ a, a < 70 → cwP a := (lt_s (lt_s (lt_s (lt_s (lt_s (lt_s (lt_s (lt_s (lt_s (lt_s cwA_5 cw_60) cw_61) cw_62) cw_63) cw_64) cw_65) cw_66) cw_67) cw_68) cw_69)
theorem cwA_7 : ∀ a, a < 80 → cwP a := (lt_s (lt_s (lt_s (lt_s (lt_s (lt_s (lt_s (lt_s (lt_s (lt_s cwA_6 cw_70) cw_71) cw_72) cw_73) cw_74) cw_75) cw_76) cw_77) cw_78) cw_79)
theorem cwA_8 : ∀ a, a < 90 → cwP a := (lt_s (lt_s (lt_s (lt_s (lt_s (lt_s (lt_s (lt_s (lt_s (lt_s cwA_7 cw_80) cw_81) cw_82) cw_83) cw_84) cw_85) cw_86) cw_87) cw_88) cw_89)
theorem cwA_9 : ∀ a, a < 100 → cwP a := (lt_s (lt_s (lt_s (lt_s (lt_s (lt_s (lt_s (lt_s (lt_s (lt_s cwA_8 cw_90) cw_91) cw_92) cw_93) cw_94) cw_95) cw_96) cw_97) cw_98) cw_99)
theorem cwA_10 : ∀ a, a < 110 → cwP a := (lt_s (lt_s (lt_s (lt_s (lt_s (lt_s (lt_s (lt_s (lt_s (lt_s cwA_9 cw_100) cw_101) cw_102) cw_103) cw_104) cw_105) cw_106) cw_107) cw_108) cw_109)
theorem cwA_11 : ∀ a, a < 120 → cwP a := (lt_s (lt_s (lt_s (lt_s (lt_s (lt_s (lt_s (lt_s (lt_s (lt_s cwA_10 cw_110) cw_111) cw_112) cw_113) cw_114) cw_115) cw_116) cw_117) cw_118) cw_119)
theorem cwA_12 : ∀ a, a < 130 → cwP a := (lt_s (lt_s (lt_s (lt_s (lt_s (lt_s (lt_s (lt_s (lt_s (lt_s cwA_11 cw_120) cw_121) cw_122) cw_123) cw_124) cw_125) cw_126) cw_127) cw_128) cw_129)
theorem cwA_13 : ∀ a, a < 140 → cwP a := (lt_s (lt_s (lt_s (lt_s (lt_s (lt_s (lt_s (lt_s (lt_s (lt_s cwA_12 cw_130) cw_131) cw_132) cw_133) cw_134) cw_135) cw_136) cw_137) cw_138) cw_139)
theorem cwA_14 : ∀ a, a < 150 → cwP a := (lt_s (lt_s (lt_s (lt_s (lt_s (lt_s (lt_s (lt_s (lt_s (lt_s cwA_13 cw_140) cw_141) cw_142) cw_143) cw_144) cw_145) cw_146) cw_147) cw_148) cw_149)
theorem cwA_15 : ∀ a, a < 160 → cwP a := (lt_s (lt_s (lt_s (lt_s (lt_s (lt_s (lt_s (lt_s (lt_s (lt_s cwA_14 cw_150) cw_151) cw_152) cw_153) cw_154) cw_155) cw_156) cw_157) cw_158) cw_159)
theorem cwA_16 : ∀ a, a < 170 → cwP a := (lt_s (lt_s (lt_s (lt_s (lt_s (lt_s (lt_s (lt_s (lt_s (lt_s cwA_15 cw_160) cw_161) cw_162) cw_163) cw_164) cw_165) cw_166) cw_167) cw_168) cw_169)
theorem cwA_17 : ∀ a, a < 180 → cwP a := (lt_s (lt_s (lt_s (lt_s (lt_s (lt_s (lt_s (lt_s (lt_s (lt_s cwA_16 cw_170) cw_171) cw_172) cw_173) cw_174) cw_175) cw_176) cw_177) cw_178) cw_179)
theorem cwA_18 : ∀ a, a < 190 → cwP a := (lt_s (lt_s (lt_s (lt_s (lt_s (lt_s (lt_s (lt_s (lt_s (lt_s cwA_17 cw_180) cw_181) cw_182) cw_183) cw_184) cw_185) cw_186) cw_187) cw_188) cw_189)
theorem cw_in {y : Nat} (h : y < 190) : Cond.code (mNm y) (mCd y) (mMx y) (mRt y) ∈ tblG := tblG_of (cwA_18 y h) rfl
