def scT (L : Nat) (xs : Nat → Int32) : aS := [(5, fun j => [121, 115, 101, 119, 116].getD j 0), (5, fun j => [1, 10, 0, 0, 0].getD j 0), (5, fun j => [9, 99, 9, 9, 9].getD j 0), (5, fun j => [3, 40, 1, 4, 2].getD j 0), (5, fun j => [114, 111, 107, 120, 100].getD j 0), (5, fun j => [0, -1, 1, -2, 2].getD j 0), (L, xs)]
theorem sh_0 : shp[0]? = some (2, 11, [3, 4, 5, 6, 7, 8, 27, 30, 37, 124, 127, 129, 133, 137, 138, 139, 0, 0, 1, 1]) := by decide +kernel
theorem sh_1 : shp[1]? = some (1, 8, [138, 140, 142, 144, 146, 148]) := by decide +kernel
theorem sh_2 : shp[2]? = some (1, 10, [150, 152, 154, 156]) := by decide +kernel
theorem sh_3 : shp[3]? = some (1, 4, [158, 160, 162, 164]) := by decide +kernel
theorem sh_4 : shp[4]? = some (1, 1, [166, 170, 174, 178]) := by decide +kernel
theorem sh_5 : shp[5]? = some (1, 6, [182, 201, 220]) := by decide +kernel
theorem sh_6 : shp[6]? = some (2, 6, [9, 11, 15, 21, 0]) := by decide +kernel
theorem sh_7 : shp[7]? = some (2, 4, [10, 0]) := by decide +kernel
theorem sh_8 : shp[8]? = some (0, 100, [5]) := by decide +kernel
theorem sh_9 : shp[9]? = some (2, 1, [12, 13, 14, 0, 0]) := by decide +kernel
theorem sh_10 : shp[10]? = some (0, 100, [10]) := by decide +kernel
theorem sh_11 : shp[11]? = some (0, 100, [10]) := by decide +kernel
theorem sh_12 : shp[12]? = some (0, 100, [10]) := by decide +kernel
theorem sh_13 : shp[13]? = some (2, 2, [16, 17, 18, 19, 20, 0, 0, 0, 0, 0]) := by decide +kernel
theorem sh_14 : shp[14]? = some (0, 100, [24]) := by decide +kernel
theorem sh_15 : shp[15]? = some (0, 100, [24]) := by decide +kernel
theorem sh_16 : shp[16]? = some (0, 100, [24]) := by decide +kernel
theorem sh_17 : shp[17]? = some (0, 100, [24]) := by decide +kernel
theorem sh_18 : shp[18]? = some (0, 100, [24]) := by decide +kernel
theorem sh_19 : shp[19]? = some (2, 3, [22, 23, 24, 25, 26]) := by decide +kernel
theorem sh_20 : shp[20]? = some (0, 100, [24]) := by decide +kernel
theorem sh_21 : shp[21]? = some (0, 100, [24]) := by decide +kernel
theorem sh_22 : shp[22]? = some (0, 100, [24]) := by decide +kernel
theorem sh_23 : shp[23]? = some (0, 100, [24]) := by decide +kernel
theorem sh_24 : shp[24]? = some (0, 100, [24]) := by decide +kernel
theorem sh_25 : shp[25]? = some (2, 9, [28, 29, 0]) := by decide +kernel
theorem sh_26 : shp[26]? = some (0, 100, [12]) := by decide +kernel
theorem sh_27 : shp[27]? = some (0, 100, [12]) := by decide +kernel
theorem sh_28 : shp[28]? = some (2, 7, [31, 33, 0, 0]) := by decide +kernel
theorem sh_29 : shp[29]? = some (2, 4, [32, 0]) := by decide +kernel
theorem sh_30 : shp[30]? = some (0, 100, [5]) := by decide +kernel
theorem sh_31 : shp[31]? = some (2, 1, [34, 35, 36, 0, 0]) := by decide +kernel
theorem sh_32 : shp[32]? = some (0, 100, [10]) := by decide +kernel
theorem sh_33 : shp[33]? = some (0, 100, [10]) := by decide +kernel
theorem sh_34 : shp[34]? = some (0, 100, [10]) := by decide +kernel
theorem sh_35 : shp[35]? = some (2, 0, [38, 57, 0]) := by decide +kernel
theorem sh_36 : shp[36]? = some (2, 6, [39, 41, 45, 51, 0]) := by decide +kernel
theorem sh_37 : shp[37]? = some (2, 4, [40, 0]) := by decide +kernel
theorem sh_38 : shp[38]? = some (0, 100, [5]) := by decide +kernel
theorem sh_39 : shp[39]? = some (2, 1, [42, 43, 44, 0, 0]) := by decide +kernel
theorem sh_40 : shp[40]? = some (0, 100, [10]) := by decide +kernel
theorem sh_41 : shp[41]? = some (0, 100, [10]) := by decide +kernel
theorem sh_42 : shp[42]? = some (0, 100, [10]) := by decide +kernel
theorem sh_43 : shp[43]? = some (2, 2, [46, 47, 48, 49, 50, 0, 0, 0, 0, 0]) := by decide +kernel
theorem sh_44 : shp[44]? = some (0, 100, [24]) := by decide +kernel
theorem sh_45 : shp[45]? = some (0, 100, [24]) := by decide +kernel
theorem sh_46 : shp[46]? = some (0, 100, [24]) := by decide +kernel
theorem sh_47 : shp[47]? = some (0, 100, [24]) := by decide +kernel
theorem sh_48 : shp[48]? = some (0, 100, [24]) := by decide +kernel
theorem sh_49 : shp[49]? = some (2, 3, [52, 53, 54, 55, 56]) := by decide +kernel
theorem sh_50 : shp[50]? = some (0, 100, [24]) := by decide +kernel
theorem sh_51 : shp[51]? = some (0, 100, [24]) := by decide +kernel
theorem sh_52 : shp[52]? = some (0, 100, [24]) := by decide +kernel
theorem sh_53 : shp[53]? = some (0, 100, [24]) := by decide +kernel
theorem sh_54 : shp[54]? = some (0, 100, [24]) := by decide +kernel
theorem sh_55 : shp[55]? = some (1, 2, [56, 62, 68, 74, 80, 86, 92, 98, 104, 110, 116]) := by decide +kernel
theorem sh_56 : shp[56]? = some (2, 2, [59, 60, 61, 62, 63, 0, 0, 0, 0, 0]) := by decide +kernel
theorem sh_57 : shp[57]? = some (0, 100, [24]) := by decide +kernel
theorem sh_58 : shp[58]? = some (0, 100, [24]) := by decide +kernel
theorem sh_59 : shp[59]? = some (0, 100, [24]) := by decide +kernel
theorem sh_60 : shp[60]? = some (0, 100, [24]) := by decide +kernel
theorem sh_61 : shp[61]? = some (0, 100, [24]) := by decide +kernel
theorem sh_62 : shp[62]? = some (2, 2, [65, 66, 67, 68, 69, 0, 0, 0, 0, 0]) := by decide +kernel
theorem sh_63 : shp[63]? = some (0, 100, [24]) := by decide +kernel
theorem sh_64 : shp[64]? = some (0, 100, [24]) := by decide +kernel
theorem sh_65 : shp[65]? = some (0, 100, [24]) := by decide +kernel
theorem sh_66 : shp[66]? = some (0, 100, [24]) := by decide +kernel
theorem sh_67 : shp[67]? = some (0, 100, [24]) := by decide +kernel
theorem sh_68 : shp[68]? = some (2, 2, [71, 72, 73, 74, 75, 0, 0, 0, 0, 0]) := by decide +kernel
theorem sh_69 : shp[69]? = some (0, 100, [24]) := by decide +kernel
theorem sh_70 : shp[70]? = some (0, 100, [24]) := by decide +kernel
theorem sh_71 : shp[71]? = some (0, 100, [24]) := by decide +kernel
theorem sh_72 : shp[72]? = some (0, 100, [24]) := by decide +kernel
theorem sh_73 : shp[73]? = some (0, 100, [24]) := by decide +kernel
theorem sh_74 : shp[74]? = some (2, 2, [77, 78, 79, 80, 81, 0, 0, 0, 0, 0]) := by decide +kernel
theorem sh_75 : shp[75]? = some (0, 100, [24]) := by decide +kernel
theorem sh_76 : shp[76]? = some (0, 100, [24]) := by decide +kernel
theorem sh_77 : shp[77]? = some (0, 100, [24]) := by decide +kernel
theorem sh_78 : shp[78]? = some (0, 100, [24]) := by decide +kernel
theorem sh_79 : shp[79]? = some (0, 100, [24]) := by decide +kernel
theorem sh_80 : shp[80]? = some (2, 2, [83, 84, 85, 86, 87, 0, 0, 0, 0, 0]) := by decide +kernel
theorem sh_81 : shp[81]? = some (0, 100, [24]) := by decide +kernel
theorem sh_82 : shp[82]? = some (0, 100, [24]) := by decide +kernel
theorem sh_83 : shp[83]? = some (0, 100, [24]) := by decide +kernel
theorem sh_84 : shp[84]? = some (0, 100, [24]) := by decide +kernel
theorem sh_85 : shp[85]? = some (0, 100, [24]) := by decide +kernel
theorem sh_86 : shp[86]? = some (2, 2, [89, 90, 91, 92, 93, 0, 0, 0, 0, 0]) := by decide +kernel
theorem sh_87 : shp[87]? = some (0, 100, [24]) := by decide +kernel
theorem sh_88 : shp[88]? = some (0, 100, [24]) := by decide +kernel
theorem sh_89 : shp[89]? = some (0, 100, [24]) := by decide +kernel
theorem sh_90 : shp[90]? = some (0, 100, [24]) := by decide +kernel
theorem sh_91 : shp[91]? = some (0, 100, [24]) := by decide +kernel
theorem sh_92 : shp[92]? = some (2, 2, [95, 96, 97, 98, 99, 0, 0, 0, 0, 0]) := by decide +kernel
theorem sh_93 : shp[93]? = some (0, 100, [24]) := by decide +kernel
theorem sh_94 : shp[94]? = some (0, 100, [24]) := by decide +kernel
theorem sh_95 : shp[95]? = some (0, 100, [24]) := by decide +kernel
theorem sh_96 : shp[96]? = some (0, 100, [24]) := by decide +kernel
theorem sh_97 : shp[97]? = some (0, 100, [24]) := by decide +kernel
theorem sh_98 : shp[98]? = some (2, 2, [101, 102, 103, 104, 105, 0, 0, 0, 0, 0]) := by decide +kernel
theorem sh_99 : shp[99]? = some (0, 100, [24]) := by decide +kernel
theorem sh_100 : shp[100]? = some (0, 100, [24]) := by decide +kernel
theorem sh_101 : shp[101]? = some (0, 100, [24]) := by decide +kernel
theorem sh_102 : shp[102]? = some (0, 100, [24]) := by decide +kernel
theorem sh_103 : shp[103]? = some (0, 100, [24]) := by decide +kernel
theorem sh_104 : shp[104]? = some (2, 2, [107, 108, 109, 110, 111, 0, 0, 0, 0, 0]) := by decide +kernel
theorem sh_105 : shp[105]? = some (0, 100, [24]) := by decide +kernel
theorem sh_106 : shp[106]? = some (0, 100, [24]) := by decide +kernel
theorem sh_107 : shp[107]? = some (0, 100, [24]) := by decide +kernel
theorem sh_108 : shp[108]? = some (0, 100, [24]) := by decide +kernel
theorem sh_109 : shp[109]? = some (0, 100, [24]) := by decide +kernel
theorem sh_110 : shp[110]? = some (2, 2, [113, 114, 115, 116, 117, 0, 0, 0, 0, 0]) := by decide +kernel
theorem sh_111 : shp[111]? = some (0, 100, [24]) := by decide +kernel
theorem sh_112 : shp[112]? = some (0, 100, [24]) := by decide +kernel
theorem sh_113 : shp[113]? = some (0, 100, [24]) := by decide +kernel
theorem sh_114 : shp[114]? = some (0, 100, [24]) := by decide +kernel
theorem sh_115 : shp[115]? = some (0, 100, [24]) := by decide +kernel
theorem sh_116 : shp[116]? = some (2, 2, [119, 120, 121, 122, 123, 0, 0, 0, 0, 0]) := by decide +kernel
theorem sh_117 : shp[117]? = some (0, 100, [24]) := by decide +kernel
theorem sh_118 : shp[118]? = some (0, 100, [24]) := by decide +kernel
theorem sh_119 : shp[119]? = some (0, 100, [24]) := by decide +kernel
theorem sh_120 : shp[120]? = some (0, 100, [24]) := by decide +kernel
theorem sh_121 : shp[121]? = some (0, 100, [24]) := by decide +kernel
theorem sh_122 : shp[122]? = some (2, 5, [125, 126, 0, 0, 0]) := by decide +kernel
theorem sh_123 : shp[123]? = some (0, 102, [24]) := by decide +kernel
theorem sh_124 : shp[124]? = some (0, 100, [24]) := by decide +kernel
theorem sh_125 : shp[125]? = some (2, 4, [128, 0]) := by decide +kernel
theorem sh_126 : shp[126]? = some (0, 100, [5]) := by decide +kernel
theorem sh_127 : shp[127]? = some (2, 1, [130, 131, 132, 0, 0]) := by decide +kernel
theorem sh_128 : shp[128]? = some (0, 100, [10]) := by decide +kernel
theorem sh_129 : shp[129]? = some (0, 100, [10]) := by decide +kernel
theorem sh_130 : shp[130]? = some (0, 100, [10]) := by decide +kernel
theorem sh_131 : shp[131]? = some (2, 1, [134, 135, 136, 0, 0]) := by decide +kernel
theorem sh_132 : shp[132]? = some (0, 100, [10]) := by decide +kernel
theorem sh_133 : shp[133]? = some (0, 100, [10]) := by decide +kernel
theorem sh_134 : shp[134]? = some (0, 100, [10]) := by decide +kernel
theorem sh_135 : shp[135]? = some (0, 100, [81]) := by decide +kernel
theorem sh_136 : shp[136]? = some (0, 100, [4]) := by decide +kernel
theorem sh_137 : shp[137]? = some (0, 100, [6]) := by decide +kernel
theorem sh_138 : shp[138]? = some (2, 8, [141, 0]) := by decide +kernel
theorem sh_139 : shp[139]? = some (0, 100, [40]) := by decide +kernel
theorem sh_140 : shp[140]? = some (2, 8, [143, 0]) := by decide +kernel
theorem sh_141 : shp[141]? = some (0, 100, [40]) := by decide +kernel
theorem sh_142 : shp[142]? = some (2, 8, [145, 0]) := by decide +kernel
theorem sh_143 : shp[143]? = some (0, 100, [40]) := by decide +kernel
theorem sh_144 : shp[144]? = some (2, 8, [147, 0]) := by decide +kernel
theorem sh_145 : shp[145]? = some (0, 100, [40]) := by decide +kernel
theorem sh_146 : shp[146]? = some (2, 8, [149, 0]) := by decide +kernel
theorem sh_147 : shp[147]? = some (0, 100, [40]) := by decide +kernel
theorem sh_148 : shp[148]? = some (2, 8, [151, 0]) := by decide +kernel
theorem sh_149 : shp[149]? = some (0, 100, [40]) := by decide +kernel
theorem sh_150 : shp[150]? = some (2, 10, [153, 0]) := by decide +kernel
theorem sh_151 : shp[151]? = some (0, 101, [80]) := by decide +kernel
theorem sh_152 : shp[152]? = some (2, 10, [155, 0]) := by decide +kernel
theorem sh_153 : shp[153]? = some (0, 101, [80]) := by decide +kernel
theorem sh_154 : shp[154]? = some (2, 10, [157, 0]) := by decide +kernel
theorem sh_155 : shp[155]? = some (0, 101, [80]) := by decide +kernel
theorem sh_156 : shp[156]? = some (2, 10, [159, 0]) := by decide +kernel
theorem sh_157 : shp[157]? = some (0, 101, [80]) := by decide +kernel
theorem sh_158 : shp[158]? = some (2, 4, [161, 0]) := by decide +kernel
theorem sh_159 : shp[159]? = some (0, 100, [5]) := by decide +kernel
theorem sh_160 : shp[160]? = some (2, 4, [163, 0]) := by decide +kernel
theorem sh_161 : shp[161]? = some (0, 100, [5]) := by decide +kernel
theorem sh_162 : shp[162]? = some (2, 4, [165, 0]) := by decide +kernel
theorem sh_163 : shp[163]? = some (0, 100, [5]) := by decide +kernel
theorem sh_164 : shp[164]? = some (2, 4, [167, 0]) := by decide +kernel
theorem sh_165 : shp[165]? = some (0, 100, [5]) := by decide +kernel
theorem sh_166 : shp[166]? = some (2, 1, [169, 170, 171, 0, 0]) := by decide +kernel
theorem sh_167 : shp[167]? = some (0, 100, [10]) := by decide +kernel
theorem sh_168 : shp[168]? = some (0, 100, [10]) := by decide +kernel
theorem sh_169 : shp[169]? = some (0, 100, [10]) := by decide +kernel
theorem sh_170 : shp[170]? = some (2, 1, [173, 174, 175, 0, 0]) := by decide +kernel
theorem sh_171 : shp[171]? = some (0, 100, [10]) := by decide +kernel
theorem sh_172 : shp[172]? = some (0, 100, [10]) := by decide +kernel
theorem sh_173 : shp[173]? = some (0, 100, [10]) := by decide +kernel
theorem sh_174 : shp[174]? = some (2, 1, [177, 178, 179, 0, 0]) := by decide +kernel
theorem sh_175 : shp[175]? = some (0, 100, [10]) := by decide +kernel
theorem sh_176 : shp[176]? = some (0, 100, [10]) := by decide +kernel
theorem sh_177 : shp[177]? = some (0, 100, [10]) := by decide +kernel
theorem sh_178 : shp[178]? = some (2, 1, [181, 182, 183, 0, 0]) := by decide +kernel
theorem sh_179 : shp[179]? = some (0, 100, [10]) := by decide +kernel
theorem sh_180 : shp[180]? = some (0, 100, [10]) := by decide +kernel
theorem sh_181 : shp[181]? = some (0, 100, [10]) := by decide +kernel
theorem sh_182 : shp[182]? = some (2, 6, [185, 187, 191, 197, 0]) := by decide +kernel
theorem sh_183 : shp[183]? = some (2, 4, [186, 0]) := by decide +kernel
theorem sh_184 : shp[184]? = some (0, 100, [5]) := by decide +kernel
theorem sh_185 : shp[185]? = some (2, 1, [188, 189, 190, 0, 0]) := by decide +kernel
theorem sh_186 : shp[186]? = some (0, 100, [10]) := by decide +kernel
theorem sh_187 : shp[187]? = some (0, 100, [10]) := by decide +kernel
theorem sh_188 : shp[188]? = some (0, 100, [10]) := by decide +kernel
theorem sh_189 : shp[189]? = some (2, 2, [192, 193, 194, 195, 196, 0, 0, 0, 0, 0]) := by decide +kernel
theorem sh_190 : shp[190]? = some (0, 100, [24]) := by decide +kernel
theorem sh_191 : shp[191]? = some (0, 100, [24]) := by decide +kernel
theorem sh_192 : shp[192]? = some (0, 100, [24]) := by decide +kernel
theorem sh_193 : shp[193]? = some (0, 100, [24]) := by decide +kernel
theorem sh_194 : shp[194]? = some (0, 100, [24]) := by decide +kernel
theorem sh_195 : shp[195]? = some (2, 3, [198, 199, 200, 201, 202]) := by decide +kernel
theorem sh_196 : shp[196]? = some (0, 100, [24]) := by decide +kernel
theorem sh_197 : shp[197]? = some (0, 100, [24]) := by decide +kernel
theorem sh_198 : shp[198]? = some (0, 100, [24]) := by decide +kernel
theorem sh_199 : shp[199]? = some (0, 100, [24]) := by decide +kernel
theorem sh_200 : shp[200]? = some (0, 100, [24]) := by decide +kernel
theorem sh_201 : shp[201]? = some (2, 6, [204, 206, 210, 216, 0]) := by decide +kernel
theorem sh_202 : shp[202]? = some (2, 4, [205, 0]) := by decide +kernel
theorem sh_203 : shp[203]? = some (0, 100, [5]) := by decide +kernel
theorem sh_204 : shp[204]? = some (2, 1, [207, 208, 209, 0, 0]) := by decide +kernel
theorem sh_205 : shp[205]? = some (0, 100, [10]) := by decide +kernel
theorem sh_206 : shp[206]? = some (0, 100, [10]) := by decide +kernel
theorem sh_207 : shp[207]? = some (0, 100, [10]) := by decide +kernel
theorem sh_208 : shp[208]? = some (2, 2, [211, 212, 213, 214, 215, 0, 0, 0, 0, 0]) := by decide +kernel
theorem sh_209 : shp[209]? = some (0, 100, [24]) := by decide +kernel
theorem sh_210 : shp[210]? = some (0, 100, [24]) := by decide +kernel
theorem sh_211 : shp[211]? = some (0, 100, [24]) := by decide +kernel
theorem sh_212 : shp[212]? = some (0, 100, [24]) := by decide +kernel
theorem sh_213 : shp[213]? = some (0, 100, [24]) := by decide +kernel
theorem sh_214 : shp[214]? = some (2, 3, [217, 218, 219, 220, 221]) := by decide +kernel
theorem sh_215 : shp[215]? = some (0, 100, [24]) := by decide +kernel
theorem sh_216 : shp[216]? = some (0, 100, [24]) := by decide +kernel
theorem sh_217 : shp[217]? = some (0, 100, [24]) := by decide +kernel
theorem sh_218 : shp[218]? = some (0, 100, [24]) := by decide +kernel
theorem sh_219 : shp[219]? = some (0, 100, [24]) := by decide +kernel
theorem sh_220 : shp[220]? = some (2, 6, [223, 225, 229, 235, 0]) := by decide +kernel
theorem sh_221 : shp[221]? = some (2, 4, [224, 0]) := by decide +kernel
theorem sh_222 : shp[222]? = some (0, 100, [5]) := by decide +kernel
theorem sh_223 : shp[223]? = some (2, 1, [226, 227, 228, 0, 0]) := by decide +kernel
theorem sh_224 : shp[224]? = some (0, 100, [10]) := by decide +kernel
theorem sh_225 : shp[225]? = some (0, 100, [10]) := by decide +kernel
theorem sh_226 : shp[226]? = some (0, 100, [10]) := by decide +kernel
theorem sh_227 : shp[227]? = some (2, 2, [230, 231, 232, 233, 234, 0, 0, 0, 0, 0]) := by decide +kernel
theorem sh_228 : shp[228]? = some (0, 100, [24]) := by decide +kernel
theorem sh_229 : shp[229]? = some (0, 100, [24]) := by decide +kernel
theorem sh_230 : shp[230]? = some (0, 100, [24]) := by decide +kernel
theorem sh_231 : shp[231]? = some (0, 100, [24]) := by decide +kernel
theorem sh_232 : shp[232]? = some (0, 100, [24]) := by decide +kernel
theorem sh_233 : shp[233]? = some (2, 3, [236, 237, 238, 239, 240]) := by decide +kernel
theorem sh_234 : shp[234]? = some (0, 100, [24]) := by decide +kernel
theorem sh_235 : shp[235]? = some (0, 100, [24]) := by decide +kernel
theorem sh_236 : shp[236]? = some (0, 100, [24]) := by decide +kernel
theorem sh_237 : shp[237]? = some (0, 100, [24]) := by decide +kernel
theorem sh_238 : shp[238]? = some (0, 100, [24]) := by decide +kernel
theorem sh_239 : shp[239]? = some (2, 12, [0, 242, 0, 1, 1, 243, 244, 245, 246, 247, 248, 249, 250, 251, 252, 0, 0, 0, 0, 253, 254, 255, 256, 0, 257, 258, 259, 260, 0, 261, 262, 263, 1]) := by decide +kernel
theorem sh_240 : shp[240]? = some (0, 100, [6]) := by decide +kernel
theorem sh_241 : shp[241]? = some (0, 100, [6]) := by decide +kernel
theorem sh_242 : shp[242]? = some (0, 100, [240]) := by decide +kernel
theorem sh_243 : shp[243]? = some (0, 100, [40]) := by decide +kernel
theorem sh_244 : shp[244]? = some (0, 100, [4]) := by decide +kernel
theorem sh_245 : shp[245]? = some (0, 101, [320]) := by decide +kernel
theorem sh_246 : shp[246]? = some (0, 102, [4]) := by decide +kernel
theorem sh_247 : shp[247]? = some (0, 100, [20]) := by decide +kernel
theorem sh_248 : shp[248]? = some (0, 102, [4]) := by decide +kernel
theorem sh_249 : shp[249]? = some (0, 100, [4]) := by decide +kernel
theorem sh_250 : shp[250]? = some (0, 100, [120]) := by decide +kernel
theorem sh_251 : shp[251]? = some (0, 100, [5]) := by decide +kernel
theorem sh_252 : shp[252]? = some (0, 100, [30]) := by decide +kernel
theorem sh_253 : shp[253]? = some (0, 102, [4]) := by decide +kernel
theorem sh_254 : shp[254]? = some (0, 100, [1645]) := by decide +kernel
theorem sh_255 : shp[255]? = some (0, 100, [24]) := by decide +kernel
theorem sh_256 : shp[256]? = some (0, 100, [24]) := by decide +kernel
theorem sh_257 : shp[257]? = some (0, 100, [16]) := by decide +kernel
theorem sh_258 : shp[258]? = some (0, 100, [31]) := by decide +kernel
theorem sh_259 : shp[259]? = some (0, 100, [24]) := by decide +kernel
theorem sh_260 : shp[260]? = some (0, 100, [81]) := by decide +kernel
theorem sh_261 : shp[261]? = some (0, 100, [4]) := by decide +kernel
def isFl (f : Nat) : Prop := shp[f]? = some (2, 4, [f + 3, 0]) ∧ shp[f + 1]? = some (0, 100, [5])
def isDg (g : Nat) : Prop := shp[g]? = some (2, 1, [g + 3, g + 4, g + 5, 0, 0]) ∧ shp[g + 1]? = some (0, 100, [10]) ∧ shp[g + 2]? = some (0, 100, [10]) ∧ shp[g + 3]? = some (0, 100, [10])
def isDh (d : Nat) : Prop := shp[d]? = some (2, 2, [d + 3, d + 4, d + 5, d + 6, d + 7, 0, 0, 0, 0, 0]) ∧ shp[d + 1]? = some (0, 100, [24]) ∧ shp[d + 2]? = some (0, 100, [24]) ∧ shp[d + 3]? = some (0, 100, [24]) ∧ shp[d + 4]? = some (0, 100, [24]) ∧ shp[d + 5]? = some (0, 100, [24])
def isFs (d : Nat) : Prop := shp[d]? = some (2, 3, [d + 3, d + 4, d + 5, d + 6, d + 7]) ∧ shp[d + 1]? = some (0, 100, [24]) ∧ shp[d + 2]? = some (0, 100, [24]) ∧ shp[d + 3]? = some (0, 100, [24]) ∧ shp[d + 4]? = some (0, 100, [24]) ∧ shp[d + 5]? = some (0, 100, [24])
def isLf (L : Nat) : Prop := shp[L]? = some (2, 6, [L + 3, L + 5, L + 9, L + 15, 0]) ∧ isFl (L + 1) ∧ isDg (L + 3) ∧ isDh (L + 7) ∧ isFs (L + 13)
def isRw (r : Nat) : Prop := shp[r]? = some (2, 8, [r + 3, 0]) ∧ shp[r + 1]? = some (0, 100, [40])
def isTx (r : Nat) : Prop := shp[r]? = some (2, 10, [r + 3, 0]) ∧ shp[r + 1]? = some (0, 101, [80])
theorem cnt {P : Nat → Prop} (e : Nat) (hx : P e) (hs : ∀ i, i < e → P (i + 1) → P i) : ∀ i, i ≤ e → P i := by
  have key : ∀ k i, i + k = e → P i := by
    intro k
    induction k with
    | zero => intro i h; rw [show i = e by omega]; exact hx
    | succ k ih => intro i h; exact hs i (by omega) (ih (i + 1) (by omega))
  exact fun i h => key (e - i) i (by omega)
/-- downward -/
theorem cntD {P : Nat → Prop} (hx : P 0) (hs : ∀ i, P i → P (i + 1)) : ∀ i, P i := fun i => by
  induction i with
  | zero => exact hx
  | succ i ih => exact hs i ih
section YN
variable {sc : aS} {d : Nat} {own : String} {cc : ByteArray} {nL : Nat} {ret : Option FieldType} {Q : sQ} {pc : Nat} {ls : aL} {st : List Value} {m : sM} {n : sN}
theorem y_ialdN {a N j : Nat} {i : Int32} (hd : decode cc pc = .ok (.iaload, 1)) (hs : shp[a]? = some (0, 100, [N])) (hj : i = nI j) (hlt : j < N) (hN : N < 2 ^ 31) (k0 : sV sc d own cc nL ret Q (pc + 1) ls (.int (m a j) :: st) m n) : sV sc d own cc nL ret Q pc ls (.int i :: .ref a :: st) m n := by
  subst hj
  refine y_iald hd hs (vp_in_nI hlt hN) ?_
  rw [nI_clamp (by omega)]
  exact k0
theorem y_baldN {a N j : Nat} {i : Int32} (hd : decode cc pc = .ok (.baload, 1)) (hs : shp[a]? = some (0, 101, [N])) (hj : i = nI j) (hlt : j < N) (hN : N < 2 ^ 31) (k0 : sV sc d own cc nL ret Q (pc + 1) ls (.int (m a j) :: st) m n) : sV sc d own cc nL ret Q pc ls (.int i :: .ref a :: st) m n := by
  subst hj
  refine y_bald hd hs (vp_in_nI hlt hN) ?_
  rw [nI_clamp (by omega)]
  exact k0
theorem y_zaldN {a N j : Nat} {i : Int32} (hd : decode cc pc = .ok (.baload, 1)) (hs : shp[a]? = some (0, 102, [N])) (hj : i = nI j) (hlt : j < N) (hN : N < 2 ^ 31) (k0 : sV sc d own cc nL ret Q (pc + 1) ls (.int (m a j) :: st) m n) : sV sc d own cc nL ret Q pc ls (.int i :: .ref a :: st) m n := by
  subst hj
  refine y_zald hd hs (vp_in_nI hlt hN) ?_
  rw [nI_clamp (by omega)]
  exact k0
theorem y_iastN {a N j : Nat} {i x : Int32} (hd : decode cc pc = .ok (.iastore, 1)) (hs : shp[a]? = some (0, 100, [N])) (hj : i = nI j) (hlt : j < N) (hN : N < 2 ^ 31) (k0 : sV sc d own cc nL ret Q (pc + 1) ls st (s_up m a (upd (m a) j x)) n) : sV sc d own cc nL ret Q pc ls (.int x :: .int i :: .ref a :: st) m n := by
  subst hj
  refine y_iast hd hs (vp_in_nI hlt hN) ?_
  rw [nI_clamp (by omega)]
  exact k0
theorem y_bastN {a N j : Nat} {i x : Int32} (hd : decode cc pc = .ok (.bastore, 1)) (hs : shp[a]? = some (0, 101, [N])) (hj : i = nI j) (hlt : j < N) (hN : N < 2 ^ 31) (hn : narrow .byte (.int x) = .int x) (k0 : sV sc d own cc nL ret Q (pc + 1) ls st (s_up m a (upd (m a) j x)) n) : sV sc d own cc nL ret Q pc ls (.int x :: .int i :: .ref a :: st) m n := by
  subst hj
  refine y_bast hd hs (vp_in_nI hlt hN) hn ?_
  rw [nI_clamp (by omega)]
  exact k0
theorem y_zastN {a N j : Nat} {i x : Int32} (hd : decode cc pc = .ok (.bastore, 1)) (hs : shp[a]? = some (0, 102, [N])) (hj : i = nI j) (hlt : j < N) (hN : N < 2 ^ 31) (hn : narrow .boolean (.int x) = .int x) (k0 : sV sc d own cc nL ret Q (pc + 1) ls st (s_up m a (upd (m a) j x)) n) : sV sc d own cc nL ret Q pc ls (.int x :: .int i :: .ref a :: st) m n := by
  subst hj
  refine y_zast hd hs (vp_in_nI hlt hN) hn ?_
  rw [nI_clamp (by omega)]
  exact k0
theorem y_saldN {k N j : Nat} {f : Nat → Int32} {i : Int32} (hd : decode cc pc = .ok (.iaload, 1)) (hm : sc[k]? = some (N, f)) (hj : i = nI j) (hlt : j < N) (hN : N < 2 ^ 31) (k0 : sV sc d own cc nL ret Q (pc + 1) ls (.int (f j) :: st) m n) : sV sc d own cc nL ret Q pc ls (.int i :: .ref (100000 + k) :: st) m n := by
  subst hj
  refine y_sald hd hm (vp_in_nI hlt hN) ?_
  rw [nI_clamp (by omega)]
  exact k0
theorem y_aaldN {a c b j : Nat} {ts : List Nat} {i : Int32} (hd : decode cc pc = .ok (.aaload, 1)) (hc : (vwCl[c]?.map (·.1)).any (a_ao.contains ·) = true) (hs : shp[a]? = some (1, c, ts)) (hj : i = nI j) (hb : ts[j]? = some b) (hN : ts.length < 2 ^ 31) (k0 : sV sc d own cc nL ret Q (pc + 1) ls (.ref b :: st) m n) : sV sc d own cc nL ret Q pc ls (.int i :: .ref a :: st) m n := by
  subst hj
  have hlt := (List.getElem?_eq_some_iff.mp hb).1
  exact y_aald hd hc hs (vp_in_nI hlt hN) (by rw [nI_clamp (by omega)]; exact hb) k0
theorem y_copyN {idx a0 a N0 N1 s t u : Nat} {sp dp k : Int32} (hd : decode cc pc = .ok (.invokestatic idx, 3)) (hg : a_CP own idx) (h0 : shp[a0]? = some (0, 100, [N0])) (h1 : shp[a]? = some (0, 100, [N1])) (hs : sp = nI s) (ht : dp = nI t) (hu : k = nI u) (l0 : s + u ≤ N0) (l1 : t + u ≤ N1) (hN : N0 < 2 ^ 31 ∧ N1 < 2 ^ 31) (k0 : sV sc d own cc nL ret Q (pc + 3) ls [] (s_up m a (va_cpy (m a0) (m a) s t u)) n) : sV sc d own cc nL ret Q pc ls [.int k, .int dp, .ref a, .int sp, .ref a0] m n := by
  subst hs ht hu
  obtain ⟨hN0, hN1⟩ := hN
  have e1 : (nI s).toNatClampNeg = s := nI_clamp (by omega)
  have e2 : (nI t).toNatClampNeg = t := nI_clamp (by omega)
  have e3 : (nI u).toNatClampNeg = u := nI_clamp (by omega)
  refine y_copy hd hg h0 h1 (nI_pos (by omega)) (nI_pos (by omega)) (nI_pos (by omega)) (by rw [e1, e3]; exact l0) (by rw [e2, e3]; exact l1) ?_
  rw [e1, e2, e3]
  exact k0
theorem y_ivV0 {idx c a : Nat} {ss : List Nat} {y : MethodName} {c2 : ByteArray} {nL2 : Nat} {ret2 : Option FieldType} {rest : List Value} (hd : decode cc pc = .ok (.invokevirtual idx, 3)) (hv : a_MV own idx c y) (hy : a_MY y c2 nL2 ret2 0) (hs : Nat.ble (rest.map fun v => v.category).sum 8 = true ∨ (rest.map fun v => v.category).sum ≤ 8) (hM : shp[a]? = some (2, c, ss)) (k0 : sRun sc d y c2 nL2 ret2 (.ref a :: []) m n (fun r m' n' => r = none ∧ sV sc d own cc nL ret Q (pc + 3) ls rest m' n')) : sV sc d own cc nL ret Q pc ls (.ref a :: rest) m n := y_iv [] rest hd hv hy rfl rfl (hs.elim Nat.le_of_ble_eq_true id) hM (sRun_mono (fun r m' n' q => by obtain ⟨rfl, q⟩ := q; exact q) k0)
theorem y_isV0 {idx : Nat} {y : MethodName} {c2 : ByteArray} {nL2 : Nat} {ret2 : Option FieldType} {rest : List Value} (hd : decode cc pc = .ok (.invokestatic idx, 3)) (hv : a_MS own idx y) (hy : a_MY y c2 nL2 ret2 0) (hs : Nat.ble (rest.map fun v => v.category).sum 8 = true ∨ (rest.map fun v => v.category).sum ≤ 8) (k0 : sRun sc d y c2 nL2 ret2 [] m n (fun r m' n' => r = none ∧ sV sc d own cc nL ret Q (pc + 3) ls rest m' n')) : sV sc d own cc nL ret Q pc ls (rest) m n := y_is [] rest hd hv hy rfl rfl (hs.elim Nat.le_of_ble_eq_true id) (sRun_mono (fun r m' n' q => by obtain ⟨rfl, q⟩ := q; exact q) k0)
theorem y_ivV1 {idx c a : Nat} {ss : List Nat} {y : MethodName} {c2 : ByteArray} {nL2 : Nat} {ret2 : Option FieldType} {v1 : Value} {rest : List Value} (hd : decode cc pc = .ok (.invokevirtual idx, 3)) (hv : a_MV own idx c y) (hy : a_MY y c2 nL2 ret2 1) (hs : Nat.ble (rest.map fun v => v.category).sum 8 = true ∨ (rest.map fun v => v.category).sum ≤ 8) (hM : shp[a]? = some (2, c, ss)) (k0 : sRun sc d y c2 nL2 ret2 (.ref a :: [v1]) m n (fun r m' n' => r = none ∧ sV sc d own cc nL ret Q (pc + 3) ls rest m' n')) : sV sc d own cc nL ret Q pc ls (v1 :: .ref a :: rest) m n := y_iv [v1] rest hd hv hy rfl rfl (hs.elim Nat.le_of_ble_eq_true id) hM (sRun_mono (fun r m' n' q => by obtain ⟨rfl, q⟩ := q; exact q) k0)
theorem y_isV1 {idx : Nat} {y : MethodName} {c2 : ByteArray} {nL2 : Nat} {ret2 : Option FieldType} {v1 : Value} {rest : List Value} (hd : decode cc pc = .ok (.invokestatic idx, 3)) (hv : a_MS own idx y) (hy : a_MY y c2 nL2 ret2 1) (hs : Nat.ble (rest.map fun v => v.category).sum 8 = true ∨ (rest.map fun v => v.category).sum ≤ 8) (k0 : sRun sc d y c2 nL2 ret2 [v1] m n (fun r m' n' => r = none ∧ sV sc d own cc nL ret Q (pc + 3) ls rest m' n')) : sV sc d own cc nL ret Q pc ls (v1 :: rest) m n := y_is [v1] rest hd hv hy rfl rfl (hs.elim Nat.le_of_ble_eq_true id) (sRun_mono (fun r m' n' q => by obtain ⟨rfl, q⟩ := q; exact q) k0)
theorem y_ivV2 {idx c a : Nat} {ss : List Nat} {y : MethodName} {c2 : ByteArray} {nL2 : Nat} {ret2 : Option FieldType} {v1 v2 : Value} {rest : List Value} (hd : decode cc pc = .ok (.invokevirtual idx, 3)) (hv : a_MV own idx c y) (hy : a_MY y c2 nL2 ret2 2) (hs : Nat.ble (rest.map fun v => v.category).sum 8 = true ∨ (rest.map fun v => v.category).sum ≤ 8) (hM : shp[a]? = some (2, c, ss)) (k0 : sRun sc d y c2 nL2 ret2 (.ref a :: [v1, v2]) m n (fun r m' n' => r = none ∧ sV sc d own cc nL ret Q (pc + 3) ls rest m' n')) : sV sc d own cc nL ret Q pc ls (v2 :: v1 :: .ref a :: rest) m n := y_iv [v1, v2] rest hd hv hy rfl rfl (hs.elim Nat.le_of_ble_eq_true id) hM (sRun_mono (fun r m' n' q => by obtain ⟨rfl, q⟩ := q; exact q) k0)
theorem y_isV2 {idx : Nat} {y : MethodName} {c2 : ByteArray} {nL2 : Nat} {ret2 : Option FieldType} {v1 v2 : Value} {rest : List Value} (hd : decode cc pc = .ok (.invokestatic idx, 3)) (hv : a_MS own idx y) (hy : a_MY y c2 nL2 ret2 2) (hs : Nat.ble (rest.map fun v => v.category).sum 8 = true ∨ (rest.map fun v => v.category).sum ≤ 8) (k0 : sRun sc d y c2 nL2 ret2 [v1, v2] m n (fun r m' n' => r = none ∧ sV sc d own cc nL ret Q (pc + 3) ls rest m' n')) : sV sc d own cc nL ret Q pc ls (v2 :: v1 :: rest) m n := y_is [v1, v2] rest hd hv hy rfl rfl (hs.elim Nat.le_of_ble_eq_true id) (sRun_mono (fun r m' n' q => by obtain ⟨rfl, q⟩ := q; exact q) k0)
theorem y_ivV3 {idx c a : Nat} {ss : List Nat} {y : MethodName} {c2 : ByteArray} {nL2 : Nat} {ret2 : Option FieldType} {v1 v2 v3 : Value} {rest : List Value} (hd : decode cc pc = .ok (.invokevirtual idx, 3)) (hv : a_MV own idx c y) (hy : a_MY y c2 nL2 ret2 3) (hs : Nat.ble (rest.map fun v => v.category).sum 8 = true ∨ (rest.map fun v => v.category).sum ≤ 8) (hM : shp[a]? = some (2, c, ss)) (k0 : sRun sc d y c2 nL2 ret2 (.ref a :: [v1, v2, v3]) m n (fun r m' n' => r = none ∧ sV sc d own cc nL ret Q (pc + 3) ls rest m' n')) : sV sc d own cc nL ret Q pc ls (v3 :: v2 :: v1 :: .ref a :: rest) m n := y_iv [v1, v2, v3] rest hd hv hy rfl rfl (hs.elim Nat.le_of_ble_eq_true id) hM (sRun_mono (fun r m' n' q => by obtain ⟨rfl, q⟩ := q; exact q) k0)
theorem y_isV3 {idx : Nat} {y : MethodName} {c2 : ByteArray} {nL2 : Nat} {ret2 : Option FieldType} {v1 v2 v3 : Value} {rest : List Value} (hd : decode cc pc = .ok (.invokestatic idx, 3)) (hv : a_MS own idx y) (hy : a_MY y c2 nL2 ret2 3) (hs : Nat.ble (rest.map fun v => v.category).sum 8 = true ∨ (rest.map fun v => v.category).sum ≤ 8) (k0 : sRun sc d y c2 nL2 ret2 [v1, v2, v3] m n (fun r m' n' => r = none ∧ sV sc d own cc nL ret Q (pc + 3) ls rest m' n')) : sV sc d own cc nL ret Q pc ls (v3 :: v2 :: v1 :: rest) m n := y_is [v1, v2, v3] rest hd hv hy rfl rfl (hs.elim Nat.le_of_ble_eq_true id) (sRun_mono (fun r m' n' q => by obtain ⟨rfl, q⟩ := q; exact q) k0)
theorem y_ivV4 {idx c a : Nat} {ss : List Nat} {y : MethodName} {c2 : ByteArray} {nL2 : Nat} {ret2 : Option FieldType} {v1 v2 v3 v4 : Value} {rest : List Value} (hd : decode cc pc = .ok (.invokevirtual idx, 3)) (hv : a_MV own idx c y) (hy : a_MY y c2 nL2 ret2 4) (hs : Nat.ble (rest.map fun v => v.category).sum 8 = true ∨ (rest.map fun v => v.category).sum ≤ 8) (hM : shp[a]? = some (2, c, ss)) (k0 : sRun sc d y c2 nL2 ret2 (.ref a :: [v1, v2, v3, v4]) m n (fun r m' n' => r = none ∧ sV sc d own cc nL ret Q (pc + 3) ls rest m' n')) : sV sc d own cc nL ret Q pc ls (v4 :: v3 :: v2 :: v1 :: .ref a :: rest) m n := y_iv [v1, v2, v3, v4] rest hd hv hy rfl rfl (hs.elim Nat.le_of_ble_eq_true id) hM (sRun_mono (fun r m' n' q => by obtain ⟨rfl, q⟩ := q; exact q) k0)
theorem y_isV4 {idx : Nat} {y : MethodName} {c2 : ByteArray} {nL2 : Nat} {ret2 : Option FieldType} {v1 v2 v3 v4 : Value} {rest : List Value} (hd : decode cc pc = .ok (.invokestatic idx, 3)) (hv : a_MS own idx y) (hy : a_MY y c2 nL2 ret2 4) (hs : Nat.ble (rest.map fun v => v.category).sum 8 = true ∨ (rest.map fun v => v.category).sum ≤ 8) (k0 : sRun sc d y c2 nL2 ret2 [v1, v2, v3, v4] m n (fun r m' n' => r = none ∧ sV sc d own cc nL ret Q (pc + 3) ls rest m' n')) : sV sc d own cc nL ret Q pc ls (v4 :: v3 :: v2 :: v1 :: rest) m n := y_is [v1, v2, v3, v4] rest hd hv hy rfl rfl (hs.elim Nat.le_of_ble_eq_true id) (sRun_mono (fun r m' n' q => by obtain ⟨rfl, q⟩ := q; exact q) k0)
theorem y_ivV5 {idx c a : Nat} {ss : List Nat} {y : MethodName} {c2 : ByteArray} {nL2 : Nat} {ret2 : Option FieldType} {v1 v2 v3 v4 v5 : Value} {rest : List Value} (hd : decode cc pc = .ok (.invokevirtual idx, 3)) (hv : a_MV own idx c y) (hy : a_MY y c2 nL2 ret2 5) (hs : Nat.ble (rest.map fun v => v.category).sum 8 = true ∨ (rest.map fun v => v.category).sum ≤ 8) (hM : shp[a]? = some (2, c, ss)) (k0 : sRun sc d y c2 nL2 ret2 (.ref a :: [v1, v2, v3, v4, v5]) m n (fun r m' n' => r = none ∧ sV sc d own cc nL ret Q (pc + 3) ls rest m' n')) : sV sc d own cc nL ret Q pc ls (v5 :: v4 :: v3 :: v2 :: v1 :: .ref a :: rest) m n := y_iv [v1, v2, v3, v4, v5] rest hd hv hy rfl rfl (hs.elim Nat.le_of_ble_eq_true id) hM (sRun_mono (fun r m' n' q => by obtain ⟨rfl, q⟩ := q; exact q) k0)
theorem y_isV5 {idx : Nat} {y : MethodName} {c2 : ByteArray} {nL2 : Nat} {ret2 : Option FieldType} {v1 v2 v3 v4 v5 : Value} {rest : List Value} (hd : decode cc pc = .ok (.invokestatic idx, 3)) (hv : a_MS own idx y) (hy : a_MY y c2 nL2 ret2 5) (hs : Nat.ble (rest.map fun v => v.category).sum 8 = true ∨ (rest.map fun v => v.category).sum ≤ 8) (k0 : sRun sc d y c2 nL2 ret2 [v1, v2, v3, v4, v5] m n (fun r m' n' => r = none ∧ sV sc d own cc nL ret Q (pc + 3) ls rest m' n')) : sV sc d own cc nL ret Q pc ls (v5 :: v4 :: v3 :: v2 :: v1 :: rest) m n := y_is [v1, v2, v3, v4, v5] rest hd hv hy rfl rfl (hs.elim Nat.le_of_ble_eq_true id) (sRun_mono (fun r m' n' q => by obtain ⟨rfl, q⟩ := q; exact q) k0)
theorem y_ivI0 {idx c a : Nat} {ss : List Nat} {y : MethodName} {c2 : ByteArray} {nL2 : Nat} {ret2 : Option FieldType} {rest : List Value} (hd : decode cc pc = .ok (.invokevirtual idx, 3)) (hv : a_MV own idx c y) (hy : a_MY y c2 nL2 ret2 0) (hs : Nat.ble (rest.map fun v => v.category).sum 8 = true ∨ (rest.map fun v => v.category).sum ≤ 8) (hM : shp[a]? = some (2, c, ss)) (k0 : sRun sc d y c2 nL2 ret2 (.ref a :: []) m n (fun r m' n' => ∃ v : Int32, r = some (.int v) ∧ sV sc d own cc nL ret Q (pc + 3) ls (.int v :: rest) m' n')) : sV sc d own cc nL ret Q pc ls (.ref a :: rest) m n := y_iv [] rest hd hv hy rfl rfl (hs.elim Nat.le_of_ble_eq_true id) hM (sRun_mono (fun r m' n' q => by obtain ⟨v, rfl, q⟩ := q; exact q) k0)
theorem y_isI0 {idx : Nat} {y : MethodName} {c2 : ByteArray} {nL2 : Nat} {ret2 : Option FieldType} {rest : List Value} (hd : decode cc pc = .ok (.invokestatic idx, 3)) (hv : a_MS own idx y) (hy : a_MY y c2 nL2 ret2 0) (hs : Nat.ble (rest.map fun v => v.category).sum 8 = true ∨ (rest.map fun v => v.category).sum ≤ 8) (k0 : sRun sc d y c2 nL2 ret2 [] m n (fun r m' n' => ∃ v : Int32, r = some (.int v) ∧ sV sc d own cc nL ret Q (pc + 3) ls (.int v :: rest) m' n')) : sV sc d own cc nL ret Q pc ls (rest) m n := y_is [] rest hd hv hy rfl rfl (hs.elim Nat.le_of_ble_eq_true id) (sRun_mono (fun r m' n' q => by obtain ⟨v, rfl, q⟩ := q; exact q) k0)
theorem y_ivI1 {idx c a : Nat} {ss : List Nat} {y : MethodName} {c2 : ByteArray} {nL2 : Nat} {ret2 : Option FieldType} {v1 : Value} {rest : List Value} (hd : decode cc pc = .ok (.invokevirtual idx, 3)) (hv : a_MV own idx c y) (hy : a_MY y c2 nL2 ret2 1) (hs : Nat.ble (rest.map fun v => v.category).sum 8 = true ∨ (rest.map fun v => v.category).sum ≤ 8) (hM : shp[a]? = some (2, c, ss)) (k0 : sRun sc d y c2 nL2 ret2 (.ref a :: [v1]) m n (fun r m' n' => ∃ v : Int32, r = some (.int v) ∧ sV sc d own cc nL ret Q (pc + 3) ls (.int v :: rest) m' n')) : sV sc d own cc nL ret Q pc ls (v1 :: .ref a :: rest) m n := y_iv [v1] rest hd hv hy rfl rfl (hs.elim Nat.le_of_ble_eq_true id) hM (sRun_mono (fun r m' n' q => by obtain ⟨v, rfl, q⟩ := q; exact q) k0)
theorem y_isI1 {idx : Nat} {y : MethodName} {c2 : ByteArray} {nL2 : Nat} {ret2 : Option FieldType} {v1 : Value} {rest : List Value} (hd : decode cc pc = .ok (.invokestatic idx, 3)) (hv : a_MS own idx y) (hy : a_MY y c2 nL2 ret2 1) (hs : Nat.ble (rest.map fun v => v.category).sum 8 = true ∨ (rest.map fun v => v.category).sum ≤ 8) (k0 : sRun sc d y c2 nL2 ret2 [v1] m n (fun r m' n' => ∃ v : Int32, r = some (.int v) ∧ sV sc d own cc nL ret Q (pc + 3) ls (.int v :: rest) m' n')) : sV sc d own cc nL ret Q pc ls (v1 :: rest) m n := y_is [v1] rest hd hv hy rfl rfl (hs.elim Nat.le_of_ble_eq_true id) (sRun_mono (fun r m' n' q => by obtain ⟨v, rfl, q⟩ := q; exact q) k0)
theorem y_ivI2 {idx c a : Nat} {ss : List Nat} {y : MethodName} {c2 : ByteArray} {nL2 : Nat} {ret2 : Option FieldType} {v1 v2 : Value} {rest : List Value} (hd : decode cc pc = .ok (.invokevirtual idx, 3)) (hv : a_MV own idx c y) (hy : a_MY y c2 nL2 ret2 2) (hs : Nat.ble (rest.map fun v => v.category).sum 8 = true ∨ (rest.map fun v => v.category).sum ≤ 8) (hM : shp[a]? = some (2, c, ss)) (k0 : sRun sc d y c2 nL2 ret2 (.ref a :: [v1, v2]) m n (fun r m' n' => ∃ v : Int32, r = some (.int v) ∧ sV sc d own cc nL ret Q (pc + 3) ls (.int v :: rest) m' n')) : sV sc d own cc nL ret Q pc ls (v2 :: v1 :: .ref a :: rest) m n := y_iv [v1, v2] rest hd hv hy rfl rfl (hs.elim Nat.le_of_ble_eq_true id) hM (sRun_mono (fun r m' n' q => by obtain ⟨v, rfl, q⟩ := q; exact q) k0)
theorem y_isI2 {idx : Nat} {y : MethodName} {c2 : ByteArray} {nL2 : Nat} {ret2 : Option FieldType} {v1 v2 : Value} {rest : List Value} (hd : decode cc pc = .ok (.invokestatic idx, 3)) (hv : a_MS own idx y) (hy : a_MY y c2 nL2 ret2 2) (hs : Nat.ble (rest.map fun v => v.category).sum 8 = true ∨ (rest.map fun v => v.category).sum ≤ 8) (k0 : sRun sc d y c2 nL2 ret2 [v1, v2] m n (fun r m' n' => ∃ v : Int32, r = some (.int v) ∧ sV sc d own cc nL ret Q (pc + 3) ls (.int v :: rest) m' n')) : sV sc d own cc nL ret Q pc ls (v2 :: v1 :: rest) m n := y_is [v1, v2] rest hd hv hy rfl rfl (hs.elim Nat.le_of_ble_eq_true id) (sRun_mono (fun r m' n' q => by obtain ⟨v, rfl, q⟩ := q; exact q) k0)
theorem y_ivI3 {idx c a : Nat} {ss : List Nat} {y : MethodName} {c2 : ByteArray} {nL2 : Nat} {ret2 : Option FieldType} {v1 v2 v3 : Value} {rest : List Value} (hd : decode cc pc = .ok (.invokevirtual idx, 3)) (hv : a_MV own idx c y) (hy : a_MY y c2 nL2 ret2 3) (hs : Nat.ble (rest.map fun v => v.category).sum 8 = true ∨ (rest.map fun v => v.category).sum ≤ 8) (hM : shp[a]? = some (2, c, ss)) (k0 : sRun sc d y c2 nL2 ret2 (.ref a :: [v1, v2, v3]) m n (fun r m' n' => ∃ v : Int32, r = some (.int v) ∧ sV sc d own cc nL ret Q (pc + 3) ls (.int v :: rest) m' n')) : sV sc d own cc nL ret Q pc ls (v3 :: v2 :: v1 :: .ref a :: rest) m n := y_iv [v1, v2, v3] rest hd hv hy rfl rfl (hs.elim Nat.le_of_ble_eq_true id) hM (sRun_mono (fun r m' n' q => by obtain ⟨v, rfl, q⟩ := q; exact q) k0)
theorem y_isI3 {idx : Nat} {y : MethodName} {c2 : ByteArray} {nL2 : Nat} {ret2 : Option FieldType} {v1 v2 v3 : Value} {rest : List Value} (hd : decode cc pc = .ok (.invokestatic idx, 3)) (hv : a_MS own idx y) (hy : a_MY y c2 nL2 ret2 3) (hs : Nat.ble (rest.map fun v => v.category).sum 8 = true ∨ (rest.map fun v => v.category).sum ≤ 8) (k0 : sRun sc d y c2 nL2 ret2 [v1, v2, v3] m n (fun r m' n' => ∃ v : Int32, r = some (.int v) ∧ sV sc d own cc nL ret Q (pc + 3) ls (.int v :: rest) m' n')) : sV sc d own cc nL ret Q pc ls (v3 :: v2 :: v1 :: rest) m n := y_is [v1, v2, v3] rest hd hv hy rfl rfl (hs.elim Nat.le_of_ble_eq_true id) (sRun_mono (fun r m' n' q => by obtain ⟨v, rfl, q⟩ := q; exact q) k0)
theorem y_ivI4 {idx c a : Nat} {ss : List Nat} {y : MethodName} {c2 : ByteArray} {nL2 : Nat} {ret2 : Option FieldType} {v1 v2 v3 v4 : Value} {rest : List Value} (hd : decode cc pc = .ok (.invokevirtual idx, 3)) (hv : a_MV own idx c y) (hy : a_MY y c2 nL2 ret2 4) (hs : Nat.ble (rest.map fun v => v.category).sum 8 = true ∨ (rest.map fun v => v.category).sum ≤ 8) (hM : shp[a]? = some (2, c, ss)) (k0 : sRun sc d y c2 nL2 ret2 (.ref a :: [v1, v2, v3, v4]) m n (fun r m' n' => ∃ v : Int32, r = some (.int v) ∧ sV sc d own cc nL ret Q (pc + 3) ls (.int v :: rest) m' n')) : sV sc d own cc nL ret Q pc ls (v4 :: v3 :: v2 :: v1 :: .ref a :: rest) m n := y_iv [v1, v2, v3, v4] rest hd hv hy rfl rfl (hs.elim Nat.le_of_ble_eq_true id) hM (sRun_mono (fun r m' n' q => by obtain ⟨v, rfl, q⟩ := q; exact q) k0)
theorem y_isI4 {idx : Nat} {y : MethodName} {c2 : ByteArray} {nL2 : Nat} {ret2 : Option FieldType} {v1 v2 v3 v4 : Value} {rest : List Value} (hd : decode cc pc = .ok (.invokestatic idx, 3)) (hv : a_MS own idx y) (hy : a_MY y c2 nL2 ret2 4) (hs : Nat.ble (rest.map fun v => v.category).sum 8 = true ∨ (rest.map fun v => v.category).sum ≤ 8) (k0 : sRun sc d y c2 nL2 ret2 [v1, v2, v3, v4] m n (fun r m' n' => ∃ v : Int32, r = some (.int v) ∧ sV sc d own cc nL ret Q (pc + 3) ls (.int v :: rest) m' n')) : sV sc d own cc nL ret Q pc ls (v4 :: v3 :: v2 :: v1 :: rest) m n := y_is [v1, v2, v3, v4] rest hd hv hy rfl rfl (hs.elim Nat.le_of_ble_eq_true id) (sRun_mono (fun r m' n' q => by obtain ⟨v, rfl, q⟩ := q; exact q) k0)
theorem y_ivI5 {idx c a : Nat} {ss : List Nat} {y : MethodName} {c2 : ByteArray} {nL2 : Nat} {ret2 : Option FieldType} {v1 v2 v3 v4 v5 : Value} {rest : List Value} (hd : decode cc pc = .ok (.invokevirtual idx, 3)) (hv : a_MV own idx c y) (hy : a_MY y c2 nL2 ret2 5) (hs : Nat.ble (rest.map fun v => v.category).sum 8 = true ∨ (rest.map fun v => v.category).sum ≤ 8) (hM : shp[a]? = some (2, c, ss)) (k0 : sRun sc d y c2 nL2 ret2 (.ref a :: [v1, v2, v3, v4, v5]) m n (fun r m' n' => ∃ v : Int32, r = some (.int v) ∧ sV sc d own cc nL ret Q (pc + 3) ls (.int v :: rest) m' n')) : sV sc d own cc nL ret Q pc ls (v5 :: v4 :: v3 :: v2 :: v1 :: .ref a :: rest) m n := y_iv [v1, v2, v3, v4, v5] rest hd hv hy rfl rfl (hs.elim Nat.le_of_ble_eq_true id) hM (sRun_mono (fun r m' n' q => by obtain ⟨v, rfl, q⟩ := q; exact q) k0)
theorem y_isI5 {idx : Nat} {y : MethodName} {c2 : ByteArray} {nL2 : Nat} {ret2 : Option FieldType} {v1 v2 v3 v4 v5 : Value} {rest : List Value} (hd : decode cc pc = .ok (.invokestatic idx, 3)) (hv : a_MS own idx y) (hy : a_MY y c2 nL2 ret2 5) (hs : Nat.ble (rest.map fun v => v.category).sum 8 = true ∨ (rest.map fun v => v.category).sum ≤ 8) (k0 : sRun sc d y c2 nL2 ret2 [v1, v2, v3, v4, v5] m n (fun r m' n' => ∃ v : Int32, r = some (.int v) ∧ sV sc d own cc nL ret Q (pc + 3) ls (.int v :: rest) m' n')) : sV sc d own cc nL ret Q pc ls (v5 :: v4 :: v3 :: v2 :: v1 :: rest) m n := y_is [v1, v2, v3, v4, v5] rest hd hv hy rfl rfl (hs.elim Nat.le_of_ble_eq_true id) (sRun_mono (fun r m' n' q => by obtain ⟨v, rfl, q⟩ := q; exact q) k0)
theorem y_ivL0 {idx c a : Nat} {ss : List Nat} {y : MethodName} {c2 : ByteArray} {nL2 : Nat} {ret2 : Option FieldType} {rest : List Value} (hd : decode cc pc = .ok (.invokevirtual idx, 3)) (hv : a_MV own idx c y) (hy : a_MY y c2 nL2 ret2 0) (hs : Nat.ble (rest.map fun v => v.category).sum 8 = true ∨ (rest.map fun v => v.category).sum ≤ 8) (hM : shp[a]? = some (2, c, ss)) (k0 : sRun sc d y c2 nL2 ret2 (.ref a :: []) m n (fun r m' n' => ∃ v : Int64, r = some (.long v) ∧ sV sc d own cc nL ret Q (pc + 3) ls (.long v :: rest) m' n')) : sV sc d own cc nL ret Q pc ls (.ref a :: rest) m n := y_iv [] rest hd hv hy rfl rfl (hs.elim Nat.le_of_ble_eq_true id) hM (sRun_mono (fun r m' n' q => by obtain ⟨v, rfl, q⟩ := q; exact q) k0)
theorem y_isL0 {idx : Nat} {y : MethodName} {c2 : ByteArray} {nL2 : Nat} {ret2 : Option FieldType} {rest : List Value} (hd : decode cc pc = .ok (.invokestatic idx, 3)) (hv : a_MS own idx y) (hy : a_MY y c2 nL2 ret2 0) (hs : Nat.ble (rest.map fun v => v.category).sum 8 = true ∨ (rest.map fun v => v.category).sum ≤ 8) (k0 : sRun sc d y c2 nL2 ret2 [] m n (fun r m' n' => ∃ v : Int64, r = some (.long v) ∧ sV sc d own cc nL ret Q (pc + 3) ls (.long v :: rest) m' n')) : sV sc d own cc nL ret Q pc ls (rest) m n := y_is [] rest hd hv hy rfl rfl (hs.elim Nat.le_of_ble_eq_true id) (sRun_mono (fun r m' n' q => by obtain ⟨v, rfl, q⟩ := q; exact q) k0)
theorem y_ivL1 {idx c a : Nat} {ss : List Nat} {y : MethodName} {c2 : ByteArray} {nL2 : Nat} {ret2 : Option FieldType} {v1 : Value} {rest : List Value} (hd : decode cc pc = .ok (.invokevirtual idx, 3)) (hv : a_MV own idx c y) (hy : a_MY y c2 nL2 ret2 1) (hs : Nat.ble (rest.map fun v => v.category).sum 8 = true ∨ (rest.map fun v => v.category).sum ≤ 8) (hM : shp[a]? = some (2, c, ss)) (k0 : sRun sc d y c2 nL2 ret2 (.ref a :: [v1]) m n (fun r m' n' => ∃ v : Int64, r = some (.long v) ∧ sV sc d own cc nL ret Q (pc + 3) ls (.long v :: rest) m' n')) : sV sc d own cc nL ret Q pc ls (v1 :: .ref a :: rest) m n := y_iv [v1] rest hd hv hy rfl rfl (hs.elim Nat.le_of_ble_eq_true id) hM (sRun_mono (fun r m' n' q => by obtain ⟨v, rfl, q⟩ := q; exact q) k0)
theorem y_isL1 {idx : Nat} {y : MethodName} {c2 : ByteArray} {nL2 : Nat} {ret2 : Option FieldType} {v1 : Value} {rest : List Value} (hd : decode cc pc = .ok (.invokestatic idx, 3)) (hv : a_MS own idx y) (hy : a_MY y c2 nL2 ret2 1) (hs : Nat.ble (rest.map fun v => v.category).sum 8 = true ∨ (rest.map fun v => v.category).sum ≤ 8) (k0 : sRun sc d y c2 nL2 ret2 [v1] m n (fun r m' n' => ∃ v : Int64, r = some (.long v) ∧ sV sc d own cc nL ret Q (pc + 3) ls (.long v :: rest) m' n')) : sV sc d own cc nL ret Q pc ls (v1 :: rest) m n := y_is [v1] rest hd hv hy rfl rfl (hs.elim Nat.le_of_ble_eq_true id) (sRun_mono (fun r m' n' q => by obtain ⟨v, rfl, q⟩ := q; exact q) k0)
theorem y_ivL2 {idx c a : Nat} {ss : List Nat} {y : MethodName} {c2 : ByteArray} {nL2 : Nat} {ret2 : Option FieldType} {v1 v2 : Value} {rest : List Value} (hd : decode cc pc = .ok (.invokevirtual idx, 3)) (hv : a_MV own idx c y) (hy : a_MY y c2 nL2 ret2 2) (hs : Nat.ble (rest.map fun v => v.category).sum 8 = true ∨ (rest.map fun v => v.category).sum ≤ 8) (hM : shp[a]? = some (2, c, ss)) (k0 : sRun sc d y c2 nL2 ret2 (.ref a :: [v1, v2]) m n (fun r m' n' => ∃ v : Int64, r = some (.long v) ∧ sV sc d own cc nL ret Q (pc + 3) ls (.long v :: rest) m' n')) : sV sc d own cc nL ret Q pc ls (v2 :: v1 :: .ref a :: rest) m n := y_iv [v1, v2] rest hd hv hy rfl rfl (hs.elim Nat.le_of_ble_eq_true id) hM (sRun_mono (fun r m' n' q => by obtain ⟨v, rfl, q⟩ := q; exact q) k0)
theorem y_isL2 {idx : Nat} {y : MethodName} {c2 : ByteArray} {nL2 : Nat} {ret2 : Option FieldType} {v1 v2 : Value} {rest : List Value} (hd : decode cc pc = .ok (.invokestatic idx, 3)) (hv : a_MS own idx y) (hy : a_MY y c2 nL2 ret2 2) (hs : Nat.ble (rest.map fun v => v.category).sum 8 = true ∨ (rest.map fun v => v.category).sum ≤ 8) (k0 : sRun sc d y c2 nL2 ret2 [v1, v2] m n (fun r m' n' => ∃ v : Int64, r = some (.long v) ∧ sV sc d own cc nL ret Q (pc + 3) ls (.long v :: rest) m' n')) : sV sc d own cc nL ret Q pc ls (v2 :: v1 :: rest) m n := y_is [v1, v2] rest hd hv hy rfl rfl (hs.elim Nat.le_of_ble_eq_true id) (sRun_mono (fun r m' n' q => by obtain ⟨v, rfl, q⟩ := q; exact q) k0)
theorem y_ivL3 {idx c a : Nat} {ss : List Nat} {y : MethodName} {c2 : ByteArray} {nL2 : Nat} {ret2 : Option FieldType} {v1 v2 v3 : Value} {rest : List Value} (hd : decode cc pc = .ok (.invokevirtual idx, 3)) (hv : a_MV own idx c y) (hy : a_MY y c2 nL2 ret2 3) (hs : Nat.ble (rest.map fun v => v.category).sum 8 = true ∨ (rest.map fun v => v.category).sum ≤ 8) (hM : shp[a]? = some (2, c, ss)) (k0 : sRun sc d y c2 nL2 ret2 (.ref a :: [v1, v2, v3]) m n (fun r m' n' => ∃ v : Int64, r = some (.long v) ∧ sV sc d own cc nL ret Q (pc + 3) ls (.long v :: rest) m' n')) : sV sc d own cc nL ret Q pc ls (v3 :: v2 :: v1 :: .ref a :: rest) m n := y_iv [v1, v2, v3] rest hd hv hy rfl rfl (hs.elim Nat.le_of_ble_eq_true id) hM (sRun_mono (fun r m' n' q => by obtain ⟨v, rfl, q⟩ := q; exact q) k0)
theorem y_isL3 {idx : Nat} {y : MethodName} {c2 : ByteArray} {nL2 : Nat} {ret2 : Option FieldType} {v1 v2 v3 : Value} {rest : List Value} (hd : decode cc pc = .ok (.invokestatic idx, 3)) (hv : a_MS own idx y) (hy : a_MY y c2 nL2 ret2 3) (hs : Nat.ble (rest.map fun v => v.category).sum 8 = true ∨ (rest.map fun v => v.category).sum ≤ 8) (k0 : sRun sc d y c2 nL2 ret2 [v1, v2, v3] m n (fun r m' n' => ∃ v : Int64, r = some (.long v) ∧ sV sc d own cc nL ret Q (pc + 3) ls (.long v :: rest) m' n')) : sV sc d own cc nL ret Q pc ls (v3 :: v2 :: v1 :: rest) m n := y_is [v1, v2, v3] rest hd hv hy rfl rfl (hs.elim Nat.le_of_ble_eq_true id) (sRun_mono (fun r m' n' q => by obtain ⟨v, rfl, q⟩ := q; exact q) k0)
theorem y_ivL4 {idx c a : Nat} {ss : List Nat} {y : MethodName} {c2 : ByteArray} {nL2 : Nat} {ret2 : Option FieldType} {v1 v2 v3 v4 : Value} {rest : List Value} (hd : decode cc pc = .ok (.invokevirtual idx, 3)) (hv : a_MV own idx c y) (hy : a_MY y c2 nL2 ret2 4) (hs : Nat.ble (rest.map fun v => v.category).sum 8 = true ∨ (rest.map fun v => v.category).sum ≤ 8) (hM : shp[a]? = some (2, c, ss)) (k0 : sRun sc d y c2 nL2 ret2 (.ref a :: [v1, v2, v3, v4]) m n (fun r m' n' => ∃ v : Int64, r = some (.long v) ∧ sV sc d own cc nL ret Q (pc + 3) ls (.long v :: rest) m' n')) : sV sc d own cc nL ret Q pc ls (v4 :: v3 :: v2 :: v1 :: .ref a :: rest) m n := y_iv [v1, v2, v3, v4] rest hd hv hy rfl rfl (hs.elim Nat.le_of_ble_eq_true id) hM (sRun_mono (fun r m' n' q => by obtain ⟨v, rfl, q⟩ := q; exact q) k0)
theorem y_isL4 {idx : Nat} {y : MethodName} {c2 : ByteArray} {nL2 : Nat} {ret2 : Option FieldType} {v1 v2 v3 v4 : Value} {rest : List Value} (hd : decode cc pc = .ok (.invokestatic idx, 3)) (hv : a_MS own idx y) (hy : a_MY y c2 nL2 ret2 4) (hs : Nat.ble (rest.map fun v => v.category).sum 8 = true ∨ (rest.map fun v => v.category).sum ≤ 8) (k0 : sRun sc d y c2 nL2 ret2 [v1, v2, v3, v4] m n (fun r m' n' => ∃ v : Int64, r = some (.long v) ∧ sV sc d own cc nL ret Q (pc + 3) ls (.long v :: rest) m' n')) : sV sc d own cc nL ret Q pc ls (v4 :: v3 :: v2 :: v1 :: rest) m n := y_is [v1, v2, v3, v4] rest hd hv hy rfl rfl (hs.elim Nat.le_of_ble_eq_true id) (sRun_mono (fun r m' n' q => by obtain ⟨v, rfl, q⟩ := q; exact q) k0)
theorem y_ivL5 {idx c a : Nat} {ss : List Nat} {y : MethodName} {c2 : ByteArray} {nL2 : Nat} {ret2 : Option FieldType} {v1 v2 v3 v4 v5 : Value} {rest : List Value} (hd : decode cc pc = .ok (.invokevirtual idx, 3)) (hv : a_MV own idx c y) (hy : a_MY y c2 nL2 ret2 5) (hs : Nat.ble (rest.map fun v => v.category).sum 8 = true ∨ (rest.map fun v => v.category).sum ≤ 8) (hM : shp[a]? = some (2, c, ss)) (k0 : sRun sc d y c2 nL2 ret2 (.ref a :: [v1, v2, v3, v4, v5]) m n (fun r m' n' => ∃ v : Int64, r = some (.long v) ∧ sV sc d own cc nL ret Q (pc + 3) ls (.long v :: rest) m' n')) : sV sc d own cc nL ret Q pc ls (v5 :: v4 :: v3 :: v2 :: v1 :: .ref a :: rest) m n := y_iv [v1, v2, v3, v4, v5] rest hd hv hy rfl rfl (hs.elim Nat.le_of_ble_eq_true id) hM (sRun_mono (fun r m' n' q => by obtain ⟨v, rfl, q⟩ := q; exact q) k0)
theorem y_isL5 {idx : Nat} {y : MethodName} {c2 : ByteArray} {nL2 : Nat} {ret2 : Option FieldType} {v1 v2 v3 v4 v5 : Value} {rest : List Value} (hd : decode cc pc = .ok (.invokestatic idx, 3)) (hv : a_MS own idx y) (hy : a_MY y c2 nL2 ret2 5) (hs : Nat.ble (rest.map fun v => v.category).sum 8 = true ∨ (rest.map fun v => v.category).sum ≤ 8) (k0 : sRun sc d y c2 nL2 ret2 [v1, v2, v3, v4, v5] m n (fun r m' n' => ∃ v : Int64, r = some (.long v) ∧ sV sc d own cc nL ret Q (pc + 3) ls (.long v :: rest) m' n')) : sV sc d own cc nL ret Q pc ls (v5 :: v4 :: v3 :: v2 :: v1 :: rest) m n := y_is [v1, v2, v3, v4, v5] rest hd hv hy rfl rfl (hs.elim Nat.le_of_ble_eq_true id) (sRun_mono (fun r m' n' q => by obtain ⟨v, rfl, q⟩ := q; exact q) k0)
theorem y_ivR0 {idx c a : Nat} {ss : List Nat} {y : MethodName} {c2 : ByteArray} {nL2 : Nat} {ret2 : Option FieldType} {rest : List Value} (hd : decode cc pc = .ok (.invokevirtual idx, 3)) (hv : a_MV own idx c y) (hy : a_MY y c2 nL2 ret2 0) (hs : Nat.ble (rest.map fun v => v.category).sum 8 = true ∨ (rest.map fun v => v.category).sum ≤ 8) (hM : shp[a]? = some (2, c, ss)) (k0 : sRun sc d y c2 nL2 ret2 (.ref a :: []) m n (fun r m' n' => ∃ v : Nat, r = some (.ref v) ∧ sV sc d own cc nL ret Q (pc + 3) ls (.ref v :: rest) m' n')) : sV sc d own cc nL ret Q pc ls (.ref a :: rest) m n := y_iv [] rest hd hv hy rfl rfl (hs.elim Nat.le_of_ble_eq_true id) hM (sRun_mono (fun r m' n' q => by obtain ⟨v, rfl, q⟩ := q; exact q) k0)
theorem y_isR0 {idx : Nat} {y : MethodName} {c2 : ByteArray} {nL2 : Nat} {ret2 : Option FieldType} {rest : List Value} (hd : decode cc pc = .ok (.invokestatic idx, 3)) (hv : a_MS own idx y) (hy : a_MY y c2 nL2 ret2 0) (hs : Nat.ble (rest.map fun v => v.category).sum 8 = true ∨ (rest.map fun v => v.category).sum ≤ 8) (k0 : sRun sc d y c2 nL2 ret2 [] m n (fun r m' n' => ∃ v : Nat, r = some (.ref v) ∧ sV sc d own cc nL ret Q (pc + 3) ls (.ref v :: rest) m' n')) : sV sc d own cc nL ret Q pc ls (rest) m n := y_is [] rest hd hv hy rfl rfl (hs.elim Nat.le_of_ble_eq_true id) (sRun_mono (fun r m' n' q => by obtain ⟨v, rfl, q⟩ := q; exact q) k0)
theorem y_ivR1 {idx c a : Nat} {ss : List Nat} {y : MethodName} {c2 : ByteArray} {nL2 : Nat} {ret2 : Option FieldType} {v1 : Value} {rest : List Value} (hd : decode cc pc = .ok (.invokevirtual idx, 3)) (hv : a_MV own idx c y) (hy : a_MY y c2 nL2 ret2 1) (hs : Nat.ble (rest.map fun v => v.category).sum 8 = true ∨ (rest.map fun v => v.category).sum ≤ 8) (hM : shp[a]? = some (2, c, ss)) (k0 : sRun sc d y c2 nL2 ret2 (.ref a :: [v1]) m n (fun r m' n' => ∃ v : Nat, r = some (.ref v) ∧ sV sc d own cc nL ret Q (pc + 3) ls (.ref v :: rest) m' n')) : sV sc d own cc nL ret Q pc ls (v1 :: .ref a :: rest) m n := y_iv [v1] rest hd hv hy rfl rfl (hs.elim Nat.le_of_ble_eq_true id) hM (sRun_mono (fun r m' n' q => by obtain ⟨v, rfl, q⟩ := q; exact q) k0)
theorem y_isR1 {idx : Nat} {y : MethodName} {c2 : ByteArray} {nL2 : Nat} {ret2 : Option FieldType} {v1 : Value} {rest : List Value} (hd : decode cc pc = .ok (.invokestatic idx, 3)) (hv : a_MS own idx y) (hy : a_MY y c2 nL2 ret2 1) (hs : Nat.ble (rest.map fun v => v.category).sum 8 = true ∨ (rest.map fun v => v.category).sum ≤ 8) (k0 : sRun sc d y c2 nL2 ret2 [v1] m n (fun r m' n' => ∃ v : Nat, r = some (.ref v) ∧ sV sc d own cc nL ret Q (pc + 3) ls (.ref v :: rest) m' n')) : sV sc d own cc nL ret Q pc ls (v1 :: rest) m n := y_is [v1] rest hd hv hy rfl rfl (hs.elim Nat.le_of_ble_eq_true id) (sRun_mono (fun r m' n' q => by obtain ⟨v, rfl, q⟩ := q; exact q) k0)
theorem y_ivR2 {idx c a : Nat} {ss : List Nat} {y : MethodName} {c2 : ByteArray} {nL2 : Nat} {ret2 : Option FieldType} {v1 v2 : Value} {rest : List Value} (hd : decode cc pc = .ok (.invokevirtual idx, 3)) (hv : a_MV own idx c y) (hy : a_MY y c2 nL2 ret2 2) (hs : Nat.ble (rest.map fun v => v.category).sum 8 = true ∨ (rest.map fun v => v.category).sum ≤ 8) (hM : shp[a]? = some (2, c, ss)) (k0 : sRun sc d y c2 nL2 ret2 (.ref a :: [v1, v2]) m n (fun r m' n' => ∃ v : Nat, r = some (.ref v) ∧ sV sc d own cc nL ret Q (pc + 3) ls (.ref v :: rest) m' n')) : sV sc d own cc nL ret Q pc ls (v2 :: v1 :: .ref a :: rest) m n := y_iv [v1, v2] rest hd hv hy rfl rfl (hs.elim Nat.le_of_ble_eq_true id) hM (sRun_mono (fun r m' n' q => by obtain ⟨v, rfl, q⟩ := q; exact q) k0)
theorem y_isR2 {idx : Nat} {y : MethodName} {c2 : ByteArray} {nL2 : Nat} {ret2 : Option FieldType} {v1 v2 : Value} {rest : List Value} (hd : decode cc pc = .ok (.invokestatic idx, 3)) (hv : a_MS own idx y) (hy : a_MY y c2 nL2 ret2 2) (hs : Nat.ble (rest.map fun v => v.category).sum 8 = true ∨ (rest.map fun v => v.category).sum ≤ 8) (k0 : sRun sc d y c2 nL2 ret2 [v1, v2] m n (fun r m' n' => ∃ v : Nat, r = some (.ref v) ∧ sV sc d own cc nL ret Q (pc + 3) ls (.ref v :: rest) m' n')) : sV sc d own cc nL ret Q pc ls (v2 :: v1 :: rest) m n := y_is [v1, v2] rest hd hv hy rfl rfl (hs.elim Nat.le_of_ble_eq_true id) (sRun_mono (fun r m' n' q => by obtain ⟨v, rfl, q⟩ := q; exact q) k0)
theorem y_ivR3 {idx c a : Nat} {ss : List Nat} {y : MethodName} {c2 : ByteArray} {nL2 : Nat} {ret2 : Option FieldType} {v1 v2 v3 : Value} {rest : List Value} (hd : decode cc pc = .ok (.invokevirtual idx, 3)) (hv : a_MV own idx c y) (hy : a_MY y c2 nL2 ret2 3) (hs : Nat.ble (rest.map fun v => v.category).sum 8 = true ∨ (rest.map fun v => v.category).sum ≤ 8) (hM : shp[a]? = some (2, c, ss)) (k0 : sRun sc d y c2 nL2 ret2 (.ref a :: [v1, v2, v3]) m n (fun r m' n' => ∃ v : Nat, r = some (.ref v) ∧ sV sc d own cc nL ret Q (pc + 3) ls (.ref v :: rest) m' n')) : sV sc d own cc nL ret Q pc ls (v3 :: v2 :: v1 :: .ref a :: rest) m n := y_iv [v1, v2, v3] rest hd hv hy rfl rfl (hs.elim Nat.le_of_ble_eq_true id) hM (sRun_mono (fun r m' n' q => by obtain ⟨v, rfl, q⟩ := q; exact q) k0)
theorem y_isR3 {idx : Nat} {y : MethodName} {c2 : ByteArray} {nL2 : Nat} {ret2 : Option FieldType} {v1 v2 v3 : Value} {rest : List Value} (hd : decode cc pc = .ok (.invokestatic idx, 3)) (hv : a_MS own idx y) (hy : a_MY y c2 nL2 ret2 3) (hs : Nat.ble (rest.map fun v => v.category).sum 8 = true ∨ (rest.map fun v => v.category).sum ≤ 8) (k0 : sRun sc d y c2 nL2 ret2 [v1, v2, v3] m n (fun r m' n' => ∃ v : Nat, r = some (.ref v) ∧ sV sc d own cc nL ret Q (pc + 3) ls (.ref v :: rest) m' n')) : sV sc d own cc nL ret Q pc ls (v3 :: v2 :: v1 :: rest) m n := y_is [v1, v2, v3] rest hd hv hy rfl rfl (hs.elim Nat.le_of_ble_eq_true id) (sRun_mono (fun r m' n' q => by obtain ⟨v, rfl, q⟩ := q; exact q) k0)
theorem y_ivR4 {idx c a : Nat} {ss : List Nat} {y : MethodName} {c2 : ByteArray} {nL2 : Nat} {ret2 : Option FieldType} {v1 v2 v3 v4 : Value} {rest : List Value} (hd : decode cc pc = .ok (.invokevirtual idx, 3)) (hv : a_MV own idx c y) (hy : a_MY y c2 nL2 ret2 4) (hs : Nat.ble (rest.map fun v => v.category).sum 8 = true ∨ (rest.map fun v => v.category).sum ≤ 8) (hM : shp[a]? = some (2, c, ss)) (k0 : sRun sc d y c2 nL2 ret2 (.ref a :: [v1, v2, v3, v4]) m n (fun r m' n' => ∃ v : Nat, r = some (.ref v) ∧ sV sc d own cc nL ret Q (pc + 3) ls (.ref v :: rest) m' n')) : sV sc d own cc nL ret Q pc ls (v4 :: v3 :: v2 :: v1 :: .ref a :: rest) m n := y_iv [v1, v2, v3, v4] rest hd hv hy rfl rfl (hs.elim Nat.le_of_ble_eq_true id) hM (sRun_mono (fun r m' n' q => by obtain ⟨v, rfl, q⟩ := q; exact q) k0)
theorem y_isR4 {idx : Nat} {y : MethodName} {c2 : ByteArray} {nL2 : Nat} {ret2 : Option FieldType} {v1 v2 v3 v4 : Value} {rest : List Value} (hd : decode cc pc = .ok (.invokestatic idx, 3)) (hv : a_MS own idx y) (hy : a_MY y c2 nL2 ret2 4) (hs : Nat.ble (rest.map fun v => v.category).sum 8 = true ∨ (rest.map fun v => v.category).sum ≤ 8) (k0 : sRun sc d y c2 nL2 ret2 [v1, v2, v3, v4] m n (fun r m' n' => ∃ v : Nat, r = some (.ref v) ∧ sV sc d own cc nL ret Q (pc + 3) ls (.ref v :: rest) m' n')) : sV sc d own cc nL ret Q pc ls (v4 :: v3 :: v2 :: v1 :: rest) m n := y_is [v1, v2, v3, v4] rest hd hv hy rfl rfl (hs.elim Nat.le_of_ble_eq_true id) (sRun_mono (fun r m' n' q => by obtain ⟨v, rfl, q⟩ := q; exact q) k0)
theorem y_ivR5 {idx c a : Nat} {ss : List Nat} {y : MethodName} {c2 : ByteArray} {nL2 : Nat} {ret2 : Option FieldType} {v1 v2 v3 v4 v5 : Value} {rest : List Value} (hd : decode cc pc = .ok (.invokevirtual idx, 3)) (hv : a_MV own idx c y) (hy : a_MY y c2 nL2 ret2 5) (hs : Nat.ble (rest.map fun v => v.category).sum 8 = true ∨ (rest.map fun v => v.category).sum ≤ 8) (hM : shp[a]? = some (2, c, ss)) (k0 : sRun sc d y c2 nL2 ret2 (.ref a :: [v1, v2, v3, v4, v5]) m n (fun r m' n' => ∃ v : Nat, r = some (.ref v) ∧ sV sc d own cc nL ret Q (pc + 3) ls (.ref v :: rest) m' n')) : sV sc d own cc nL ret Q pc ls (v5 :: v4 :: v3 :: v2 :: v1 :: .ref a :: rest) m n := y_iv [v1, v2, v3, v4, v5] rest hd hv hy rfl rfl (hs.elim Nat.le_of_ble_eq_true id) hM (sRun_mono (fun r m' n' q => by obtain ⟨v, rfl, q⟩ := q; exact q) k0)
theorem y_isR5 {idx : Nat} {y : MethodName} {c2 : ByteArray} {nL2 : Nat} {ret2 : Option FieldType} {v1 v2 v3 v4 v5 : Value} {rest : List Value} (hd : decode cc pc = .ok (.invokestatic idx, 3)) (hv : a_MS own idx y) (hy : a_MY y c2 nL2 ret2 5) (hs : Nat.ble (rest.map fun v => v.category).sum 8 = true ∨ (rest.map fun v => v.category).sum ≤ 8) (k0 : sRun sc d y c2 nL2 ret2 [v1, v2, v3, v4, v5] m n (fun r m' n' => ∃ v : Nat, r = some (.ref v) ∧ sV sc d own cc nL ret Q (pc + 3) ls (.ref v :: rest) m' n')) : sV sc d own cc nL ret Q pc ls (v5 :: v4 :: v3 :: v2 :: v1 :: rest) m n := y_is [v1, v2, v3, v4, v5] rest hd hv hy rfl rfl (hs.elim Nat.le_of_ble_eq_true id) (sRun_mono (fun r m' n' q => by obtain ⟨v, rfl, q⟩ := q; exact q) k0)
end YN
