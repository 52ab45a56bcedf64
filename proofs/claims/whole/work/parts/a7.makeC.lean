def jka_0 : jx_H := ju_z jz0 10 0
def jka_1 : jx_H := ju_z jka_0 9 0
def jka_2 : jx_H := ju_z jka_1 16 0
def jka_3 : jx_H := ju_M jka_2 9 0 (va_up (jh_M jka_2 9 0) 0 1)
def jka_4 : jx_H := ju_z jka_3 17 0
def jka_5 : jx_H := ju_M jka_4 9 0 (va_up (jh_M jka_4 9 0) 1 1)
def jka_6 : jx_H := ju_z jka_5 18 0
def jka_7 : jx_H := ju_M jka_6 9 0 (va_up (jh_M jka_6 9 0) 2 1)
def jka_8 : jx_H := ju_z jka_7 19 0
def jka_9 : jx_H := ju_M jka_8 9 0 (va_up (jh_M jka_8 9 0) 3 1)
def jka_10 : jx_H := ju_z jka_9 20 0
def jka_11 : jx_H := ju_M jka_10 9 0 (va_up (jh_M jka_10 9 0) 4 1)
def jka_12 : jx_H := ju_L jka_11 17 0 (jkS (jh_L jka_11 17 0) 140).2.2
def jka_13 : jx_H := ju_M jka_12 10 0 (va_up (jh_M jka_12 10 0) 0 1)
def jka_14 : jx_H := ju_z jka_13 7 0
def jka_15 : jx_H := ju_z jka_14 21 0
def jka_16 : jx_H := ju_M jka_15 7 0 (va_up (jh_M jka_15 7 0) 1 1)
def jka_17 : jx_H := ju_z jka_16 22 0
def jka_18 : jx_H := ju_M jka_17 7 0 (va_up (jh_M jka_17 7 0) 2 1)
def jka_19 : jx_H := ju_z jka_18 23 0
def jka_20 : jx_H := ju_M jka_19 7 0 (va_up (jh_M jka_19 7 0) 4 1)
def jka_21 : jx_H := ju_z jka_20 24 0
def jka_22 : jx_H := ju_M jka_21 7 0 (va_up (jh_M jka_21 7 0) 6 1)
def jka_23 : jx_H := ju_z jka_22 2 0
def jka_24 : jx_H := ju_M jka_23 24 0 (va_up (jh_M jka_23 24 0) 0 1)
def jka_25 : jx_H := ju_z jka_24 2 1
def jka_26 : jx_H := ju_M jka_25 24 0 (va_up (jh_M jka_25 24 0) 1 1)
def jka_27 : jx_H := ju_z jka_26 2 2
def jka_28 : jx_H := ju_M jka_27 24 0 (va_up (jh_M jka_27 24 0) 2 1)
def jka_29 : jx_H := ju_z jka_28 2 3
def jka_30 : jx_H := ju_M jka_29 24 0 (va_up (jh_M jka_29 24 0) 3 1)
def jka_31 : jx_H := ju_z jka_30 2 4
def jka_32 : jx_H := ju_M jka_31 24 0 (va_up (jh_M jka_31 24 0) 4 1)
def jka_33 : jx_H := ju_z jka_32 2 5
def jka_34 : jx_H := ju_M jka_33 24 0 (va_up (jh_M jka_33 24 0) 5 1)
def jka_35 : jx_H := ju_z jka_34 2 6
def jka_36 : jx_H := ju_M jka_35 24 0 (va_up (jh_M jka_35 24 0) 6 1)
def jka_37 : jx_H := ju_z jka_36 2 7
def jka_38 : jx_H := ju_M jka_37 24 0 (va_up (jh_M jka_37 24 0) 7 1)
def jka_39 : jx_H := ju_z jka_38 2 8
def jka_40 : jx_H := ju_M jka_39 24 0 (va_up (jh_M jka_39 24 0) 8 1)
def jka_41 : jx_H := ju_z jka_40 2 9
def jka_42 : jx_H := ju_M jka_41 24 0 (va_up (jh_M jka_41 24 0) 9 1)
def jka_43 : jx_H := ju_z jka_42 2 10
def jka_44 : jx_H := ju_M jka_43 24 0 (va_up (jh_M jka_43 24 0) 10 1)
def jka_45 : jx_H := ju_z jka_44 2 11
def jka_46 : jx_H := ju_M jka_45 24 0 (va_up (jh_M jka_45 24 0) 11 1)
def jka_47 : jx_H := ju_z jka_46 25 0
def jka_48 : jx_H := ju_M jka_47 7 0 (va_up (jh_M jka_47 7 0) 14 1)
def jka_49 : jx_H := ju_z jka_48 26 0
def jka_50 : jx_H := ju_M jka_49 7 0 (va_up (jh_M jka_49 7 0) 16 1)
def jka_51 : jx_H := ju_z jka_50 27 0
def jka_52 : jx_H := ju_M jka_51 7 0 (va_up (jh_M jka_51 7 0) 17 1)
def jka_53 : jx_H := ju_I jka_52 7 0 (upd (jh_I jka_52 7 0) 0 (0))
def jka_54 : jx_H := ju_I jka_53 7 0 (upd (jh_I jka_53 7 0) 3 (0))
def jka_55 : jx_H := ju_I jka_54 7 0 (upd (jh_I jka_54 7 0) 5 (0))
def jka_56 : jx_H := ju_I jka_55 7 0 (upd (jh_I jka_55 7 0) 7 (0))
def jka_57 : jx_H := ju_I jka_56 7 0 (upd (jh_I jka_56 7 0) 8 (0))
def jka_58 : jx_H := ju_I jka_57 7 0 (upd (jh_I jka_57 7 0) 9 (122))
def jka_59 : jx_H := ju_I jka_58 7 0 (upd (jh_I jka_58 7 0) 10 (7))
def jka_60 : jx_H := ju_I jka_59 7 0 (upd (jh_I jka_59 7 0) 11 (0))
def jka_61 : jx_H := ju_I jka_60 7 0 (upd (jh_I jka_60 7 0) 12 (0))
def jka_62 : jx_H := ju_I jka_61 7 0 (upd (jh_I jka_61 7 0) 13 (0))
def jka_63 : jx_H := ju_I jka_62 7 0 (upd (jh_I jka_62 7 0) 15 (0))
def jka_64 : jx_H := ju_I jka_63 26 0 (upd (jh_I jka_63 26 0) 0 (0))
def jka_65 : jx_H := ju_I jka_64 27 0 (upd (jh_I jka_64 27 0) 0 (0))
def jka_66 : jx_H := ju_I jka_65 26 0 (upd (jh_I jka_65 26 0) 1 (0))
def jka_67 : jx_H := ju_I jka_66 27 0 (upd (jh_I jka_66 27 0) 1 (0))
def jka_68 : jx_H := ju_I jka_67 26 0 (upd (jh_I jka_67 26 0) 2 (0))
def jka_69 : jx_H := ju_I jka_68 27 0 (upd (jh_I jka_68 27 0) 2 (0))
def jka_70 : jx_H := ju_I jka_69 26 0 (upd (jh_I jka_69 26 0) 3 (0))
def jka_71 : jx_H := ju_I jka_70 27 0 (upd (jh_I jka_70 27 0) 3 (0))
def jka_72 : jx_H := ju_I jka_71 26 0 (upd (jh_I jka_71 26 0) 4 (0))
def jka_73 : jx_H := ju_I jka_72 27 0 (upd (jh_I jka_72 27 0) 4 (0))
def jka_74 : jx_H := ju_I jka_73 26 0 (upd (jh_I jka_73 26 0) 5 (0))
def jka_75 : jx_H := ju_I jka_74 27 0 (upd (jh_I jka_74 27 0) 5 (0))
def jka_76 : jx_H := ju_M jka_75 10 0 (va_up (jh_M jka_75 10 0) 11 (0 + 1))
def jka_77 : jx_H := ju_z jka_76 7 1
def jka_78 : jx_H := ju_z jka_77 21 1
def jka_79 : jx_H := ju_M jka_78 7 1 (va_up (jh_M jka_78 7 1) 1 1)
def jka_80 : jx_H := ju_z jka_79 22 1
def jka_81 : jx_H := ju_M jka_80 7 1 (va_up (jh_M jka_80 7 1) 2 1)
def jka_82 : jx_H := ju_z jka_81 23 1
def jka_83 : jx_H := ju_M jka_82 7 1 (va_up (jh_M jka_82 7 1) 4 1)
def jka_84 : jx_H := ju_z jka_83 24 1
def jka_85 : jx_H := ju_M jka_84 7 1 (va_up (jh_M jka_84 7 1) 6 1)
def jka_86 : jx_H := ju_z jka_85 2 12
def jka_87 : jx_H := ju_M jka_86 24 1 (va_up (jh_M jka_86 24 1) 0 1)
def jka_88 : jx_H := ju_z jka_87 2 13
def jka_89 : jx_H := ju_M jka_88 24 1 (va_up (jh_M jka_88 24 1) 1 1)
def jka_90 : jx_H := ju_z jka_89 2 14
def jka_91 : jx_H := ju_M jka_90 24 1 (va_up (jh_M jka_90 24 1) 2 1)
def jka_92 : jx_H := ju_z jka_91 2 15
def jka_93 : jx_H := ju_M jka_92 24 1 (va_up (jh_M jka_92 24 1) 3 1)
def jka_94 : jx_H := ju_z jka_93 2 16
def jka_95 : jx_H := ju_M jka_94 24 1 (va_up (jh_M jka_94 24 1) 4 1)
def jka_96 : jx_H := ju_z jka_95 2 17
def jka_97 : jx_H := ju_M jka_96 24 1 (va_up (jh_M jka_96 24 1) 5 1)
def jka_98 : jx_H := ju_z jka_97 2 18
def jka_99 : jx_H := ju_M jka_98 24 1 (va_up (jh_M jka_98 24 1) 6 1)
def jka_100 : jx_H := ju_z jka_99 2 19
def jka_101 : jx_H := ju_M jka_100 24 1 (va_up (jh_M jka_100 24 1) 7 1)
def jka_102 : jx_H := ju_z jka_101 2 20
def jka_103 : jx_H := ju_M jka_102 24 1 (va_up (jh_M jka_102 24 1) 8 1)
def jka_104 : jx_H := ju_z jka_103 2 21
def jka_105 : jx_H := ju_M jka_104 24 1 (va_up (jh_M jka_104 24 1) 9 1)
def jka_106 : jx_H := ju_z jka_105 2 22
def jka_107 : jx_H := ju_M jka_106 24 1 (va_up (jh_M jka_106 24 1) 10 1)
def jka_108 : jx_H := ju_z jka_107 2 23
def jka_109 : jx_H := ju_M jka_108 24 1 (va_up (jh_M jka_108 24 1) 11 1)
def jka_110 : jx_H := ju_z jka_109 25 1
def jka_111 : jx_H := ju_M jka_110 7 1 (va_up (jh_M jka_110 7 1) 14 1)
def jka_112 : jx_H := ju_z jka_111 26 1
def jka_113 : jx_H := ju_M jka_112 7 1 (va_up (jh_M jka_112 7 1) 16 1)
def jka_114 : jx_H := ju_z jka_113 27 1
def jka_115 : jx_H := ju_M jka_114 7 1 (va_up (jh_M jka_114 7 1) 17 1)
def jka_116 : jx_H := ju_I jka_115 7 1 (upd (jh_I jka_115 7 1) 0 (0))
def jka_117 : jx_H := ju_I jka_116 7 1 (upd (jh_I jka_116 7 1) 3 (0))
def jka_118 : jx_H := ju_I jka_117 7 1 (upd (jh_I jka_117 7 1) 5 (0))
def jka_119 : jx_H := ju_I jka_118 7 1 (upd (jh_I jka_118 7 1) 7 (0))
def jka_120 : jx_H := ju_I jka_119 7 1 (upd (jh_I jka_119 7 1) 8 (0))
def jka_121 : jx_H := ju_I jka_120 7 1 (upd (jh_I jka_120 7 1) 9 (122))
def jka_122 : jx_H := ju_I jka_121 7 1 (upd (jh_I jka_121 7 1) 10 (7))
def jka_123 : jx_H := ju_I jka_122 7 1 (upd (jh_I jka_122 7 1) 11 (0))
def jka_124 : jx_H := ju_I jka_123 7 1 (upd (jh_I jka_123 7 1) 12 (0))
def jka_125 : jx_H := ju_I jka_124 7 1 (upd (jh_I jka_124 7 1) 13 (0))
def jka_126 : jx_H := ju_I jka_125 7 1 (upd (jh_I jka_125 7 1) 15 (0))
def jka_127 : jx_H := ju_I jka_126 26 1 (upd (jh_I jka_126 26 1) 0 (0))
def jka_128 : jx_H := ju_I jka_127 27 1 (upd (jh_I jka_127 27 1) 0 (0))
def jka_129 : jx_H := ju_I jka_128 26 1 (upd (jh_I jka_128 26 1) 1 (0))
def jka_130 : jx_H := ju_I jka_129 27 1 (upd (jh_I jka_129 27 1) 1 (0))
def jka_131 : jx_H := ju_I jka_130 26 1 (upd (jh_I jka_130 26 1) 2 (0))
def jka_132 : jx_H := ju_I jka_131 27 1 (upd (jh_I jka_131 27 1) 2 (0))
def jka_133 : jx_H := ju_I jka_132 26 1 (upd (jh_I jka_132 26 1) 3 (0))
def jka_134 : jx_H := ju_I jka_133 27 1 (upd (jh_I jka_133 27 1) 3 (0))
def jka_135 : jx_H := ju_I jka_134 26 1 (upd (jh_I jka_134 26 1) 4 (0))
def jka_136 : jx_H := ju_I jka_135 27 1 (upd (jh_I jka_135 27 1) 4 (0))
def jka_137 : jx_H := ju_I jka_136 26 1 (upd (jh_I jka_136 26 1) 5 (0))
def jka_138 : jx_H := ju_I jka_137 27 1 (upd (jh_I jka_137 27 1) 5 (0))
def jka_139 : jx_H := ju_M jka_138 10 0 (va_up (jh_M jka_138 10 0) 12 (1 + 1))
def jka_140 : jx_H := ju_z jka_139 6 0
def jka_141 : jx_H := ju_M jka_140 6 0 (va_up (jh_M jka_140 6 0) 0 1)
def jka_142 : jx_H := ju_M jka_141 6 0 (va_up (jh_M jka_141 6 0) 4 (1 + 1))
def jka_143 : jx_H := ju_z jka_142 28 0
def jka_144 : jx_H := ju_M jka_143 6 0 (va_up (jh_M jka_143 6 0) 1 1)
def jka_145 : jx_H := ju_z jka_144 29 0
def jka_146 : jx_H := ju_M jka_145 6 0 (va_up (jh_M jka_145 6 0) 2 1)
def jka_147 : jx_H := ju_z jka_146 30 0
def jka_148 : jx_H := ju_M jka_147 6 0 (va_up (jh_M jka_147 6 0) 3 1)
def jka_149 : jx_H := ju_I jka_148 6 0 (upd (jh_I jka_148 6 0) 9 (-1))
def jka_150 : jx_H := ju_M jka_149 10 0 (va_up (jh_M jka_149 10 0) 1 1)
def jka_151 : jx_H := ju_z jka_150 1 0
def jka_152 : jx_H := ju_M jka_151 1 0 (va_up (jh_M jka_151 1 0) 0 (0 + 1))
def jka_153 : jx_H := ju_z jka_152 31 0
def jka_154 : jx_H := ju_M jka_153 1 0 (va_up (jh_M jka_153 1 0) 1 1)
def jka_155 : jx_H := ju_z jka_154 32 0
def jka_156 : jx_H := ju_M jka_155 1 0 (va_up (jh_M jka_155 1 0) 4 1)
def jka_157 : jx_H := ju_z jka_156 33 0
def jka_158 : jx_H := ju_M jka_157 1 0 (va_up (jh_M jka_157 1 0) 5 1)
def jka_159 : jx_H := ju_z jka_158 34 0
def jka_160 : jx_H := ju_M jka_159 1 0 (va_up (jh_M jka_159 1 0) 6 1)
def jka_161 : jx_H := ju_z jka_160 35 0
def jka_162 : jx_H := ju_M jka_161 1 0 (va_up (jh_M jka_161 1 0) 7 1)
def jka_163 : jx_H := ju_z jka_162 36 0
def jka_164 : jx_H := ju_M jka_163 1 0 (va_up (jh_M jka_163 1 0) 8 1)
def jka_165 : jx_H := ju_M jka_164 10 0 (va_up (jh_M jka_164 10 0) 2 1)
def jka_166 : jx_H := ju_z jka_165 61 0
def jka_167 : jx_H := ju_M jka_166 10 0 (va_up (jh_M jka_166 10 0) 3 1)
def jka_168 : jx_H := ju_z jka_167 62 0
def jka_169 : jx_H := ju_M jka_168 10 0 (va_up (jh_M jka_168 10 0) 4 1)
def jka_170 : jx_H := ju_z jka_169 1 1
def jka_171 : jx_H := ju_M jka_170 1 1 (va_up (jh_M jka_170 1 1) 0 (0 + 1))
def jka_172 : jx_H := ju_z jka_171 31 1
def jka_173 : jx_H := ju_M jka_172 1 1 (va_up (jh_M jka_172 1 1) 1 1)
def jka_174 : jx_H := ju_z jka_173 32 1
def jka_175 : jx_H := ju_M jka_174 1 1 (va_up (jh_M jka_174 1 1) 4 1)
def jka_176 : jx_H := ju_z jka_175 33 1
def jka_177 : jx_H := ju_M jka_176 1 1 (va_up (jh_M jka_176 1 1) 5 1)
def jka_178 : jx_H := ju_z jka_177 34 1
def jka_179 : jx_H := ju_M jka_178 1 1 (va_up (jh_M jka_178 1 1) 6 1)
def jka_180 : jx_H := ju_z jka_179 35 1
def jka_181 : jx_H := ju_M jka_180 1 1 (va_up (jh_M jka_180 1 1) 7 1)
def jka_182 : jx_H := ju_z jka_181 36 1
def jka_183 : jx_H := ju_M jka_182 1 1 (va_up (jh_M jka_182 1 1) 8 1)
def jka_184 : jx_H := ju_M jka_183 61 0 (va_up (jh_M jka_183 61 0) 0 1)
def jka_185 : jx_H := ju_z jka_184 1 2
def jka_186 : jx_H := ju_M jka_185 1 2 (va_up (jh_M jka_185 1 2) 0 (0 + 1))
def jka_187 : jx_H := ju_z jka_186 31 2
def jka_188 : jx_H := ju_M jka_187 1 2 (va_up (jh_M jka_187 1 2) 1 1)
def jka_189 : jx_H := ju_z jka_188 32 2
def jka_190 : jx_H := ju_M jka_189 1 2 (va_up (jh_M jka_189 1 2) 4 1)
def jka_191 : jx_H := ju_z jka_190 33 2
def jka_192 : jx_H := ju_M jka_191 1 2 (va_up (jh_M jka_191 1 2) 5 1)
def jka_193 : jx_H := ju_z jka_192 34 2
def jka_194 : jx_H := ju_M jka_193 1 2 (va_up (jh_M jka_193 1 2) 6 1)
def jka_195 : jx_H := ju_z jka_194 35 2
def jka_196 : jx_H := ju_M jka_195 1 2 (va_up (jh_M jka_195 1 2) 7 1)
def jka_197 : jx_H := ju_z jka_196 36 2
def jka_198 : jx_H := ju_M jka_197 1 2 (va_up (jh_M jka_197 1 2) 8 1)
def jka_199 : jx_H := ju_M jka_198 61 0 (va_up (jh_M jka_198 61 0) 1 1)
def jka_200 : jx_H := ju_z jka_199 1 3
def jka_201 : jx_H := ju_M jka_200 1 3 (va_up (jh_M jka_200 1 3) 0 (0 + 1))
def jka_202 : jx_H := ju_z jka_201 31 3
def jka_203 : jx_H := ju_M jka_202 1 3 (va_up (jh_M jka_202 1 3) 1 1)
def jka_204 : jx_H := ju_z jka_203 32 3
def jka_205 : jx_H := ju_M jka_204 1 3 (va_up (jh_M jka_204 1 3) 4 1)
def jka_206 : jx_H := ju_z jka_205 33 3
def jka_207 : jx_H := ju_M jka_206 1 3 (va_up (jh_M jka_206 1 3) 5 1)
def jka_208 : jx_H := ju_z jka_207 34 3
def jka_209 : jx_H := ju_M jka_208 1 3 (va_up (jh_M jka_208 1 3) 6 1)
def jka_210 : jx_H := ju_z jka_209 35 3
def jka_211 : jx_H := ju_M jka_210 1 3 (va_up (jh_M jka_210 1 3) 7 1)
def jka_212 : jx_H := ju_z jka_211 36 3
def jka_213 : jx_H := ju_M jka_212 1 3 (va_up (jh_M jka_212 1 3) 8 1)
def jka_214 : jx_H := ju_M jka_213 61 0 (va_up (jh_M jka_213 61 0) 2 1)
def jka_215 : jx_H := ju_z jka_214 5 0
def jka_216 : jx_H := ju_z jka_215 37 0
def jka_217 : jx_H := ju_M jka_216 5 0 (va_up (jh_M jka_216 5 0) 0 1)
def jka_218 : jx_H := ju_z jka_217 38 0
def jka_219 : jx_H := ju_M jka_218 5 0 (va_up (jh_M jka_218 5 0) 1 1)
def jka_220 : jx_H := ju_z jka_219 39 0
def jka_221 : jx_H := ju_M jka_220 5 0 (va_up (jh_M jka_220 5 0) 2 1)
def jka_222 : jx_H := ju_z jka_221 40 0
def jka_223 : jx_H := ju_M jka_222 5 0 (va_up (jh_M jka_222 5 0) 3 1)
def jka_224 : jx_H := ju_z jka_223 41 0
def jka_225 : jx_H := ju_M jka_224 5 0 (va_up (jh_M jka_224 5 0) 4 1)
def jka_226 : jx_H := ju_M jka_225 5 0 (va_up (jh_M jka_225 5 0) 5 (0 + 1))
def jka_227 : jx_H := ju_M jka_226 10 0 (va_up (jh_M jka_226 10 0) 5 1)
def jka_228 : jx_H := ju_z jka_227 8 0
def jka_229 : jx_H := ju_M jka_228 8 0 (va_up (jh_M jka_228 8 0) 0 1)
def jka_230 : jx_H := ju_z jka_229 42 0
def jka_231 : jx_H := ju_M jka_230 8 0 (va_up (jh_M jka_230 8 0) 1 1)
def jka_232 : jx_H := ju_z jka_231 43 0
def jka_233 : jx_H := ju_M jka_232 8 0 (va_up (jh_M jka_232 8 0) 2 1)
def jka_234 : jx_H := ju_z jka_233 44 0
def jka_235 : jx_H := ju_M jka_234 8 0 (va_up (jh_M jka_234 8 0) 3 1)
def jka_236 : jx_H := ju_M jka_235 10 0 (va_up (jh_M jka_235 10 0) 6 1)
def jka_237 : jx_H := ju_z jka_236 3 0
def jka_238 : jx_H := ju_z jka_237 1 4
def jka_239 : jx_H := ju_M jka_238 1 4 (va_up (jh_M jka_238 1 4) 0 (0 + 1))
def jka_240 : jx_H := ju_z jka_239 31 4
def jka_241 : jx_H := ju_M jka_240 1 4 (va_up (jh_M jka_240 1 4) 1 1)
def jka_242 : jx_H := ju_z jka_241 32 4
def jka_243 : jx_H := ju_M jka_242 1 4 (va_up (jh_M jka_242 1 4) 4 1)
def jka_244 : jx_H := ju_z jka_243 33 4
def jka_245 : jx_H := ju_M jka_244 1 4 (va_up (jh_M jka_244 1 4) 5 1)
def jka_246 : jx_H := ju_z jka_245 34 4
def jka_247 : jx_H := ju_M jka_246 1 4 (va_up (jh_M jka_246 1 4) 6 1)
def jka_248 : jx_H := ju_z jka_247 35 4
def jka_249 : jx_H := ju_M jka_248 1 4 (va_up (jh_M jka_248 1 4) 7 1)
def jka_250 : jx_H := ju_z jka_249 36 4
def jka_251 : jx_H := ju_M jka_250 1 4 (va_up (jh_M jka_250 1 4) 8 1)
def jka_252 : jx_H := ju_M jka_251 3 0 (va_up (jh_M jka_251 3 0) 0 1)
def jka_253 : jx_H := ju_M jka_252 3 0 (va_up (jh_M jka_252 3 0) 1 1)
def jka_254 : jx_H := ju_z jka_253 45 0
def jka_255 : jx_H := ju_M jka_254 3 0 (va_up (jh_M jka_254 3 0) 2 1)
def jka_256 : jx_H := ju_z jka_255 46 0
def jka_257 : jx_H := ju_M jka_256 3 0 (va_up (jh_M jka_256 3 0) 3 1)
def jka_258 : jx_H := ju_z jka_257 47 0
def jka_259 : jx_H := ju_M jka_258 3 0 (va_up (jh_M jka_258 3 0) 4 1)
def jka_260 : jx_H := ju_M jka_259 10 0 (va_up (jh_M jka_259 10 0) 7 1)
def jka_261 : jx_H := ju_z jka_260 0 0
def jka_262 : jx_H := ju_z jka_261 48 0
def jka_263 : jx_H := ju_M jka_262 0 0 (va_up (jh_M jka_262 0 0) 0 1)
def jka_264 : jx_H := ju_z jka_263 49 0
def jka_265 : jx_H := ju_M jka_264 0 0 (va_up (jh_M jka_264 0 0) 1 1)
def jka_266 : jx_H := ju_z jka_265 50 0
def jka_267 : jx_H := ju_M jka_266 0 0 (va_up (jh_M jka_266 0 0) 2 1)
def jka_268 : jx_H := ju_z jka_267 51 0
def jka_269 : jx_H := ju_M jka_268 0 0 (va_up (jh_M jka_268 0 0) 3 1)
def jka_270 : jx_H := ju_M jka_269 10 0 (va_up (jh_M jka_269 10 0) 8 1)
def jka_271 : jx_H := ju_z jka_270 4 0
def jka_272 : jx_H := ju_z jka_271 52 0
def jka_273 : jx_H := ju_M jka_272 4 0 (va_up (jh_M jka_272 4 0) 0 1)
def jka_274 : jx_H := ju_z jka_273 53 0
def jka_275 : jx_H := ju_M jka_274 4 0 (va_up (jh_M jka_274 4 0) 1 1)
def jka_276 : jx_H := ju_z jka_275 54 0
def jka_277 : jx_H := ju_M jka_276 4 0 (va_up (jh_M jka_276 4 0) 2 1)
def jka_278 : jx_H := ju_z jka_277 55 0
def jka_279 : jx_H := ju_M jka_278 4 0 (va_up (jh_M jka_278 4 0) 3 1)
def jka_280 : jx_H := ju_z jka_279 56 0
def jka_281 : jx_H := ju_M jka_280 4 0 (va_up (jh_M jka_280 4 0) 5 1)
def jka_282 : jx_H := ju_z jka_281 57 0
def jka_283 : jx_H := ju_z jka_282 58 0
def jka_284 : jx_H := ju_z jka_283 58 1
def jka_285 : jx_H := ju_z jka_284 58 2
def jka_286 : jx_H := ju_z jka_285 58 3
def jka_287 : jx_H := ju_z jka_286 58 4
def jka_288 : jx_H := ju_z jka_287 58 5
def jka_289 : jx_H := ju_M jka_288 57 0 (fun j => if j < 6 then 1 else 0)
def jka_290 : jx_H := ju_M jka_289 4 0 (va_up (jh_M jka_289 4 0) 8 1)
def jka_291 : jx_H := ju_z jka_290 59 0
def jka_292 : jx_H := ju_z jka_291 60 0
def jka_293 : jx_H := ju_z jka_292 60 1
def jka_294 : jx_H := ju_z jka_293 60 2
def jka_295 : jx_H := ju_z jka_294 60 3
def jka_296 : jx_H := ju_z jka_295 60 4
def jka_297 : jx_H := ju_z jka_296 60 5
def jka_298 : jx_H := ju_M jka_297 59 0 (fun j => if j < 6 then 1 else 0)
def jka_299 : jx_H := ju_M jka_298 4 0 (va_up (jh_M jka_298 4 0) 9 1)
def jka_300 : jx_H := ju_M jka_299 10 0 (va_up (jh_M jka_299 10 0) 9 1)
def jka_301 : jx_H := ju_z jka_300 63 0
def jka_302 : jx_H := ju_M jka_301 10 0 (va_up (jh_M jka_301 10 0) 10 1)
def jka_303 : jx_H := ju_I jka_302 10 0 (upd (jh_I jka_302 10 0) 16 (-1))
theorem jka_q0 : (jx_cells 0)[jh_n jka_0]? = some (9, 0) := by decide +kernel
theorem jka_q1 : (jx_cells 0)[jh_n jka_1]? = some (16, 0) := by decide +kernel
theorem jka_q3 : (jx_cells 0)[jh_n jka_3]? = some (17, 0) := by decide +kernel
theorem jka_q5 : (jx_cells 0)[jh_n jka_5]? = some (18, 0) := by decide +kernel
theorem jka_q7 : (jx_cells 0)[jh_n jka_7]? = some (19, 0) := by decide +kernel
theorem jka_q9 : (jx_cells 0)[jh_n jka_9]? = some (20, 0) := by decide +kernel
set_option maxHeartbeats 4000000 in
set_option maxRecDepth 100000 in
theorem ek_Tape_init_1 {d : Nat} {Q : Option jx_V → jx_H → Prop} (hQ : Q none jka_12) : jx_Ev jm_Tape_init (d + 11) 5 6832 true 0 [jv_r 9 0] jka_1 Q := by
  show jx_W (jm_Tape_init, d + 11, 5, 6832, true, 0, _) Q 0 0 0 [some (jv_r 9 0), none, none, none, none, none] [] jka_1
  refine jr_aload rfl rfl ?_
  refine jr_objI rfl rfl (Nat.succ_le_succ (Nat.zero_le _)) rfl ?_
  refine jr_aload rfl rfl ?_
  refine jr_ic rfl ?_
  refine jr_newa (a := 16) (len := 1700) rfl rfl (by decide) rfl (Nat.le_of_ble_eq_true rfl) (show _ = nI 1700 from rfl) jka_q1 (Nat.le_of_ble_eq_true rfl) (Nat.le_of_ble_eq_true rfl) ?_
  show jx_W _ _ 1 1700 _ _ _ jka_2
  refine jr_putR rfl rfl rfl rfl rfl rfl rfl ?_
  show jx_W _ _ 1 1700 _ _ _ jka_3
  refine jr_aload rfl rfl ?_
  refine jr_ic rfl ?_
  refine jr_newa (a := 17) (len := 29) rfl rfl (by decide) rfl (Nat.le_of_ble_eq_true rfl) (show _ = nI 29 from rfl) jka_q3 (Nat.le_of_ble_eq_true rfl) (Nat.le_of_ble_eq_true rfl) ?_
  show jx_W _ _ 2 1729 _ _ _ jka_4
  refine jr_putR rfl rfl rfl rfl rfl rfl rfl ?_
  show jx_W _ _ 2 1729 _ _ _ jka_5
  refine jr_aload rfl rfl ?_
  refine jr_ic rfl ?_
  refine jr_newa (a := 18) (len := 1701) rfl rfl (by decide) rfl (Nat.le_of_ble_eq_true rfl) (show _ = nI 1701 from rfl) jka_q5 (Nat.le_of_ble_eq_true rfl) (Nat.le_of_ble_eq_true rfl) ?_
  show jx_W _ _ 3 3430 _ _ _ jka_6
  refine jr_putR rfl rfl rfl rfl rfl rfl rfl ?_
  show jx_W _ _ 3 3430 _ _ _ jka_7
  refine jr_aload rfl rfl ?_
  refine jr_ic rfl ?_
  refine jr_newa (a := 19) (len := 1701) rfl rfl (by decide) rfl (Nat.le_of_ble_eq_true rfl) (show _ = nI 1701 from rfl) jka_q7 (Nat.le_of_ble_eq_true rfl) (Nat.le_of_ble_eq_true rfl) ?_
  show jx_W _ _ 4 5131 _ _ _ jka_8
  refine jr_putR rfl rfl rfl rfl rfl rfl rfl ?_
  show jx_W _ _ 4 5131 _ _ _ jka_9
  refine jr_aload rfl rfl ?_
  refine jr_ic rfl ?_
  refine jr_newa (a := 20) (len := 1701) rfl rfl (by decide) rfl (Nat.le_of_ble_eq_true rfl) (show _ = nI 1701 from rfl) jka_q9 (Nat.le_of_ble_eq_true rfl) (Nat.le_of_ble_eq_true rfl) ?_
  show jx_W _ _ 5 6832 _ _ _ jka_10
  refine jr_putR rfl rfl rfl rfl rfl rfl rfl ?_
  show jx_W _ _ 5 6832 _ _ _ jka_11
  refine jr_ic rfl ?_
  refine jr_ist1 rfl rfl ?_
  refine jr_lc rfl ?_
  refine jr_lst2 rfl rfl ?_
  refine jr_ic rfl ?_
  refine jr_ist4 rfl rfl ?_
  exact lp_words0 (Nat.le_of_ble_eq_true rfl) (Nat.le_of_ble_eq_true rfl) (by decide +kernel) hQ

theorem jka_q13 : (jx_cells 0)[jh_n jka_13]? = some (7, 0) := by decide +kernel
theorem jka_q14 : (jx_cells 0)[jh_n jka_14]? = some (21, 0) := by decide +kernel
theorem jka_q16 : (jx_cells 0)[jh_n jka_16]? = some (22, 0) := by decide +kernel
theorem jka_q18 : (jx_cells 0)[jh_n jka_18]? = some (23, 0) := by decide +kernel
theorem jka_q20 : (jx_cells 0)[jh_n jka_20]? = some (24, 0) := by decide +kernel
theorem jka_q22 : (jx_cells 0)[jh_n jka_22]? = some (2, 0) := by decide +kernel
theorem jka_q24 : (jx_cells 0)[jh_n jka_24]? = some (2, 1) := by decide +kernel
theorem jka_q26 : (jx_cells 0)[jh_n jka_26]? = some (2, 2) := by decide +kernel
theorem jka_q28 : (jx_cells 0)[jh_n jka_28]? = some (2, 3) := by decide +kernel
theorem jka_q30 : (jx_cells 0)[jh_n jka_30]? = some (2, 4) := by decide +kernel
theorem jka_q32 : (jx_cells 0)[jh_n jka_32]? = some (2, 5) := by decide +kernel
theorem jka_q34 : (jx_cells 0)[jh_n jka_34]? = some (2, 6) := by decide +kernel
theorem jka_q36 : (jx_cells 0)[jh_n jka_36]? = some (2, 7) := by decide +kernel
theorem jka_q38 : (jx_cells 0)[jh_n jka_38]? = some (2, 8) := by decide +kernel
theorem jka_q40 : (jx_cells 0)[jh_n jka_40]? = some (2, 9) := by decide +kernel
theorem jka_q42 : (jx_cells 0)[jh_n jka_42]? = some (2, 10) := by decide +kernel
theorem jka_q44 : (jx_cells 0)[jh_n jka_44]? = some (2, 11) := by decide +kernel
theorem jka_q46 : (jx_cells 0)[jh_n jka_46]? = some (25, 0) := by decide +kernel
theorem jka_q48 : (jx_cells 0)[jh_n jka_48]? = some (26, 0) := by decide +kernel
theorem jka_q50 : (jx_cells 0)[jh_n jka_50]? = some (27, 0) := by decide +kernel
set_option maxHeartbeats 4000000 in
set_option maxRecDepth 100000 in
theorem ek_Rep_clear_1 {d : Nat} {Q : Option jx_V → jx_H → Prop} (hQ : Q none jka_75) : jx_Ev jm_Rep_clear (d + 10) 0 0 true 0 [jv_r 7 0] jka_52 Q := by
  show jx_W (jm_Rep_clear, d + 10, 0, 0, true, 0, _) Q 0 0 0 [some (jv_r 7 0), none] [] jka_52
  refine jr_aload rfl rfl ?_
  refine jr_ic rfl ?_
  refine jr_putI rfl rfl ?_
  show jx_W _ _ 0 0 _ _ _ jka_53
  refine jr_aload rfl rfl ?_
  refine jr_ic rfl ?_
  refine jr_putI rfl rfl ?_
  show jx_W _ _ 0 0 _ _ _ jka_54
  refine jr_aload rfl rfl ?_
  refine jr_ic rfl ?_
  refine jr_putI rfl rfl ?_
  show jx_W _ _ 0 0 _ _ _ jka_55
  refine jr_aload rfl rfl ?_
  refine jr_ic rfl ?_
  refine jr_putI rfl rfl ?_
  show jx_W _ _ 0 0 _ _ _ jka_56
  refine jr_aload rfl rfl ?_
  refine jr_ic rfl ?_
  refine jr_putI rfl rfl ?_
  show jx_W _ _ 0 0 _ _ _ jka_57
  refine jr_aload rfl rfl ?_
  refine jr_ic rfl ?_
  refine jr_putI rfl rfl ?_
  show jx_W _ _ 0 0 _ _ _ jka_58
  refine jr_aload rfl rfl ?_
  refine jr_ic rfl ?_
  refine jr_putI rfl rfl ?_
  show jx_W _ _ 0 0 _ _ _ jka_59
  refine jr_aload rfl rfl ?_
  refine jr_ic rfl ?_
  refine jr_putZ rfl rfl (Or.inl rfl) ?_
  show jx_W _ _ 0 0 _ _ _ jka_60
  refine jr_aload rfl rfl ?_
  refine jr_ic rfl ?_
  refine jr_putI rfl rfl ?_
  show jx_W _ _ 0 0 _ _ _ jka_61
  refine jr_aload rfl rfl ?_
  refine jr_ic rfl ?_
  refine jr_putZ rfl rfl (Or.inl rfl) ?_
  show jx_W _ _ 0 0 _ _ _ jka_62
  refine jr_aload rfl rfl ?_
  refine jr_ic rfl ?_
  refine jr_putI rfl rfl ?_
  show jx_W _ _ 0 0 _ _ _ jka_63
  refine jr_ic rfl ?_
  refine jr_ist1 rfl rfl ?_
  refine jr_iload rfl rfl ?_
  refine jr_aload rfl rfl ?_
  refine jr_getR rfl rfl rfl rfl (Or.inr (by decide +kernel)) ?_
  refine jr_alen (so := 1) (len := 6) rfl rfl rfl rfl ?_
  refine jr_icmp_ge rfl (fun z => absurd z (by decide +kernel)) (fun _ => ?_)
  refine jr_iload rfl rfl ?_
  refine jr_aload rfl rfl ?_
  refine jr_getR rfl rfl rfl rfl (Or.inr (by decide +kernel)) ?_
  refine jr_alen (so := 1) (len := 6) rfl rfl rfl rfl ?_
  refine jr_icmp_ge rfl (fun z => absurd z (by decide +kernel)) (fun _ => ?_)
  refine jr_aload rfl rfl ?_
  refine jr_getR rfl rfl rfl rfl (Or.inr (by decide +kernel)) ?_
  refine jr_iload rfl rfl ?_
  refine jr_ic rfl ?_
  refine jr_iast (len := 6) rfl rfl (show _ = nI 0 from rfl) (Nat.le_of_ble_eq_true rfl) ?_
  show jx_W _ _ 0 0 _ _ _ jka_64
  refine jr_aload rfl rfl ?_
  refine jr_getR rfl rfl rfl rfl (Or.inr (by decide +kernel)) ?_
  refine jr_iload rfl rfl ?_
  refine jr_ic rfl ?_
  refine jr_iast (len := 6) rfl rfl (show _ = nI 0 from rfl) (Nat.le_of_ble_eq_true rfl) ?_
  show jx_W _ _ 0 0 _ _ _ jka_65
  refine jr_iinc1 rfl rfl ?_
  refine jr_goto rfl ?_
  refine jr_iload rfl rfl ?_
  refine jr_aload rfl rfl ?_
  refine jr_getR rfl rfl rfl rfl (Or.inr (by decide +kernel)) ?_
  refine jr_alen (so := 1) (len := 6) rfl rfl rfl rfl ?_
  refine jr_icmp_ge rfl (fun z => absurd z (by decide +kernel)) (fun _ => ?_)
  refine jr_iload rfl rfl ?_
  refine jr_aload rfl rfl ?_
  refine jr_getR rfl rfl rfl rfl (Or.inr (by decide +kernel)) ?_
  refine jr_alen (so := 1) (len := 6) rfl rfl rfl rfl ?_
  refine jr_icmp_ge rfl (fun z => absurd z (by decide +kernel)) (fun _ => ?_)
  refine jr_aload rfl rfl ?_
  refine jr_getR rfl rfl rfl rfl (Or.inr (by decide +kernel)) ?_
  refine jr_iload rfl rfl ?_
  refine jr_ic rfl ?_
  refine jr_iast (len := 6) rfl rfl (show _ = nI 1 from rfl) (Nat.le_of_ble_eq_true rfl) ?_
  show jx_W _ _ 0 0 _ _ _ jka_66
  refine jr_aload rfl rfl ?_
  refine jr_getR rfl rfl rfl rfl (Or.inr (by decide +kernel)) ?_
  refine jr_iload rfl rfl ?_
  refine jr_ic rfl ?_
  refine jr_iast (len := 6) rfl rfl (show _ = nI 1 from rfl) (Nat.le_of_ble_eq_true rfl) ?_
  show jx_W _ _ 0 0 _ _ _ jka_67
  refine jr_iinc1 rfl rfl ?_
  refine jr_goto rfl ?_
  refine jr_iload rfl rfl ?_
  refine jr_aload rfl rfl ?_
  refine jr_getR rfl rfl rfl rfl (Or.inr (by decide +kernel)) ?_
  refine jr_alen (so := 1) (len := 6) rfl rfl rfl rfl ?_
  refine jr_icmp_ge rfl (fun z => absurd z (by decide +kernel)) (fun _ => ?_)
  refine jr_iload rfl rfl ?_
  refine jr_aload rfl rfl ?_
  refine jr_getR rfl rfl rfl rfl (Or.inr (by decide +kernel)) ?_
  refine jr_alen (so := 1) (len := 6) rfl rfl rfl rfl ?_
  refine jr_icmp_ge rfl (fun z => absurd z (by decide +kernel)) (fun _ => ?_)
  refine jr_aload rfl rfl ?_
  refine jr_getR rfl rfl rfl rfl (Or.inr (by decide +kernel)) ?_
  refine jr_iload rfl rfl ?_
  refine jr_ic rfl ?_
  refine jr_iast (len := 6) rfl rfl (show _ = nI 2 from rfl) (Nat.le_of_ble_eq_true rfl) ?_
  show jx_W _ _ 0 0 _ _ _ jka_68
  refine jr_aload rfl rfl ?_
  refine jr_getR rfl rfl rfl rfl (Or.inr (by decide +kernel)) ?_
  refine jr_iload rfl rfl ?_
  refine jr_ic rfl ?_
  refine jr_iast (len := 6) rfl rfl (show _ = nI 2 from rfl) (Nat.le_of_ble_eq_true rfl) ?_
  show jx_W _ _ 0 0 _ _ _ jka_69
  refine jr_iinc1 rfl rfl ?_
  refine jr_goto rfl ?_
  refine jr_iload rfl rfl ?_
  refine jr_aload rfl rfl ?_
  refine jr_getR rfl rfl rfl rfl (Or.inr (by decide +kernel)) ?_
  refine jr_alen (so := 1) (len := 6) rfl rfl rfl rfl ?_
  refine jr_icmp_ge rfl (fun z => absurd z (by decide +kernel)) (fun _ => ?_)
  refine jr_iload rfl rfl ?_
  refine jr_aload rfl rfl ?_
  refine jr_getR rfl rfl rfl rfl (Or.inr (by decide +kernel)) ?_
  refine jr_alen (so := 1) (len := 6) rfl rfl rfl rfl ?_
  refine jr_icmp_ge rfl (fun z => absurd z (by decide +kernel)) (fun _ => ?_)
  refine jr_aload rfl rfl ?_
  refine jr_getR rfl rfl rfl rfl (Or.inr (by decide +kernel)) ?_
  refine jr_iload rfl rfl ?_
  refine jr_ic rfl ?_
  refine jr_iast (len := 6) rfl rfl (show _ = nI 3 from rfl) (Nat.le_of_ble_eq_true rfl) ?_
  show jx_W _ _ 0 0 _ _ _ jka_70
  refine jr_aload rfl rfl ?_
  refine jr_getR rfl rfl rfl rfl (Or.inr (by decide +kernel)) ?_
  refine jr_iload rfl rfl ?_
  refine jr_ic rfl ?_
  refine jr_iast (len := 6) rfl rfl (show _ = nI 3 from rfl) (Nat.le_of_ble_eq_true rfl) ?_
  show jx_W _ _ 0 0 _ _ _ jka_71
  refine jr_iinc1 rfl rfl ?_
  refine jr_goto rfl ?_
  refine jr_iload rfl rfl ?_
  refine jr_aload rfl rfl ?_
  refine jr_getR rfl rfl rfl rfl (Or.inr (by decide +kernel)) ?_
  refine jr_alen (so := 1) (len := 6) rfl rfl rfl rfl ?_
  refine jr_icmp_ge rfl (fun z => absurd z (by decide +kernel)) (fun _ => ?_)
  refine jr_iload rfl rfl ?_
  refine jr_aload rfl rfl ?_
  refine jr_getR rfl rfl rfl rfl (Or.inr (by decide +kernel)) ?_
  refine jr_alen (so := 1) (len := 6) rfl rfl rfl rfl ?_
  refine jr_icmp_ge rfl (fun z => absurd z (by decide +kernel)) (fun _ => ?_)
  refine jr_aload rfl rfl ?_
  refine jr_getR rfl rfl rfl rfl (Or.inr (by decide +kernel)) ?_
  refine jr_iload rfl rfl ?_
  refine jr_ic rfl ?_
  refine jr_iast (len := 6) rfl rfl (show _ = nI 4 from rfl) (Nat.le_of_ble_eq_true rfl) ?_
  show jx_W _ _ 0 0 _ _ _ jka_72
  refine jr_aload rfl rfl ?_
  refine jr_getR rfl rfl rfl rfl (Or.inr (by decide +kernel)) ?_
  refine jr_iload rfl rfl ?_
  refine jr_ic rfl ?_
  refine jr_iast (len := 6) rfl rfl (show _ = nI 4 from rfl) (Nat.le_of_ble_eq_true rfl) ?_
  show jx_W _ _ 0 0 _ _ _ jka_73
  refine jr_iinc1 rfl rfl ?_
  refine jr_goto rfl ?_
  refine jr_iload rfl rfl ?_
  refine jr_aload rfl rfl ?_
  refine jr_getR rfl rfl rfl rfl (Or.inr (by decide +kernel)) ?_
  refine jr_alen (so := 1) (len := 6) rfl rfl rfl rfl ?_
  refine jr_icmp_ge rfl (fun z => absurd z (by decide +kernel)) (fun _ => ?_)
  refine jr_iload rfl rfl ?_
  refine jr_aload rfl rfl ?_
  refine jr_getR rfl rfl rfl rfl (Or.inr (by decide +kernel)) ?_
  refine jr_alen (so := 1) (len := 6) rfl rfl rfl rfl ?_
  refine jr_icmp_ge rfl (fun z => absurd z (by decide +kernel)) (fun _ => ?_)
  refine jr_aload rfl rfl ?_
  refine jr_getR rfl rfl rfl rfl (Or.inr (by decide +kernel)) ?_
  refine jr_iload rfl rfl ?_
  refine jr_ic rfl ?_
  refine jr_iast (len := 6) rfl rfl (show _ = nI 5 from rfl) (Nat.le_of_ble_eq_true rfl) ?_
  show jx_W _ _ 0 0 _ _ _ jka_74
  refine jr_aload rfl rfl ?_
  refine jr_getR rfl rfl rfl rfl (Or.inr (by decide +kernel)) ?_
  refine jr_iload rfl rfl ?_
  refine jr_ic rfl ?_
  refine jr_iast (len := 6) rfl rfl (show _ = nI 5 from rfl) (Nat.le_of_ble_eq_true rfl) ?_
  show jx_W _ _ 0 0 _ _ _ jka_75
  refine jr_iinc1 rfl rfl ?_
  refine jr_goto rfl ?_
  refine jr_iload rfl rfl ?_
  refine jr_aload rfl rfl ?_
  refine jr_getR rfl rfl rfl rfl (Or.inr (by decide +kernel)) ?_
  refine jr_alen (so := 1) (len := 6) rfl rfl rfl rfl ?_
  refine jr_icmp_ge rfl (fun _ => ?_) (fun z => absurd (by decide +kernel) z)
  exact jr_vret rfl rfl (Nat.le_of_ble_eq_true rfl) (Nat.le_of_ble_eq_true rfl) hQ

set_option maxHeartbeats 4000000 in
set_option maxRecDepth 100000 in
theorem ek_Rep_init_1 {d : Nat} {Q : Option jx_V → jx_H → Prop} (hQ : Q none jka_75) : jx_Ev jm_Rep_init (d + 11) 19 1813 true 0 [jv_r 7 0] jka_14 Q := by
  show jx_W (jm_Rep_init, d + 11, 19, 1813, true, 0, _) Q 0 0 0 [some (jv_r 7 0), none] [] jka_14
  refine jr_aload rfl rfl ?_
  refine jr_objI rfl rfl (Nat.succ_le_succ (Nat.zero_le _)) rfl ?_
  refine jr_aload rfl rfl ?_
  refine jr_ic rfl ?_
  refine jr_newa (a := 21) (len := 6) rfl rfl (by decide) rfl (Nat.le_of_ble_eq_true rfl) (show _ = nI 6 from rfl) jka_q14 (Nat.le_of_ble_eq_true rfl) (Nat.le_of_ble_eq_true rfl) ?_
  show jx_W _ _ 1 6 _ _ _ jka_15
  refine jr_putR rfl rfl rfl rfl rfl rfl rfl ?_
  show jx_W _ _ 1 6 _ _ _ jka_16
  refine jr_aload rfl rfl ?_
  refine jr_ic rfl ?_
  refine jr_newa (a := 22) (len := 6) rfl rfl (by decide) rfl (Nat.le_of_ble_eq_true rfl) (show _ = nI 6 from rfl) jka_q16 (Nat.le_of_ble_eq_true rfl) (Nat.le_of_ble_eq_true rfl) ?_
  show jx_W _ _ 2 12 _ _ _ jka_17
  refine jr_putR rfl rfl rfl rfl rfl rfl rfl ?_
  show jx_W _ _ 2 12 _ _ _ jka_18
  refine jr_aload rfl rfl ?_
  refine jr_ic rfl ?_
  refine jr_newa (a := 23) (len := 5) rfl rfl (by decide) rfl (Nat.le_of_ble_eq_true rfl) (show _ = nI 5 from rfl) jka_q18 (Nat.le_of_ble_eq_true rfl) (Nat.le_of_ble_eq_true rfl) ?_
  show jx_W _ _ 3 17 _ _ _ jka_19
  refine jr_putR rfl rfl rfl rfl rfl rfl rfl ?_
  show jx_W _ _ 3 17 _ _ _ jka_20
  refine jr_aload rfl rfl ?_
  refine jr_ic rfl ?_
  refine jr_anew (a := 24) (so := 5) (len := 12) rfl rfl (by decide) rfl (Nat.le_of_ble_eq_true rfl) (show _ = nI 12 from rfl) jka_q20 (Nat.le_of_ble_eq_true rfl) (Nat.le_of_ble_eq_true rfl) ?_
  show jx_W _ _ 4 29 _ _ _ jka_21
  refine jr_putR rfl rfl rfl rfl rfl rfl rfl ?_
  show jx_W _ _ 4 29 _ _ _ jka_22
  refine jr_ic rfl ?_
  refine jr_ist1 rfl rfl ?_
  refine jr_iload rfl rfl ?_
  refine jr_ic rfl ?_
  refine jr_icmp_ge rfl (fun z => absurd z (by decide +kernel)) (fun _ => ?_)
  refine jr_aload rfl rfl ?_
  refine jr_getR rfl rfl rfl rfl (Or.inr (by decide +kernel)) ?_
  refine jr_iload rfl rfl ?_
  refine jr_new rfl rfl (by decide) jka_q22 (Nat.le_of_ble_eq_true rfl) (Nat.le_of_ble_eq_true rfl) ?_
  show jx_W _ _ 5 35 _ _ _ jka_23
  refine jr_dup_r rfl ?_
  refine jr_ci0 (mc' := 0) (ms' := 0) rfl jm_Due_init_n jm_Due_init_f rfl rfl rfl rfl rfl rfl rfl (Nat.le_of_ble_eq_true rfl) (Nat.le_of_ble_eq_true rfl) ?_
  refine ek_Due ?_
  show jx_W _ _ 5 35 _ _ _ jka_23
  refine jr_aast (so := 5) (len := 12) rfl rfl (by decide) rfl rfl (show _ = nI 0 from rfl) (Nat.le_of_ble_eq_true rfl) ?_
  show jx_W _ _ 5 35 _ _ _ jka_24
  refine jr_iinc1 rfl rfl ?_
  refine jr_goto rfl ?_
  refine jr_iload rfl rfl ?_
  refine jr_ic rfl ?_
  refine jr_icmp_ge rfl (fun z => absurd z (by decide +kernel)) (fun _ => ?_)
  refine jr_aload rfl rfl ?_
  refine jr_getR rfl rfl rfl rfl (Or.inr (by decide +kernel)) ?_
  refine jr_iload rfl rfl ?_
  refine jr_new rfl rfl (by decide) jka_q24 (Nat.le_of_ble_eq_true rfl) (Nat.le_of_ble_eq_true rfl) ?_
  show jx_W _ _ 6 41 _ _ _ jka_25
  refine jr_dup_r rfl ?_
  refine jr_ci0 (mc' := 0) (ms' := 0) rfl jm_Due_init_n jm_Due_init_f rfl rfl rfl rfl rfl rfl rfl (Nat.le_of_ble_eq_true rfl) (Nat.le_of_ble_eq_true rfl) ?_
  refine ek_Due ?_
  show jx_W _ _ 6 41 _ _ _ jka_25
  refine jr_aast (so := 5) (len := 12) rfl rfl (by decide) rfl rfl (show _ = nI 1 from rfl) (Nat.le_of_ble_eq_true rfl) ?_
  show jx_W _ _ 6 41 _ _ _ jka_26
  refine jr_iinc1 rfl rfl ?_
  refine jr_goto rfl ?_
  refine jr_iload rfl rfl ?_
  refine jr_ic rfl ?_
  refine jr_icmp_ge rfl (fun z => absurd z (by decide +kernel)) (fun _ => ?_)
  refine jr_aload rfl rfl ?_
  refine jr_getR rfl rfl rfl rfl (Or.inr (by decide +kernel)) ?_
  refine jr_iload rfl rfl ?_
  refine jr_new rfl rfl (by decide) jka_q26 (Nat.le_of_ble_eq_true rfl) (Nat.le_of_ble_eq_true rfl) ?_
  show jx_W _ _ 7 47 _ _ _ jka_27
  refine jr_dup_r rfl ?_
  refine jr_ci0 (mc' := 0) (ms' := 0) rfl jm_Due_init_n jm_Due_init_f rfl rfl rfl rfl rfl rfl rfl (Nat.le_of_ble_eq_true rfl) (Nat.le_of_ble_eq_true rfl) ?_
  refine ek_Due ?_
  show jx_W _ _ 7 47 _ _ _ jka_27
  refine jr_aast (so := 5) (len := 12) rfl rfl (by decide) rfl rfl (show _ = nI 2 from rfl) (Nat.le_of_ble_eq_true rfl) ?_
  show jx_W _ _ 7 47 _ _ _ jka_28
  refine jr_iinc1 rfl rfl ?_
  refine jr_goto rfl ?_
  refine jr_iload rfl rfl ?_
  refine jr_ic rfl ?_
  refine jr_icmp_ge rfl (fun z => absurd z (by decide +kernel)) (fun _ => ?_)
  refine jr_aload rfl rfl ?_
  refine jr_getR rfl rfl rfl rfl (Or.inr (by decide +kernel)) ?_
  refine jr_iload rfl rfl ?_
  refine jr_new rfl rfl (by decide) jka_q28 (Nat.le_of_ble_eq_true rfl) (Nat.le_of_ble_eq_true rfl) ?_
  show jx_W _ _ 8 53 _ _ _ jka_29
  refine jr_dup_r rfl ?_
  refine jr_ci0 (mc' := 0) (ms' := 0) rfl jm_Due_init_n jm_Due_init_f rfl rfl rfl rfl rfl rfl rfl (Nat.le_of_ble_eq_true rfl) (Nat.le_of_ble_eq_true rfl) ?_
  refine ek_Due ?_
  show jx_W _ _ 8 53 _ _ _ jka_29
  refine jr_aast (so := 5) (len := 12) rfl rfl (by decide) rfl rfl (show _ = nI 3 from rfl) (Nat.le_of_ble_eq_true rfl) ?_
  show jx_W _ _ 8 53 _ _ _ jka_30
  refine jr_iinc1 rfl rfl ?_
  refine jr_goto rfl ?_
  refine jr_iload rfl rfl ?_
  refine jr_ic rfl ?_
  refine jr_icmp_ge rfl (fun z => absurd z (by decide +kernel)) (fun _ => ?_)
  refine jr_aload rfl rfl ?_
  refine jr_getR rfl rfl rfl rfl (Or.inr (by decide +kernel)) ?_
  refine jr_iload rfl rfl ?_
  refine jr_new rfl rfl (by decide) jka_q30 (Nat.le_of_ble_eq_true rfl) (Nat.le_of_ble_eq_true rfl) ?_
  show jx_W _ _ 9 59 _ _ _ jka_31
  refine jr_dup_r rfl ?_
  refine jr_ci0 (mc' := 0) (ms' := 0) rfl jm_Due_init_n jm_Due_init_f rfl rfl rfl rfl rfl rfl rfl (Nat.le_of_ble_eq_true rfl) (Nat.le_of_ble_eq_true rfl) ?_
  refine ek_Due ?_
  show jx_W _ _ 9 59 _ _ _ jka_31
  refine jr_aast (so := 5) (len := 12) rfl rfl (by decide) rfl rfl (show _ = nI 4 from rfl) (Nat.le_of_ble_eq_true rfl) ?_
  show jx_W _ _ 9 59 _ _ _ jka_32
  refine jr_iinc1 rfl rfl ?_
  refine jr_goto rfl ?_
  refine jr_iload rfl rfl ?_
  refine jr_ic rfl ?_
  refine jr_icmp_ge rfl (fun z => absurd z (by decide +kernel)) (fun _ => ?_)
  refine jr_aload rfl rfl ?_
  refine jr_getR rfl rfl rfl rfl (Or.inr (by decide +kernel)) ?_
  refine jr_iload rfl rfl ?_
  refine jr_new rfl rfl (by decide) jka_q32 (Nat.le_of_ble_eq_true rfl) (Nat.le_of_ble_eq_true rfl) ?_
  show jx_W _ _ 10 65 _ _ _ jka_33
  refine jr_dup_r rfl ?_
  refine jr_ci0 (mc' := 0) (ms' := 0) rfl jm_Due_init_n jm_Due_init_f rfl rfl rfl rfl rfl rfl rfl (Nat.le_of_ble_eq_true rfl) (Nat.le_of_ble_eq_true rfl) ?_
  refine ek_Due ?_
  show jx_W _ _ 10 65 _ _ _ jka_33
  refine jr_aast (so := 5) (len := 12) rfl rfl (by decide) rfl rfl (show _ = nI 5 from rfl) (Nat.le_of_ble_eq_true rfl) ?_
  show jx_W _ _ 10 65 _ _ _ jka_34
  refine jr_iinc1 rfl rfl ?_
  refine jr_goto rfl ?_
  refine jr_iload rfl rfl ?_
  refine jr_ic rfl ?_
  refine jr_icmp_ge rfl (fun z => absurd z (by decide +kernel)) (fun _ => ?_)
  refine jr_aload rfl rfl ?_
  refine jr_getR rfl rfl rfl rfl (Or.inr (by decide +kernel)) ?_
  refine jr_iload rfl rfl ?_
  refine jr_new rfl rfl (by decide) jka_q34 (Nat.le_of_ble_eq_true rfl) (Nat.le_of_ble_eq_true rfl) ?_
  show jx_W _ _ 11 71 _ _ _ jka_35
  refine jr_dup_r rfl ?_
  refine jr_ci0 (mc' := 0) (ms' := 0) rfl jm_Due_init_n jm_Due_init_f rfl rfl rfl rfl rfl rfl rfl (Nat.le_of_ble_eq_true rfl) (Nat.le_of_ble_eq_true rfl) ?_
  refine ek_Due ?_
  show jx_W _ _ 11 71 _ _ _ jka_35
  refine jr_aast (so := 5) (len := 12) rfl rfl (by decide) rfl rfl (show _ = nI 6 from rfl) (Nat.le_of_ble_eq_true rfl) ?_
  show jx_W _ _ 11 71 _ _ _ jka_36
  refine jr_iinc1 rfl rfl ?_
  refine jr_goto rfl ?_
  refine jr_iload rfl rfl ?_
  refine jr_ic rfl ?_
  refine jr_icmp_ge rfl (fun z => absurd z (by decide +kernel)) (fun _ => ?_)
  refine jr_aload rfl rfl ?_
  refine jr_getR rfl rfl rfl rfl (Or.inr (by decide +kernel)) ?_
  refine jr_iload rfl rfl ?_
  refine jr_new rfl rfl (by decide) jka_q36 (Nat.le_of_ble_eq_true rfl) (Nat.le_of_ble_eq_true rfl) ?_
  show jx_W _ _ 12 77 _ _ _ jka_37
  refine jr_dup_r rfl ?_
  refine jr_ci0 (mc' := 0) (ms' := 0) rfl jm_Due_init_n jm_Due_init_f rfl rfl rfl rfl rfl rfl rfl (Nat.le_of_ble_eq_true rfl) (Nat.le_of_ble_eq_true rfl) ?_
  refine ek_Due ?_
  show jx_W _ _ 12 77 _ _ _ jka_37
  refine jr_aast (so := 5) (len := 12) rfl rfl (by decide) rfl rfl (show _ = nI 7 from rfl) (Nat.le_of_ble_eq_true rfl) ?_
  show jx_W _ _ 12 77 _ _ _ jka_38
  refine jr_iinc1 rfl rfl ?_
  refine jr_goto rfl ?_
  refine jr_iload rfl rfl ?_
  refine jr_ic rfl ?_
  refine jr_icmp_ge rfl (fun z => absurd z (by decide +kernel)) (fun _ => ?_)
  refine jr_aload rfl rfl ?_
  refine jr_getR rfl rfl rfl rfl (Or.inr (by decide +kernel)) ?_
  refine jr_iload rfl rfl ?_
  refine jr_new rfl rfl (by decide) jka_q38 (Nat.le_of_ble_eq_true rfl) (Nat.le_of_ble_eq_true rfl) ?_
  show jx_W _ _ 13 83 _ _ _ jka_39
  refine jr_dup_r rfl ?_
  refine jr_ci0 (mc' := 0) (ms' := 0) rfl jm_Due_init_n jm_Due_init_f rfl rfl rfl rfl rfl rfl rfl (Nat.le_of_ble_eq_true rfl) (Nat.le_of_ble_eq_true rfl) ?_
  refine ek_Due ?_
  show jx_W _ _ 13 83 _ _ _ jka_39
  refine jr_aast (so := 5) (len := 12) rfl rfl (by decide) rfl rfl (show _ = nI 8 from rfl) (Nat.le_of_ble_eq_true rfl) ?_
  show jx_W _ _ 13 83 _ _ _ jka_40
  refine jr_iinc1 rfl rfl ?_
  refine jr_goto rfl ?_
  refine jr_iload rfl rfl ?_
  refine jr_ic rfl ?_
  refine jr_icmp_ge rfl (fun z => absurd z (by decide +kernel)) (fun _ => ?_)
  refine jr_aload rfl rfl ?_
  refine jr_getR rfl rfl rfl rfl (Or.inr (by decide +kernel)) ?_
  refine jr_iload rfl rfl ?_
  refine jr_new rfl rfl (by decide) jka_q40 (Nat.le_of_ble_eq_true rfl) (Nat.le_of_ble_eq_true rfl) ?_
  show jx_W _ _ 14 89 _ _ _ jka_41
  refine jr_dup_r rfl ?_
  refine jr_ci0 (mc' := 0) (ms' := 0) rfl jm_Due_init_n jm_Due_init_f rfl rfl rfl rfl rfl rfl rfl (Nat.le_of_ble_eq_true rfl) (Nat.le_of_ble_eq_true rfl) ?_
  refine ek_Due ?_
  show jx_W _ _ 14 89 _ _ _ jka_41
  refine jr_aast (so := 5) (len := 12) rfl rfl (by decide) rfl rfl (show _ = nI 9 from rfl) (Nat.le_of_ble_eq_true rfl) ?_
  show jx_W _ _ 14 89 _ _ _ jka_42
  refine jr_iinc1 rfl rfl ?_
  refine jr_goto rfl ?_
  refine jr_iload rfl rfl ?_
  refine jr_ic rfl ?_
  refine jr_icmp_ge rfl (fun z => absurd z (by decide +kernel)) (fun _ => ?_)
  refine jr_aload rfl rfl ?_
  refine jr_getR rfl rfl rfl rfl (Or.inr (by decide +kernel)) ?_
  refine jr_iload rfl rfl ?_
  refine jr_new rfl rfl (by decide) jka_q42 (Nat.le_of_ble_eq_true rfl) (Nat.le_of_ble_eq_true rfl) ?_
  show jx_W _ _ 15 95 _ _ _ jka_43
  refine jr_dup_r rfl ?_
  refine jr_ci0 (mc' := 0) (ms' := 0) rfl jm_Due_init_n jm_Due_init_f rfl rfl rfl rfl rfl rfl rfl (Nat.le_of_ble_eq_true rfl) (Nat.le_of_ble_eq_true rfl) ?_
  refine ek_Due ?_
  show jx_W _ _ 15 95 _ _ _ jka_43
  refine jr_aast (so := 5) (len := 12) rfl rfl (by decide) rfl rfl (show _ = nI 10 from rfl) (Nat.le_of_ble_eq_true rfl) ?_
  show jx_W _ _ 15 95 _ _ _ jka_44
  refine jr_iinc1 rfl rfl ?_
  refine jr_goto rfl ?_
  refine jr_iload rfl rfl ?_
  refine jr_ic rfl ?_
  refine jr_icmp_ge rfl (fun z => absurd z (by decide +kernel)) (fun _ => ?_)
  refine jr_aload rfl rfl ?_
  refine jr_getR rfl rfl rfl rfl (Or.inr (by decide +kernel)) ?_
  refine jr_iload rfl rfl ?_
  refine jr_new rfl rfl (by decide) jka_q44 (Nat.le_of_ble_eq_true rfl) (Nat.le_of_ble_eq_true rfl) ?_
  show jx_W _ _ 16 101 _ _ _ jka_45
  refine jr_dup_r rfl ?_
  refine jr_ci0 (mc' := 0) (ms' := 0) rfl jm_Due_init_n jm_Due_init_f rfl rfl rfl rfl rfl rfl rfl (Nat.le_of_ble_eq_true rfl) (Nat.le_of_ble_eq_true rfl) ?_
  refine ek_Due ?_
  show jx_W _ _ 16 101 _ _ _ jka_45
  refine jr_aast (so := 5) (len := 12) rfl rfl (by decide) rfl rfl (show _ = nI 11 from rfl) (Nat.le_of_ble_eq_true rfl) ?_
  show jx_W _ _ 16 101 _ _ _ jka_46
  refine jr_iinc1 rfl rfl ?_
  refine jr_goto rfl ?_
  refine jr_iload rfl rfl ?_
  refine jr_ic rfl ?_
  refine jr_icmp_ge rfl (fun _ => ?_) (fun z => absurd (by decide +kernel) z)
  refine jr_aload rfl rfl ?_
  refine jr_ic rfl ?_
  refine jr_newa (a := 25) (len := 1700) rfl rfl (by decide) rfl (Nat.le_of_ble_eq_true rfl) (show _ = nI 1700 from rfl) jka_q46 (Nat.le_of_ble_eq_true rfl) (Nat.le_of_ble_eq_true rfl) ?_
  show jx_W _ _ 17 1801 _ _ _ jka_47
  refine jr_putR rfl rfl rfl rfl rfl rfl rfl ?_
  show jx_W _ _ 17 1801 _ _ _ jka_48
  refine jr_aload rfl rfl ?_
  refine jr_ic rfl ?_
  refine jr_newa (a := 26) (len := 6) rfl rfl (by decide) rfl (Nat.le_of_ble_eq_true rfl) (show _ = nI 6 from rfl) jka_q48 (Nat.le_of_ble_eq_true rfl) (Nat.le_of_ble_eq_true rfl) ?_
  show jx_W _ _ 18 1807 _ _ _ jka_49
  refine jr_putR rfl rfl rfl rfl rfl rfl rfl ?_
  show jx_W _ _ 18 1807 _ _ _ jka_50
  refine jr_aload rfl rfl ?_
  refine jr_ic rfl ?_
  refine jr_newa (a := 27) (len := 6) rfl rfl (by decide) rfl (Nat.le_of_ble_eq_true rfl) (show _ = nI 6 from rfl) jka_q50 (Nat.le_of_ble_eq_true rfl) (Nat.le_of_ble_eq_true rfl) ?_
  show jx_W _ _ 19 1813 _ _ _ jka_51
  refine jr_putR rfl rfl rfl rfl rfl rfl rfl ?_
  show jx_W _ _ 19 1813 _ _ _ jka_52
  refine jr_aload rfl rfl ?_
  refine jr_cv0 (mc' := 0) (ms' := 0) rfl jm_Rep_clear_n jm_Rep_clear_f rfl rfl rfl rfl rfl rfl rfl (Nat.le_of_ble_eq_true rfl) (Nat.le_of_ble_eq_true rfl) ?_
  refine ek_Rep_clear_1 ?_
  show jx_W _ _ 19 1813 _ _ _ jka_75
  exact jr_vret rfl rfl (Nat.le_of_ble_eq_true rfl) (Nat.le_of_ble_eq_true rfl) hQ

theorem jka_q76 : (jx_cells 0)[jh_n jka_76]? = some (7, 1) := by decide +kernel
theorem jka_q77 : (jx_cells 0)[jh_n jka_77]? = some (21, 1) := by decide +kernel
theorem jka_q79 : (jx_cells 0)[jh_n jka_79]? = some (22, 1) := by decide +kernel
theorem jka_q81 : (jx_cells 0)[jh_n jka_81]? = some (23, 1) := by decide +kernel
theorem jka_q83 : (jx_cells 0)[jh_n jka_83]? = some (24, 1) := by decide +kernel
theorem jka_q85 : (jx_cells 0)[jh_n jka_85]? = some (2, 12) := by decide +kernel
theorem jka_q87 : (jx_cells 0)[jh_n jka_87]? = some (2, 13) := by decide +kernel
theorem jka_q89 : (jx_cells 0)[jh_n jka_89]? = some (2, 14) := by decide +kernel
theorem jka_q91 : (jx_cells 0)[jh_n jka_91]? = some (2, 15) := by decide +kernel
theorem jka_q93 : (jx_cells 0)[jh_n jka_93]? = some (2, 16) := by decide +kernel
theorem jka_q95 : (jx_cells 0)[jh_n jka_95]? = some (2, 17) := by decide +kernel
theorem jka_q97 : (jx_cells 0)[jh_n jka_97]? = some (2, 18) := by decide +kernel
theorem jka_q99 : (jx_cells 0)[jh_n jka_99]? = some (2, 19) := by decide +kernel
theorem jka_q101 : (jx_cells 0)[jh_n jka_101]? = some (2, 20) := by decide +kernel
theorem jka_q103 : (jx_cells 0)[jh_n jka_103]? = some (2, 21) := by decide +kernel
theorem jka_q105 : (jx_cells 0)[jh_n jka_105]? = some (2, 22) := by decide +kernel
theorem jka_q107 : (jx_cells 0)[jh_n jka_107]? = some (2, 23) := by decide +kernel
theorem jka_q109 : (jx_cells 0)[jh_n jka_109]? = some (25, 1) := by decide +kernel
theorem jka_q111 : (jx_cells 0)[jh_n jka_111]? = some (26, 1) := by decide +kernel
theorem jka_q113 : (jx_cells 0)[jh_n jka_113]? = some (27, 1) := by decide +kernel
set_option maxHeartbeats 4000000 in
set_option maxRecDepth 100000 in
theorem ek_Rep_clear_2 {d : Nat} {Q : Option jx_V → jx_H → Prop} (hQ : Q none jka_138) : jx_Ev jm_Rep_clear (d + 10) 0 0 true 0 [jv_r 7 1] jka_115 Q := by
  show jx_W (jm_Rep_clear, d + 10, 0, 0, true, 0, _) Q 0 0 0 [some (jv_r 7 1), none] [] jka_115
  refine jr_aload rfl rfl ?_
  refine jr_ic rfl ?_
  refine jr_putI rfl rfl ?_
  show jx_W _ _ 0 0 _ _ _ jka_116
  refine jr_aload rfl rfl ?_
  refine jr_ic rfl ?_
  refine jr_putI rfl rfl ?_
  show jx_W _ _ 0 0 _ _ _ jka_117
  refine jr_aload rfl rfl ?_
  refine jr_ic rfl ?_
  refine jr_putI rfl rfl ?_
  show jx_W _ _ 0 0 _ _ _ jka_118
  refine jr_aload rfl rfl ?_
  refine jr_ic rfl ?_
  refine jr_putI rfl rfl ?_
  show jx_W _ _ 0 0 _ _ _ jka_119
  refine jr_aload rfl rfl ?_
  refine jr_ic rfl ?_
  refine jr_putI rfl rfl ?_
  show jx_W _ _ 0 0 _ _ _ jka_120
  refine jr_aload rfl rfl ?_
  refine jr_ic rfl ?_
  refine jr_putI rfl rfl ?_
  show jx_W _ _ 0 0 _ _ _ jka_121
  refine jr_aload rfl rfl ?_
  refine jr_ic rfl ?_
  refine jr_putI rfl rfl ?_
  show jx_W _ _ 0 0 _ _ _ jka_122
  refine jr_aload rfl rfl ?_
  refine jr_ic rfl ?_
  refine jr_putZ rfl rfl (Or.inl rfl) ?_
  show jx_W _ _ 0 0 _ _ _ jka_123
  refine jr_aload rfl rfl ?_
  refine jr_ic rfl ?_
  refine jr_putI rfl rfl ?_
  show jx_W _ _ 0 0 _ _ _ jka_124
  refine jr_aload rfl rfl ?_
  refine jr_ic rfl ?_
  refine jr_putZ rfl rfl (Or.inl rfl) ?_
  show jx_W _ _ 0 0 _ _ _ jka_125
  refine jr_aload rfl rfl ?_
  refine jr_ic rfl ?_
  refine jr_putI rfl rfl ?_
  show jx_W _ _ 0 0 _ _ _ jka_126
  refine jr_ic rfl ?_
  refine jr_ist1 rfl rfl ?_
  refine jr_iload rfl rfl ?_
  refine jr_aload rfl rfl ?_
  refine jr_getR rfl rfl rfl rfl (Or.inr (by decide +kernel)) ?_
  refine jr_alen (so := 1) (len := 6) rfl rfl rfl rfl ?_
  refine jr_icmp_ge rfl (fun z => absurd z (by decide +kernel)) (fun _ => ?_)
  refine jr_iload rfl rfl ?_
  refine jr_aload rfl rfl ?_
  refine jr_getR rfl rfl rfl rfl (Or.inr (by decide +kernel)) ?_
  refine jr_alen (so := 1) (len := 6) rfl rfl rfl rfl ?_
  refine jr_icmp_ge rfl (fun z => absurd z (by decide +kernel)) (fun _ => ?_)
  refine jr_aload rfl rfl ?_
  refine jr_getR rfl rfl rfl rfl (Or.inr (by decide +kernel)) ?_
  refine jr_iload rfl rfl ?_
  refine jr_ic rfl ?_
  refine jr_iast (len := 6) rfl rfl (show _ = nI 0 from rfl) (Nat.le_of_ble_eq_true rfl) ?_
  show jx_W _ _ 0 0 _ _ _ jka_127
  refine jr_aload rfl rfl ?_
  refine jr_getR rfl rfl rfl rfl (Or.inr (by decide +kernel)) ?_
  refine jr_iload rfl rfl ?_
  refine jr_ic rfl ?_
  refine jr_iast (len := 6) rfl rfl (show _ = nI 0 from rfl) (Nat.le_of_ble_eq_true rfl) ?_
  show jx_W _ _ 0 0 _ _ _ jka_128
  refine jr_iinc1 rfl rfl ?_
  refine jr_goto rfl ?_
  refine jr_iload rfl rfl ?_
  refine jr_aload rfl rfl ?_
  refine jr_getR rfl rfl rfl rfl (Or.inr (by decide +kernel)) ?_
  refine jr_alen (so := 1) (len := 6) rfl rfl rfl rfl ?_
  refine jr_icmp_ge rfl (fun z => absurd z (by decide +kernel)) (fun _ => ?_)
  refine jr_iload rfl rfl ?_
  refine jr_aload rfl rfl ?_
  refine jr_getR rfl rfl rfl rfl (Or.inr (by decide +kernel)) ?_
  refine jr_alen (so := 1) (len := 6) rfl rfl rfl rfl ?_
  refine jr_icmp_ge rfl (fun z => absurd z (by decide +kernel)) (fun _ => ?_)
  refine jr_aload rfl rfl ?_
  refine jr_getR rfl rfl rfl rfl (Or.inr (by decide +kernel)) ?_
  refine jr_iload rfl rfl ?_
  refine jr_ic rfl ?_
  refine jr_iast (len := 6) rfl rfl (show _ = nI 1 from rfl) (Nat.le_of_ble_eq_true rfl) ?_
  show jx_W _ _ 0 0 _ _ _ jka_129
  refine jr_aload rfl rfl ?_
  refine jr_getR rfl rfl rfl rfl (Or.inr (by decide +kernel)) ?_
  refine jr_iload rfl rfl ?_
  refine jr_ic rfl ?_
  refine jr_iast (len := 6) rfl rfl (show _ = nI 1 from rfl) (Nat.le_of_ble_eq_true rfl) ?_
  show jx_W _ _ 0 0 _ _ _ jka_130
  refine jr_iinc1 rfl rfl ?_
  refine jr_goto rfl ?_
  refine jr_iload rfl rfl ?_
  refine jr_aload rfl rfl ?_
  refine jr_getR rfl rfl rfl rfl (Or.inr (by decide +kernel)) ?_
  refine jr_alen (so := 1) (len := 6) rfl rfl rfl rfl ?_
  refine jr_icmp_ge rfl (fun z => absurd z (by decide +kernel)) (fun _ => ?_)
  refine jr_iload rfl rfl ?_
  refine jr_aload rfl rfl ?_
  refine jr_getR rfl rfl rfl rfl (Or.inr (by decide +kernel)) ?_
  refine jr_alen (so := 1) (len := 6) rfl rfl rfl rfl ?_
  refine jr_icmp_ge rfl (fun z => absurd z (by decide +kernel)) (fun _ => ?_)
  refine jr_aload rfl rfl ?_
  refine jr_getR rfl rfl rfl rfl (Or.inr (by decide +kernel)) ?_
  refine jr_iload rfl rfl ?_
  refine jr_ic rfl ?_
  refine jr_iast (len := 6) rfl rfl (show _ = nI 2 from rfl) (Nat.le_of_ble_eq_true rfl) ?_
  show jx_W _ _ 0 0 _ _ _ jka_131
  refine jr_aload rfl rfl ?_
  refine jr_getR rfl rfl rfl rfl (Or.inr (by decide +kernel)) ?_
  refine jr_iload rfl rfl ?_
  refine jr_ic rfl ?_
  refine jr_iast (len := 6) rfl rfl (show _ = nI 2 from rfl) (Nat.le_of_ble_eq_true rfl) ?_
  show jx_W _ _ 0 0 _ _ _ jka_132
  refine jr_iinc1 rfl rfl ?_
  refine jr_goto rfl ?_
  refine jr_iload rfl rfl ?_
  refine jr_aload rfl rfl ?_
  refine jr_getR rfl rfl rfl rfl (Or.inr (by decide +kernel)) ?_
  refine jr_alen (so := 1) (len := 6) rfl rfl rfl rfl ?_
  refine jr_icmp_ge rfl (fun z => absurd z (by decide +kernel)) (fun _ => ?_)
  refine jr_iload rfl rfl ?_
  refine jr_aload rfl rfl ?_
  refine jr_getR rfl rfl rfl rfl (Or.inr (by decide +kernel)) ?_
  refine jr_alen (so := 1) (len := 6) rfl rfl rfl rfl ?_
  refine jr_icmp_ge rfl (fun z => absurd z (by decide +kernel)) (fun _ => ?_)
  refine jr_aload rfl rfl ?_
  refine jr_getR rfl rfl rfl rfl (Or.inr (by decide +kernel)) ?_
  refine jr_iload rfl rfl ?_
  refine jr_ic rfl ?_
  refine jr_iast (len := 6) rfl rfl (show _ = nI 3 from rfl) (Nat.le_of_ble_eq_true rfl) ?_
  show jx_W _ _ 0 0 _ _ _ jka_133
  refine jr_aload rfl rfl ?_
  refine jr_getR rfl rfl rfl rfl (Or.inr (by decide +kernel)) ?_
  refine jr_iload rfl rfl ?_
  refine jr_ic rfl ?_
  refine jr_iast (len := 6) rfl rfl (show _ = nI 3 from rfl) (Nat.le_of_ble_eq_true rfl) ?_
  show jx_W _ _ 0 0 _ _ _ jka_134
  refine jr_iinc1 rfl rfl ?_
  refine jr_goto rfl ?_
  refine jr_iload rfl rfl ?_
  refine jr_aload rfl rfl ?_
  refine jr_getR rfl rfl rfl rfl (Or.inr (by decide +kernel)) ?_
  refine jr_alen (so := 1) (len := 6) rfl rfl rfl rfl ?_
  refine jr_icmp_ge rfl (fun z => absurd z (by decide +kernel)) (fun _ => ?_)
  refine jr_iload rfl rfl ?_
  refine jr_aload rfl rfl ?_
  refine jr_getR rfl rfl rfl rfl (Or.inr (by decide +kernel)) ?_
  refine jr_alen (so := 1) (len := 6) rfl rfl rfl rfl ?_
  refine jr_icmp_ge rfl (fun z => absurd z (by decide +kernel)) (fun _ => ?_)
  refine jr_aload rfl rfl ?_
  refine jr_getR rfl rfl rfl rfl (Or.inr (by decide +kernel)) ?_
  refine jr_iload rfl rfl ?_
  refine jr_ic rfl ?_
  refine jr_iast (len := 6) rfl rfl (show _ = nI 4 from rfl) (Nat.le_of_ble_eq_true rfl) ?_
  show jx_W _ _ 0 0 _ _ _ jka_135
  refine jr_aload rfl rfl ?_
  refine jr_getR rfl rfl rfl rfl (Or.inr (by decide +kernel)) ?_
  refine jr_iload rfl rfl ?_
  refine jr_ic rfl ?_
  refine jr_iast (len := 6) rfl rfl (show _ = nI 4 from rfl) (Nat.le_of_ble_eq_true rfl) ?_
  show jx_W _ _ 0 0 _ _ _ jka_136
  refine jr_iinc1 rfl rfl ?_
  refine jr_goto rfl ?_
  refine jr_iload rfl rfl ?_
  refine jr_aload rfl rfl ?_
  refine jr_getR rfl rfl rfl rfl (Or.inr (by decide +kernel)) ?_
  refine jr_alen (so := 1) (len := 6) rfl rfl rfl rfl ?_
  refine jr_icmp_ge rfl (fun z => absurd z (by decide +kernel)) (fun _ => ?_)
  refine jr_iload rfl rfl ?_
  refine jr_aload rfl rfl ?_
  refine jr_getR rfl rfl rfl rfl (Or.inr (by decide +kernel)) ?_
  refine jr_alen (so := 1) (len := 6) rfl rfl rfl rfl ?_
  refine jr_icmp_ge rfl (fun z => absurd z (by decide +kernel)) (fun _ => ?_)
  refine jr_aload rfl rfl ?_
  refine jr_getR rfl rfl rfl rfl (Or.inr (by decide +kernel)) ?_
  refine jr_iload rfl rfl ?_
  refine jr_ic rfl ?_
  refine jr_iast (len := 6) rfl rfl (show _ = nI 5 from rfl) (Nat.le_of_ble_eq_true rfl) ?_
  show jx_W _ _ 0 0 _ _ _ jka_137
  refine jr_aload rfl rfl ?_
  refine jr_getR rfl rfl rfl rfl (Or.inr (by decide +kernel)) ?_
  refine jr_iload rfl rfl ?_
  refine jr_ic rfl ?_
  refine jr_iast (len := 6) rfl rfl (show _ = nI 5 from rfl) (Nat.le_of_ble_eq_true rfl) ?_
  show jx_W _ _ 0 0 _ _ _ jka_138
  refine jr_iinc1 rfl rfl ?_
  refine jr_goto rfl ?_
  refine jr_iload rfl rfl ?_
  refine jr_aload rfl rfl ?_
  refine jr_getR rfl rfl rfl rfl (Or.inr (by decide +kernel)) ?_
  refine jr_alen (so := 1) (len := 6) rfl rfl rfl rfl ?_
  refine jr_icmp_ge rfl (fun _ => ?_) (fun z => absurd (by decide +kernel) z)
  exact jr_vret rfl rfl (Nat.le_of_ble_eq_true rfl) (Nat.le_of_ble_eq_true rfl) hQ

set_option maxHeartbeats 4000000 in
set_option maxRecDepth 100000 in
theorem ek_Rep_init_2 {d : Nat} {Q : Option jx_V → jx_H → Prop} (hQ : Q none jka_138) : jx_Ev jm_Rep_init (d + 11) 19 1813 true 0 [jv_r 7 1] jka_77 Q := by
  show jx_W (jm_Rep_init, d + 11, 19, 1813, true, 0, _) Q 0 0 0 [some (jv_r 7 1), none] [] jka_77
  refine jr_aload rfl rfl ?_
  refine jr_objI rfl rfl (Nat.succ_le_succ (Nat.zero_le _)) rfl ?_
  refine jr_aload rfl rfl ?_
  refine jr_ic rfl ?_
  refine jr_newa (a := 21) (len := 6) rfl rfl (by decide) rfl (Nat.le_of_ble_eq_true rfl) (show _ = nI 6 from rfl) jka_q77 (Nat.le_of_ble_eq_true rfl) (Nat.le_of_ble_eq_true rfl) ?_
  show jx_W _ _ 1 6 _ _ _ jka_78
  refine jr_putR rfl rfl rfl rfl rfl rfl rfl ?_
  show jx_W _ _ 1 6 _ _ _ jka_79
  refine jr_aload rfl rfl ?_
  refine jr_ic rfl ?_
  refine jr_newa (a := 22) (len := 6) rfl rfl (by decide) rfl (Nat.le_of_ble_eq_true rfl) (show _ = nI 6 from rfl) jka_q79 (Nat.le_of_ble_eq_true rfl) (Nat.le_of_ble_eq_true rfl) ?_
  show jx_W _ _ 2 12 _ _ _ jka_80
  refine jr_putR rfl rfl rfl rfl rfl rfl rfl ?_
  show jx_W _ _ 2 12 _ _ _ jka_81
  refine jr_aload rfl rfl ?_
  refine jr_ic rfl ?_
  refine jr_newa (a := 23) (len := 5) rfl rfl (by decide) rfl (Nat.le_of_ble_eq_true rfl) (show _ = nI 5 from rfl) jka_q81 (Nat.le_of_ble_eq_true rfl) (Nat.le_of_ble_eq_true rfl) ?_
  show jx_W _ _ 3 17 _ _ _ jka_82
  refine jr_putR rfl rfl rfl rfl rfl rfl rfl ?_
  show jx_W _ _ 3 17 _ _ _ jka_83
  refine jr_aload rfl rfl ?_
  refine jr_ic rfl ?_
  refine jr_anew (a := 24) (so := 5) (len := 12) rfl rfl (by decide) rfl (Nat.le_of_ble_eq_true rfl) (show _ = nI 12 from rfl) jka_q83 (Nat.le_of_ble_eq_true rfl) (Nat.le_of_ble_eq_true rfl) ?_
  show jx_W _ _ 4 29 _ _ _ jka_84
  refine jr_putR rfl rfl rfl rfl rfl rfl rfl ?_
  show jx_W _ _ 4 29 _ _ _ jka_85
  refine jr_ic rfl ?_
  refine jr_ist1 rfl rfl ?_
  refine jr_iload rfl rfl ?_
  refine jr_ic rfl ?_
  refine jr_icmp_ge rfl (fun z => absurd z (by decide +kernel)) (fun _ => ?_)
  refine jr_aload rfl rfl ?_
  refine jr_getR rfl rfl rfl rfl (Or.inr (by decide +kernel)) ?_
  refine jr_iload rfl rfl ?_
  refine jr_new rfl rfl (by decide) jka_q85 (Nat.le_of_ble_eq_true rfl) (Nat.le_of_ble_eq_true rfl) ?_
  show jx_W _ _ 5 35 _ _ _ jka_86
  refine jr_dup_r rfl ?_
  refine jr_ci0 (mc' := 0) (ms' := 0) rfl jm_Due_init_n jm_Due_init_f rfl rfl rfl rfl rfl rfl rfl (Nat.le_of_ble_eq_true rfl) (Nat.le_of_ble_eq_true rfl) ?_
  refine ek_Due ?_
  show jx_W _ _ 5 35 _ _ _ jka_86
  refine jr_aast (so := 5) (len := 12) rfl rfl (by decide) rfl rfl (show _ = nI 0 from rfl) (Nat.le_of_ble_eq_true rfl) ?_
  show jx_W _ _ 5 35 _ _ _ jka_87
  refine jr_iinc1 rfl rfl ?_
  refine jr_goto rfl ?_
  refine jr_iload rfl rfl ?_
  refine jr_ic rfl ?_
  refine jr_icmp_ge rfl (fun z => absurd z (by decide +kernel)) (fun _ => ?_)
  refine jr_aload rfl rfl ?_
  refine jr_getR rfl rfl rfl rfl (Or.inr (by decide +kernel)) ?_
  refine jr_iload rfl rfl ?_
  refine jr_new rfl rfl (by decide) jka_q87 (Nat.le_of_ble_eq_true rfl) (Nat.le_of_ble_eq_true rfl) ?_
  show jx_W _ _ 6 41 _ _ _ jka_88
  refine jr_dup_r rfl ?_
  refine jr_ci0 (mc' := 0) (ms' := 0) rfl jm_Due_init_n jm_Due_init_f rfl rfl rfl rfl rfl rfl rfl (Nat.le_of_ble_eq_true rfl) (Nat.le_of_ble_eq_true rfl) ?_
  refine ek_Due ?_
  show jx_W _ _ 6 41 _ _ _ jka_88
  refine jr_aast (so := 5) (len := 12) rfl rfl (by decide) rfl rfl (show _ = nI 1 from rfl) (Nat.le_of_ble_eq_true rfl) ?_
  show jx_W _ _ 6 41 _ _ _ jka_89
  refine jr_iinc1 rfl rfl ?_
  refine jr_goto rfl ?_
  refine jr_iload rfl rfl ?_
  refine jr_ic rfl ?_
  refine jr_icmp_ge rfl (fun z => absurd z (by decide +kernel)) (fun _ => ?_)
  refine jr_aload rfl rfl ?_
  refine jr_getR rfl rfl rfl rfl (Or.inr (by decide +kernel)) ?_
  refine jr_iload rfl rfl ?_
  refine jr_new rfl rfl (by decide) jka_q89 (Nat.le_of_ble_eq_true rfl) (Nat.le_of_ble_eq_true rfl) ?_
  show jx_W _ _ 7 47 _ _ _ jka_90
  refine jr_dup_r rfl ?_
  refine jr_ci0 (mc' := 0) (ms' := 0) rfl jm_Due_init_n jm_Due_init_f rfl rfl rfl rfl rfl rfl rfl (Nat.le_of_ble_eq_true rfl) (Nat.le_of_ble_eq_true rfl) ?_
  refine ek_Due ?_
  show jx_W _ _ 7 47 _ _ _ jka_90
  refine jr_aast (so := 5) (len := 12) rfl rfl (by decide) rfl rfl (show _ = nI 2 from rfl) (Nat.le_of_ble_eq_true rfl) ?_
  show jx_W _ _ 7 47 _ _ _ jka_91
  refine jr_iinc1 rfl rfl ?_
  refine jr_goto rfl ?_
  refine jr_iload rfl rfl ?_
  refine jr_ic rfl ?_
  refine jr_icmp_ge rfl (fun z => absurd z (by decide +kernel)) (fun _ => ?_)
  refine jr_aload rfl rfl ?_
  refine jr_getR rfl rfl rfl rfl (Or.inr (by decide +kernel)) ?_
  refine jr_iload rfl rfl ?_
  refine jr_new rfl rfl (by decide) jka_q91 (Nat.le_of_ble_eq_true rfl) (Nat.le_of_ble_eq_true rfl) ?_
  show jx_W _ _ 8 53 _ _ _ jka_92
  refine jr_dup_r rfl ?_
  refine jr_ci0 (mc' := 0) (ms' := 0) rfl jm_Due_init_n jm_Due_init_f rfl rfl rfl rfl rfl rfl rfl (Nat.le_of_ble_eq_true rfl) (Nat.le_of_ble_eq_true rfl) ?_
  refine ek_Due ?_
  show jx_W _ _ 8 53 _ _ _ jka_92
  refine jr_aast (so := 5) (len := 12) rfl rfl (by decide) rfl rfl (show _ = nI 3 from rfl) (Nat.le_of_ble_eq_true rfl) ?_
  show jx_W _ _ 8 53 _ _ _ jka_93
  refine jr_iinc1 rfl rfl ?_
  refine jr_goto rfl ?_
  refine jr_iload rfl rfl ?_
  refine jr_ic rfl ?_
  refine jr_icmp_ge rfl (fun z => absurd z (by decide +kernel)) (fun _ => ?_)
  refine jr_aload rfl rfl ?_
  refine jr_getR rfl rfl rfl rfl (Or.inr (by decide +kernel)) ?_
  refine jr_iload rfl rfl ?_
  refine jr_new rfl rfl (by decide) jka_q93 (Nat.le_of_ble_eq_true rfl) (Nat.le_of_ble_eq_true rfl) ?_
  show jx_W _ _ 9 59 _ _ _ jka_94
  refine jr_dup_r rfl ?_
  refine jr_ci0 (mc' := 0) (ms' := 0) rfl jm_Due_init_n jm_Due_init_f rfl rfl rfl rfl rfl rfl rfl (Nat.le_of_ble_eq_true rfl) (Nat.le_of_ble_eq_true rfl) ?_
  refine ek_Due ?_
  show jx_W _ _ 9 59 _ _ _ jka_94
  refine jr_aast (so := 5) (len := 12) rfl rfl (by decide) rfl rfl (show _ = nI 4 from rfl) (Nat.le_of_ble_eq_true rfl) ?_
  show jx_W _ _ 9 59 _ _ _ jka_95
  refine jr_iinc1 rfl rfl ?_
  refine jr_goto rfl ?_
  refine jr_iload rfl rfl ?_
  refine jr_ic rfl ?_
  refine jr_icmp_ge rfl (fun z => absurd z (by decide +kernel)) (fun _ => ?_)
  refine jr_aload rfl rfl ?_
  refine jr_getR rfl rfl rfl rfl (Or.inr (by decide +kernel)) ?_
  refine jr_iload rfl rfl ?_
  refine jr_new rfl rfl (by decide) jka_q95 (Nat.le_of_ble_eq_true rfl) (Nat.le_of_ble_eq_true rfl) ?_
  show jx_W _ _ 10 65 _ _ _ jka_96
  refine jr_dup_r rfl ?_
  refine jr_ci0 (mc' := 0) (ms' := 0) rfl jm_Due_init_n jm_Due_init_f rfl rfl rfl rfl rfl rfl rfl (Nat.le_of_ble_eq_true rfl) (Nat.le_of_ble_eq_true rfl) ?_
  refine ek_Due ?_
  show jx_W _ _ 10 65 _ _ _ jka_96
  refine jr_aast (so := 5) (len := 12) rfl rfl (by decide) rfl rfl (show _ = nI 5 from rfl) (Nat.le_of_ble_eq_true rfl) ?_
  show jx_W _ _ 10 65 _ _ _ jka_97
  refine jr_iinc1 rfl rfl ?_
  refine jr_goto rfl ?_
  refine jr_iload rfl rfl ?_
  refine jr_ic rfl ?_
  refine jr_icmp_ge rfl (fun z => absurd z (by decide +kernel)) (fun _ => ?_)
  refine jr_aload rfl rfl ?_
  refine jr_getR rfl rfl rfl rfl (Or.inr (by decide +kernel)) ?_
  refine jr_iload rfl rfl ?_
  refine jr_new rfl rfl (by decide) jka_q97 (Nat.le_of_ble_eq_true rfl) (Nat.le_of_ble_eq_true rfl) ?_
  show jx_W _ _ 11 71 _ _ _ jka_98
  refine jr_dup_r rfl ?_
  refine jr_ci0 (mc' := 0) (ms' := 0) rfl jm_Due_init_n jm_Due_init_f rfl rfl rfl rfl rfl rfl rfl (Nat.le_of_ble_eq_true rfl) (Nat.le_of_ble_eq_true rfl) ?_
  refine ek_Due ?_
  show jx_W _ _ 11 71 _ _ _ jka_98
  refine jr_aast (so := 5) (len := 12) rfl rfl (by decide) rfl rfl (show _ = nI 6 from rfl) (Nat.le_of_ble_eq_true rfl) ?_
  show jx_W _ _ 11 71 _ _ _ jka_99
  refine jr_iinc1 rfl rfl ?_
  refine jr_goto rfl ?_
  refine jr_iload rfl rfl ?_
  refine jr_ic rfl ?_
  refine jr_icmp_ge rfl (fun z => absurd z (by decide +kernel)) (fun _ => ?_)
  refine jr_aload rfl rfl ?_
  refine jr_getR rfl rfl rfl rfl (Or.inr (by decide +kernel)) ?_
  refine jr_iload rfl rfl ?_
  refine jr_new rfl rfl (by decide) jka_q99 (Nat.le_of_ble_eq_true rfl) (Nat.le_of_ble_eq_true rfl) ?_
  show jx_W _ _ 12 77 _ _ _ jka_100
  refine jr_dup_r rfl ?_
  refine jr_ci0 (mc' := 0) (ms' := 0) rfl jm_Due_init_n jm_Due_init_f rfl rfl rfl rfl rfl rfl rfl (Nat.le_of_ble_eq_true rfl) (Nat.le_of_ble_eq_true rfl) ?_
  refine ek_Due ?_
  show jx_W _ _ 12 77 _ _ _ jka_100
  refine jr_aast (so := 5) (len := 12) rfl rfl (by decide) rfl rfl (show _ = nI 7 from rfl) (Nat.le_of_ble_eq_true rfl) ?_
  show jx_W _ _ 12 77 _ _ _ jka_101
  refine jr_iinc1 rfl rfl ?_
  refine jr_goto rfl ?_
  refine jr_iload rfl rfl ?_
  refine jr_ic rfl ?_
  refine jr_icmp_ge rfl (fun z => absurd z (by decide +kernel)) (fun _ => ?_)
  refine jr_aload rfl rfl ?_
  refine jr_getR rfl rfl rfl rfl (Or.inr (by decide +kernel)) ?_
  refine jr_iload rfl rfl ?_
  refine jr_new rfl rfl (by decide) jka_q101 (Nat.le_of_ble_eq_true rfl) (Nat.le_of_ble_eq_true rfl) ?_
  show jx_W _ _ 13 83 _ _ _ jka_102
  refine jr_dup_r rfl ?_
  refine jr_ci0 (mc' := 0) (ms' := 0) rfl jm_Due_init_n jm_Due_init_f rfl rfl rfl rfl rfl rfl rfl (Nat.le_of_ble_eq_true rfl) (Nat.le_of_ble_eq_true rfl) ?_
  refine ek_Due ?_
  show jx_W _ _ 13 83 _ _ _ jka_102
  refine jr_aast (so := 5) (len := 12) rfl rfl (by decide) rfl rfl (show _ = nI 8 from rfl) (Nat.le_of_ble_eq_true rfl) ?_
  show jx_W _ _ 13 83 _ _ _ jka_103
  refine jr_iinc1 rfl rfl ?_
  refine jr_goto rfl ?_
  refine jr_iload rfl rfl ?_
  refine jr_ic rfl ?_
  refine jr_icmp_ge rfl (fun z => absurd z (by decide +kernel)) (fun _ => ?_)
  refine jr_aload rfl rfl ?_
  refine jr_getR rfl rfl rfl rfl (Or.inr (by decide +kernel)) ?_
  refine jr_iload rfl rfl ?_
  refine jr_new rfl rfl (by decide) jka_q103 (Nat.le_of_ble_eq_true rfl) (Nat.le_of_ble_eq_true rfl) ?_
  show jx_W _ _ 14 89 _ _ _ jka_104
  refine jr_dup_r rfl ?_
  refine jr_ci0 (mc' := 0) (ms' := 0) rfl jm_Due_init_n jm_Due_init_f rfl rfl rfl rfl rfl rfl rfl (Nat.le_of_ble_eq_true rfl) (Nat.le_of_ble_eq_true rfl) ?_
  refine ek_Due ?_
  show jx_W _ _ 14 89 _ _ _ jka_104
  refine jr_aast (so := 5) (len := 12) rfl rfl (by decide) rfl rfl (show _ = nI 9 from rfl) (Nat.le_of_ble_eq_true rfl) ?_
  show jx_W _ _ 14 89 _ _ _ jka_105
  refine jr_iinc1 rfl rfl ?_
  refine jr_goto rfl ?_
  refine jr_iload rfl rfl ?_
  refine jr_ic rfl ?_
  refine jr_icmp_ge rfl (fun z => absurd z (by decide +kernel)) (fun _ => ?_)
  refine jr_aload rfl rfl ?_
  refine jr_getR rfl rfl rfl rfl (Or.inr (by decide +kernel)) ?_
  refine jr_iload rfl rfl ?_
  refine jr_new rfl rfl (by decide) jka_q105 (Nat.le_of_ble_eq_true rfl) (Nat.le_of_ble_eq_true rfl) ?_
  show jx_W _ _ 15 95 _ _ _ jka_106
  refine jr_dup_r rfl ?_
  refine jr_ci0 (mc' := 0) (ms' := 0) rfl jm_Due_init_n jm_Due_init_f rfl rfl rfl rfl rfl rfl rfl (Nat.le_of_ble_eq_true rfl) (Nat.le_of_ble_eq_true rfl) ?_
  refine ek_Due ?_
  show jx_W _ _ 15 95 _ _ _ jka_106
  refine jr_aast (so := 5) (len := 12) rfl rfl (by decide) rfl rfl (show _ = nI 10 from rfl) (Nat.le_of_ble_eq_true rfl) ?_
  show jx_W _ _ 15 95 _ _ _ jka_107
  refine jr_iinc1 rfl rfl ?_
  refine jr_goto rfl ?_
  refine jr_iload rfl rfl ?_
  refine jr_ic rfl ?_
  refine jr_icmp_ge rfl (fun z => absurd z (by decide +kernel)) (fun _ => ?_)
  refine jr_aload rfl rfl ?_
  refine jr_getR rfl rfl rfl rfl (Or.inr (by decide +kernel)) ?_
  refine jr_iload rfl rfl ?_
  refine jr_new rfl rfl (by decide) jka_q107 (Nat.le_of_ble_eq_true rfl) (Nat.le_of_ble_eq_true rfl) ?_
  show jx_W _ _ 16 101 _ _ _ jka_108
  refine jr_dup_r rfl ?_
  refine jr_ci0 (mc' := 0) (ms' := 0) rfl jm_Due_init_n jm_Due_init_f rfl rfl rfl rfl rfl rfl rfl (Nat.le_of_ble_eq_true rfl) (Nat.le_of_ble_eq_true rfl) ?_
  refine ek_Due ?_
  show jx_W _ _ 16 101 _ _ _ jka_108
  refine jr_aast (so := 5) (len := 12) rfl rfl (by decide) rfl rfl (show _ = nI 11 from rfl) (Nat.le_of_ble_eq_true rfl) ?_
  show jx_W _ _ 16 101 _ _ _ jka_109
  refine jr_iinc1 rfl rfl ?_
  refine jr_goto rfl ?_
  refine jr_iload rfl rfl ?_
  refine jr_ic rfl ?_
  refine jr_icmp_ge rfl (fun _ => ?_) (fun z => absurd (by decide +kernel) z)
  refine jr_aload rfl rfl ?_
  refine jr_ic rfl ?_
  refine jr_newa (a := 25) (len := 1700) rfl rfl (by decide) rfl (Nat.le_of_ble_eq_true rfl) (show _ = nI 1700 from rfl) jka_q109 (Nat.le_of_ble_eq_true rfl) (Nat.le_of_ble_eq_true rfl) ?_
  show jx_W _ _ 17 1801 _ _ _ jka_110
  refine jr_putR rfl rfl rfl rfl rfl rfl rfl ?_
  show jx_W _ _ 17 1801 _ _ _ jka_111
  refine jr_aload rfl rfl ?_
  refine jr_ic rfl ?_
  refine jr_newa (a := 26) (len := 6) rfl rfl (by decide) rfl (Nat.le_of_ble_eq_true rfl) (show _ = nI 6 from rfl) jka_q111 (Nat.le_of_ble_eq_true rfl) (Nat.le_of_ble_eq_true rfl) ?_
  show jx_W _ _ 18 1807 _ _ _ jka_112
  refine jr_putR rfl rfl rfl rfl rfl rfl rfl ?_
  show jx_W _ _ 18 1807 _ _ _ jka_113
  refine jr_aload rfl rfl ?_
  refine jr_ic rfl ?_
  refine jr_newa (a := 27) (len := 6) rfl rfl (by decide) rfl (Nat.le_of_ble_eq_true rfl) (show _ = nI 6 from rfl) jka_q113 (Nat.le_of_ble_eq_true rfl) (Nat.le_of_ble_eq_true rfl) ?_
  show jx_W _ _ 19 1813 _ _ _ jka_114
  refine jr_putR rfl rfl rfl rfl rfl rfl rfl ?_
  show jx_W _ _ 19 1813 _ _ _ jka_115
  refine jr_aload rfl rfl ?_
  refine jr_cv0 (mc' := 0) (ms' := 0) rfl jm_Rep_clear_n jm_Rep_clear_f rfl rfl rfl rfl rfl rfl rfl (Nat.le_of_ble_eq_true rfl) (Nat.le_of_ble_eq_true rfl) ?_
  refine ek_Rep_clear_2 ?_
  show jx_W _ _ 19 1813 _ _ _ jka_138
  exact jr_vret rfl rfl (Nat.le_of_ble_eq_true rfl) (Nat.le_of_ble_eq_true rfl) hQ

theorem jka_q139 : (jx_cells 0)[jh_n jka_139]? = some (6, 0) := by decide +kernel
theorem jka_q142 : (jx_cells 0)[jh_n jka_142]? = some (28, 0) := by decide +kernel
theorem jka_q144 : (jx_cells 0)[jh_n jka_144]? = some (29, 0) := by decide +kernel
theorem jka_q146 : (jx_cells 0)[jh_n jka_146]? = some (30, 0) := by decide +kernel
set_option maxHeartbeats 4000000 in
set_option maxRecDepth 100000 in
theorem ek_Rdr_init_1 {d : Nat} {Q : Option jx_V → jx_H → Prop} (hQ : Q none jka_149) : jx_Ev jm_Rdr_init (d + 11) 3 23 true 0 [jv_r 6 0, jv_r 9 0, jv_r 7 1] jka_140 Q := by
  show jx_W (jm_Rdr_init, d + 11, 3, 23, true, 0, _) Q 0 0 0 [some (jv_r 6 0), some (jv_r 9 0), some (jv_r 7 1)] [] jka_140
  refine jr_aload rfl rfl ?_
  refine jr_objI rfl rfl (Nat.succ_le_succ (Nat.zero_le _)) rfl ?_
  refine jr_aload rfl rfl ?_
  refine jr_aload rfl rfl ?_
  refine jr_putR rfl rfl rfl rfl rfl rfl rfl ?_
  show jx_W _ _ 0 0 _ _ _ jka_141
  refine jr_aload rfl rfl ?_
  refine jr_aload rfl rfl ?_
  refine jr_putM rfl rfl rfl rfl ?_
  show jx_W _ _ 0 0 _ _ _ jka_142
  refine jr_aload rfl rfl ?_
  refine jr_ic rfl ?_
  refine jr_newa (a := 28) (len := 6) rfl rfl (by decide) rfl (Nat.le_of_ble_eq_true rfl) (show _ = nI 6 from rfl) jka_q142 (Nat.le_of_ble_eq_true rfl) (Nat.le_of_ble_eq_true rfl) ?_
  show jx_W _ _ 1 6 _ _ _ jka_143
  refine jr_putR rfl rfl rfl rfl rfl rfl rfl ?_
  show jx_W _ _ 1 6 _ _ _ jka_144
  refine jr_aload rfl rfl ?_
  refine jr_ic rfl ?_
  refine jr_newa (a := 29) (len := 5) rfl rfl (by decide) rfl (Nat.le_of_ble_eq_true rfl) (show _ = nI 5 from rfl) jka_q144 (Nat.le_of_ble_eq_true rfl) (Nat.le_of_ble_eq_true rfl) ?_
  show jx_W _ _ 2 11 _ _ _ jka_145
  refine jr_putR rfl rfl rfl rfl rfl rfl rfl ?_
  show jx_W _ _ 2 11 _ _ _ jka_146
  refine jr_aload rfl rfl ?_
  refine jr_ic rfl ?_
  refine jr_newa (a := 30) (len := 12) rfl rfl (by decide) rfl (Nat.le_of_ble_eq_true rfl) (show _ = nI 12 from rfl) jka_q146 (Nat.le_of_ble_eq_true rfl) (Nat.le_of_ble_eq_true rfl) ?_
  show jx_W _ _ 3 23 _ _ _ jka_147
  refine jr_putR rfl rfl rfl rfl rfl rfl rfl ?_
  show jx_W _ _ 3 23 _ _ _ jka_148
  refine jr_aload rfl rfl ?_
  refine jr_ic rfl ?_
  refine jr_putI rfl rfl ?_
  show jx_W _ _ 3 23 _ _ _ jka_149
  exact jr_vret rfl rfl (Nat.le_of_ble_eq_true rfl) (Nat.le_of_ble_eq_true rfl) hQ

theorem jka_q150 : (jx_cells 0)[jh_n jka_150]? = some (1, 0) := by decide +kernel
theorem jka_q152 : (jx_cells 0)[jh_n jka_152]? = some (31, 0) := by decide +kernel
theorem jka_q154 : (jx_cells 0)[jh_n jka_154]? = some (32, 0) := by decide +kernel
theorem jka_q156 : (jx_cells 0)[jh_n jka_156]? = some (33, 0) := by decide +kernel
theorem jka_q158 : (jx_cells 0)[jh_n jka_158]? = some (34, 0) := by decide +kernel
theorem jka_q160 : (jx_cells 0)[jh_n jka_160]? = some (35, 0) := by decide +kernel
theorem jka_q162 : (jx_cells 0)[jh_n jka_162]? = some (36, 0) := by decide +kernel
set_option maxHeartbeats 4000000 in
set_option maxRecDepth 100000 in
theorem ek_Cal_init_1 {d : Nat} {Q : Option jx_V → jx_H → Prop} (hQ : Q none jka_164) : jx_Ev jm_Cal_init (d + 11) 6 558 true 0 [jv_r 1 0, jv_r 7 0] jka_151 Q := by
  show jx_W (jm_Cal_init, d + 11, 6, 558, true, 0, _) Q 0 0 0 [some (jv_r 1 0), some (jv_r 7 0)] [] jka_151
  refine jr_aload rfl rfl ?_
  refine jr_objI rfl rfl (Nat.succ_le_succ (Nat.zero_le _)) rfl ?_
  refine jr_aload rfl rfl ?_
  refine jr_aload rfl rfl ?_
  refine jr_putM rfl rfl rfl rfl ?_
  show jx_W _ _ 0 0 _ _ _ jka_152
  refine jr_aload rfl rfl ?_
  refine jr_ic rfl ?_
  refine jr_newa (a := 31) (len := 512) rfl rfl (by decide) rfl (Nat.le_of_ble_eq_true rfl) (show _ = nI 512 from rfl) jka_q152 (Nat.le_of_ble_eq_true rfl) (Nat.le_of_ble_eq_true rfl) ?_
  show jx_W _ _ 1 512 _ _ _ jka_153
  refine jr_putR rfl rfl rfl rfl rfl rfl rfl ?_
  show jx_W _ _ 1 512 _ _ _ jka_154
  refine jr_aload rfl rfl ?_
  refine jr_ic rfl ?_
  refine jr_newa (a := 32) (len := 5) rfl rfl (by decide) rfl (Nat.le_of_ble_eq_true rfl) (show _ = nI 5 from rfl) jka_q154 (Nat.le_of_ble_eq_true rfl) (Nat.le_of_ble_eq_true rfl) ?_
  show jx_W _ _ 2 517 _ _ _ jka_155
  refine jr_putR rfl rfl rfl rfl rfl rfl rfl ?_
  show jx_W _ _ 2 517 _ _ _ jka_156
  refine jr_aload rfl rfl ?_
  refine jr_ic rfl ?_
  refine jr_newa (a := 33) (len := 5) rfl rfl (by decide) rfl (Nat.le_of_ble_eq_true rfl) (show _ = nI 5 from rfl) jka_q156 (Nat.le_of_ble_eq_true rfl) (Nat.le_of_ble_eq_true rfl) ?_
  show jx_W _ _ 3 522 _ _ _ jka_157
  refine jr_putR rfl rfl rfl rfl rfl rfl rfl ?_
  show jx_W _ _ 3 522 _ _ _ jka_158
  refine jr_aload rfl rfl ?_
  refine jr_ic rfl ?_
  refine jr_newa (a := 34) (len := 12) rfl rfl (by decide) rfl (Nat.le_of_ble_eq_true rfl) (show _ = nI 12 from rfl) jka_q158 (Nat.le_of_ble_eq_true rfl) (Nat.le_of_ble_eq_true rfl) ?_
  show jx_W _ _ 4 534 _ _ _ jka_159
  refine jr_putR rfl rfl rfl rfl rfl rfl rfl ?_
  show jx_W _ _ 4 534 _ _ _ jka_160
  refine jr_aload rfl rfl ?_
  refine jr_ic rfl ?_
  refine jr_newa (a := 35) (len := 12) rfl rfl (by decide) rfl (Nat.le_of_ble_eq_true rfl) (show _ = nI 12 from rfl) jka_q160 (Nat.le_of_ble_eq_true rfl) (Nat.le_of_ble_eq_true rfl) ?_
  show jx_W _ _ 5 546 _ _ _ jka_161
  refine jr_putR rfl rfl rfl rfl rfl rfl rfl ?_
  show jx_W _ _ 5 546 _ _ _ jka_162
  refine jr_aload rfl rfl ?_
  refine jr_ic rfl ?_
  refine jr_newa (a := 36) (len := 12) rfl rfl (by decide) rfl (Nat.le_of_ble_eq_true rfl) (show _ = nI 12 from rfl) jka_q162 (Nat.le_of_ble_eq_true rfl) (Nat.le_of_ble_eq_true rfl) ?_
  show jx_W _ _ 6 558 _ _ _ jka_163
  refine jr_putR rfl rfl rfl rfl rfl rfl rfl ?_
  show jx_W _ _ 6 558 _ _ _ jka_164
  exact jr_vret rfl rfl (Nat.le_of_ble_eq_true rfl) (Nat.le_of_ble_eq_true rfl) hQ

theorem jka_q165 : (jx_cells 0)[jh_n jka_165]? = some (61, 0) := by decide +kernel
theorem jka_q167 : (jx_cells 0)[jh_n jka_167]? = some (62, 0) := by decide +kernel
theorem jka_q169 : (jx_cells 0)[jh_n jka_169]? = some (1, 1) := by decide +kernel
theorem jka_q171 : (jx_cells 0)[jh_n jka_171]? = some (31, 1) := by decide +kernel
theorem jka_q173 : (jx_cells 0)[jh_n jka_173]? = some (32, 1) := by decide +kernel
theorem jka_q175 : (jx_cells 0)[jh_n jka_175]? = some (33, 1) := by decide +kernel
theorem jka_q177 : (jx_cells 0)[jh_n jka_177]? = some (34, 1) := by decide +kernel
theorem jka_q179 : (jx_cells 0)[jh_n jka_179]? = some (35, 1) := by decide +kernel
theorem jka_q181 : (jx_cells 0)[jh_n jka_181]? = some (36, 1) := by decide +kernel
set_option maxHeartbeats 4000000 in
set_option maxRecDepth 100000 in
theorem ek_Cal_init_2 {d : Nat} {Q : Option jx_V → jx_H → Prop} (hQ : Q none jka_183) : jx_Ev jm_Cal_init (d + 11) 6 558 true 0 [jv_r 1 1, jv_r 7 0] jka_170 Q := by
  show jx_W (jm_Cal_init, d + 11, 6, 558, true, 0, _) Q 0 0 0 [some (jv_r 1 1), some (jv_r 7 0)] [] jka_170
  refine jr_aload rfl rfl ?_
  refine jr_objI rfl rfl (Nat.succ_le_succ (Nat.zero_le _)) rfl ?_
  refine jr_aload rfl rfl ?_
  refine jr_aload rfl rfl ?_
  refine jr_putM rfl rfl rfl rfl ?_
  show jx_W _ _ 0 0 _ _ _ jka_171
  refine jr_aload rfl rfl ?_
  refine jr_ic rfl ?_
  refine jr_newa (a := 31) (len := 512) rfl rfl (by decide) rfl (Nat.le_of_ble_eq_true rfl) (show _ = nI 512 from rfl) jka_q171 (Nat.le_of_ble_eq_true rfl) (Nat.le_of_ble_eq_true rfl) ?_
  show jx_W _ _ 1 512 _ _ _ jka_172
  refine jr_putR rfl rfl rfl rfl rfl rfl rfl ?_
  show jx_W _ _ 1 512 _ _ _ jka_173
  refine jr_aload rfl rfl ?_
  refine jr_ic rfl ?_
  refine jr_newa (a := 32) (len := 5) rfl rfl (by decide) rfl (Nat.le_of_ble_eq_true rfl) (show _ = nI 5 from rfl) jka_q173 (Nat.le_of_ble_eq_true rfl) (Nat.le_of_ble_eq_true rfl) ?_
  show jx_W _ _ 2 517 _ _ _ jka_174
  refine jr_putR rfl rfl rfl rfl rfl rfl rfl ?_
  show jx_W _ _ 2 517 _ _ _ jka_175
  refine jr_aload rfl rfl ?_
  refine jr_ic rfl ?_
  refine jr_newa (a := 33) (len := 5) rfl rfl (by decide) rfl (Nat.le_of_ble_eq_true rfl) (show _ = nI 5 from rfl) jka_q175 (Nat.le_of_ble_eq_true rfl) (Nat.le_of_ble_eq_true rfl) ?_
  show jx_W _ _ 3 522 _ _ _ jka_176
  refine jr_putR rfl rfl rfl rfl rfl rfl rfl ?_
  show jx_W _ _ 3 522 _ _ _ jka_177
  refine jr_aload rfl rfl ?_
  refine jr_ic rfl ?_
  refine jr_newa (a := 34) (len := 12) rfl rfl (by decide) rfl (Nat.le_of_ble_eq_true rfl) (show _ = nI 12 from rfl) jka_q177 (Nat.le_of_ble_eq_true rfl) (Nat.le_of_ble_eq_true rfl) ?_
  show jx_W _ _ 4 534 _ _ _ jka_178
  refine jr_putR rfl rfl rfl rfl rfl rfl rfl ?_
  show jx_W _ _ 4 534 _ _ _ jka_179
  refine jr_aload rfl rfl ?_
  refine jr_ic rfl ?_
  refine jr_newa (a := 35) (len := 12) rfl rfl (by decide) rfl (Nat.le_of_ble_eq_true rfl) (show _ = nI 12 from rfl) jka_q179 (Nat.le_of_ble_eq_true rfl) (Nat.le_of_ble_eq_true rfl) ?_
  show jx_W _ _ 5 546 _ _ _ jka_180
  refine jr_putR rfl rfl rfl rfl rfl rfl rfl ?_
  show jx_W _ _ 5 546 _ _ _ jka_181
  refine jr_aload rfl rfl ?_
  refine jr_ic rfl ?_
  refine jr_newa (a := 36) (len := 12) rfl rfl (by decide) rfl (Nat.le_of_ble_eq_true rfl) (show _ = nI 12 from rfl) jka_q181 (Nat.le_of_ble_eq_true rfl) (Nat.le_of_ble_eq_true rfl) ?_
  show jx_W _ _ 6 558 _ _ _ jka_182
  refine jr_putR rfl rfl rfl rfl rfl rfl rfl ?_
  show jx_W _ _ 6 558 _ _ _ jka_183
  exact jr_vret rfl rfl (Nat.le_of_ble_eq_true rfl) (Nat.le_of_ble_eq_true rfl) hQ

theorem jka_q184 : (jx_cells 0)[jh_n jka_184]? = some (1, 2) := by decide +kernel
theorem jka_q186 : (jx_cells 0)[jh_n jka_186]? = some (31, 2) := by decide +kernel
theorem jka_q188 : (jx_cells 0)[jh_n jka_188]? = some (32, 2) := by decide +kernel
theorem jka_q190 : (jx_cells 0)[jh_n jka_190]? = some (33, 2) := by decide +kernel
theorem jka_q192 : (jx_cells 0)[jh_n jka_192]? = some (34, 2) := by decide +kernel
theorem jka_q194 : (jx_cells 0)[jh_n jka_194]? = some (35, 2) := by decide +kernel
theorem jka_q196 : (jx_cells 0)[jh_n jka_196]? = some (36, 2) := by decide +kernel
set_option maxHeartbeats 4000000 in
set_option maxRecDepth 100000 in
theorem ek_Cal_init_3 {d : Nat} {Q : Option jx_V → jx_H → Prop} (hQ : Q none jka_198) : jx_Ev jm_Cal_init (d + 11) 6 558 true 0 [jv_r 1 2, jv_r 7 0] jka_185 Q := by
  show jx_W (jm_Cal_init, d + 11, 6, 558, true, 0, _) Q 0 0 0 [some (jv_r 1 2), some (jv_r 7 0)] [] jka_185
  refine jr_aload rfl rfl ?_
  refine jr_objI rfl rfl (Nat.succ_le_succ (Nat.zero_le _)) rfl ?_
  refine jr_aload rfl rfl ?_
  refine jr_aload rfl rfl ?_
  refine jr_putM rfl rfl rfl rfl ?_
  show jx_W _ _ 0 0 _ _ _ jka_186
  refine jr_aload rfl rfl ?_
  refine jr_ic rfl ?_
  refine jr_newa (a := 31) (len := 512) rfl rfl (by decide) rfl (Nat.le_of_ble_eq_true rfl) (show _ = nI 512 from rfl) jka_q186 (Nat.le_of_ble_eq_true rfl) (Nat.le_of_ble_eq_true rfl) ?_
  show jx_W _ _ 1 512 _ _ _ jka_187
  refine jr_putR rfl rfl rfl rfl rfl rfl rfl ?_
  show jx_W _ _ 1 512 _ _ _ jka_188
  refine jr_aload rfl rfl ?_
  refine jr_ic rfl ?_
  refine jr_newa (a := 32) (len := 5) rfl rfl (by decide) rfl (Nat.le_of_ble_eq_true rfl) (show _ = nI 5 from rfl) jka_q188 (Nat.le_of_ble_eq_true rfl) (Nat.le_of_ble_eq_true rfl) ?_
  show jx_W _ _ 2 517 _ _ _ jka_189
  refine jr_putR rfl rfl rfl rfl rfl rfl rfl ?_
  show jx_W _ _ 2 517 _ _ _ jka_190
  refine jr_aload rfl rfl ?_
  refine jr_ic rfl ?_
  refine jr_newa (a := 33) (len := 5) rfl rfl (by decide) rfl (Nat.le_of_ble_eq_true rfl) (show _ = nI 5 from rfl) jka_q190 (Nat.le_of_ble_eq_true rfl) (Nat.le_of_ble_eq_true rfl) ?_
  show jx_W _ _ 3 522 _ _ _ jka_191
  refine jr_putR rfl rfl rfl rfl rfl rfl rfl ?_
  show jx_W _ _ 3 522 _ _ _ jka_192
  refine jr_aload rfl rfl ?_
  refine jr_ic rfl ?_
  refine jr_newa (a := 34) (len := 12) rfl rfl (by decide) rfl (Nat.le_of_ble_eq_true rfl) (show _ = nI 12 from rfl) jka_q192 (Nat.le_of_ble_eq_true rfl) (Nat.le_of_ble_eq_true rfl) ?_
  show jx_W _ _ 4 534 _ _ _ jka_193
  refine jr_putR rfl rfl rfl rfl rfl rfl rfl ?_
  show jx_W _ _ 4 534 _ _ _ jka_194
  refine jr_aload rfl rfl ?_
  refine jr_ic rfl ?_
  refine jr_newa (a := 35) (len := 12) rfl rfl (by decide) rfl (Nat.le_of_ble_eq_true rfl) (show _ = nI 12 from rfl) jka_q194 (Nat.le_of_ble_eq_true rfl) (Nat.le_of_ble_eq_true rfl) ?_
  show jx_W _ _ 5 546 _ _ _ jka_195
  refine jr_putR rfl rfl rfl rfl rfl rfl rfl ?_
  show jx_W _ _ 5 546 _ _ _ jka_196
  refine jr_aload rfl rfl ?_
  refine jr_ic rfl ?_
  refine jr_newa (a := 36) (len := 12) rfl rfl (by decide) rfl (Nat.le_of_ble_eq_true rfl) (show _ = nI 12 from rfl) jka_q196 (Nat.le_of_ble_eq_true rfl) (Nat.le_of_ble_eq_true rfl) ?_
  show jx_W _ _ 6 558 _ _ _ jka_197
  refine jr_putR rfl rfl rfl rfl rfl rfl rfl ?_
  show jx_W _ _ 6 558 _ _ _ jka_198
  exact jr_vret rfl rfl (Nat.le_of_ble_eq_true rfl) (Nat.le_of_ble_eq_true rfl) hQ

theorem jka_q199 : (jx_cells 0)[jh_n jka_199]? = some (1, 3) := by decide +kernel
theorem jka_q201 : (jx_cells 0)[jh_n jka_201]? = some (31, 3) := by decide +kernel
theorem jka_q203 : (jx_cells 0)[jh_n jka_203]? = some (32, 3) := by decide +kernel
theorem jka_q205 : (jx_cells 0)[jh_n jka_205]? = some (33, 3) := by decide +kernel
theorem jka_q207 : (jx_cells 0)[jh_n jka_207]? = some (34, 3) := by decide +kernel
theorem jka_q209 : (jx_cells 0)[jh_n jka_209]? = some (35, 3) := by decide +kernel
theorem jka_q211 : (jx_cells 0)[jh_n jka_211]? = some (36, 3) := by decide +kernel
set_option maxHeartbeats 4000000 in
set_option maxRecDepth 100000 in
theorem ek_Cal_init_4 {d : Nat} {Q : Option jx_V → jx_H → Prop} (hQ : Q none jka_213) : jx_Ev jm_Cal_init (d + 11) 6 558 true 0 [jv_r 1 3, jv_r 7 0] jka_200 Q := by
  show jx_W (jm_Cal_init, d + 11, 6, 558, true, 0, _) Q 0 0 0 [some (jv_r 1 3), some (jv_r 7 0)] [] jka_200
  refine jr_aload rfl rfl ?_
  refine jr_objI rfl rfl (Nat.succ_le_succ (Nat.zero_le _)) rfl ?_
  refine jr_aload rfl rfl ?_
  refine jr_aload rfl rfl ?_
  refine jr_putM rfl rfl rfl rfl ?_
  show jx_W _ _ 0 0 _ _ _ jka_201
  refine jr_aload rfl rfl ?_
  refine jr_ic rfl ?_
  refine jr_newa (a := 31) (len := 512) rfl rfl (by decide) rfl (Nat.le_of_ble_eq_true rfl) (show _ = nI 512 from rfl) jka_q201 (Nat.le_of_ble_eq_true rfl) (Nat.le_of_ble_eq_true rfl) ?_
  show jx_W _ _ 1 512 _ _ _ jka_202
  refine jr_putR rfl rfl rfl rfl rfl rfl rfl ?_
  show jx_W _ _ 1 512 _ _ _ jka_203
  refine jr_aload rfl rfl ?_
  refine jr_ic rfl ?_
  refine jr_newa (a := 32) (len := 5) rfl rfl (by decide) rfl (Nat.le_of_ble_eq_true rfl) (show _ = nI 5 from rfl) jka_q203 (Nat.le_of_ble_eq_true rfl) (Nat.le_of_ble_eq_true rfl) ?_
  show jx_W _ _ 2 517 _ _ _ jka_204
  refine jr_putR rfl rfl rfl rfl rfl rfl rfl ?_
  show jx_W _ _ 2 517 _ _ _ jka_205
  refine jr_aload rfl rfl ?_
  refine jr_ic rfl ?_
  refine jr_newa (a := 33) (len := 5) rfl rfl (by decide) rfl (Nat.le_of_ble_eq_true rfl) (show _ = nI 5 from rfl) jka_q205 (Nat.le_of_ble_eq_true rfl) (Nat.le_of_ble_eq_true rfl) ?_
  show jx_W _ _ 3 522 _ _ _ jka_206
  refine jr_putR rfl rfl rfl rfl rfl rfl rfl ?_
  show jx_W _ _ 3 522 _ _ _ jka_207
  refine jr_aload rfl rfl ?_
  refine jr_ic rfl ?_
  refine jr_newa (a := 34) (len := 12) rfl rfl (by decide) rfl (Nat.le_of_ble_eq_true rfl) (show _ = nI 12 from rfl) jka_q207 (Nat.le_of_ble_eq_true rfl) (Nat.le_of_ble_eq_true rfl) ?_
  show jx_W _ _ 4 534 _ _ _ jka_208
  refine jr_putR rfl rfl rfl rfl rfl rfl rfl ?_
  show jx_W _ _ 4 534 _ _ _ jka_209
  refine jr_aload rfl rfl ?_
  refine jr_ic rfl ?_
  refine jr_newa (a := 35) (len := 12) rfl rfl (by decide) rfl (Nat.le_of_ble_eq_true rfl) (show _ = nI 12 from rfl) jka_q209 (Nat.le_of_ble_eq_true rfl) (Nat.le_of_ble_eq_true rfl) ?_
  show jx_W _ _ 5 546 _ _ _ jka_210
  refine jr_putR rfl rfl rfl rfl rfl rfl rfl ?_
  show jx_W _ _ 5 546 _ _ _ jka_211
  refine jr_aload rfl rfl ?_
  refine jr_ic rfl ?_
  refine jr_newa (a := 36) (len := 12) rfl rfl (by decide) rfl (Nat.le_of_ble_eq_true rfl) (show _ = nI 12 from rfl) jka_q211 (Nat.le_of_ble_eq_true rfl) (Nat.le_of_ble_eq_true rfl) ?_
  show jx_W _ _ 6 558 _ _ _ jka_212
  refine jr_putR rfl rfl rfl rfl rfl rfl rfl ?_
  show jx_W _ _ 6 558 _ _ _ jka_213
  exact jr_vret rfl rfl (Nat.le_of_ble_eq_true rfl) (Nat.le_of_ble_eq_true rfl) hQ

theorem jka_q214 : (jx_cells 0)[jh_n jka_214]? = some (5, 0) := by decide +kernel
theorem jka_q215 : (jx_cells 0)[jh_n jka_215]? = some (37, 0) := by decide +kernel
theorem jka_q217 : (jx_cells 0)[jh_n jka_217]? = some (38, 0) := by decide +kernel
theorem jka_q219 : (jx_cells 0)[jh_n jka_219]? = some (39, 0) := by decide +kernel
theorem jka_q221 : (jx_cells 0)[jh_n jka_221]? = some (40, 0) := by decide +kernel
theorem jka_q223 : (jx_cells 0)[jh_n jka_223]? = some (41, 0) := by decide +kernel
set_option maxHeartbeats 4000000 in
set_option maxRecDepth 100000 in
theorem ek_Poll_init_1 {d : Nat} {Q : Option jx_V → jx_H → Prop} (hQ : Q none jka_226) : jx_Ev jm_Poll_init (d + 11) 5 397 true 0 [jv_r 5 0, jv_r 1 0] jka_215 Q := by
  show jx_W (jm_Poll_init, d + 11, 5, 397, true, 0, _) Q 0 0 0 [some (jv_r 5 0), some (jv_r 1 0)] [] jka_215
  refine jr_aload rfl rfl ?_
  refine jr_objI rfl rfl (Nat.succ_le_succ (Nat.zero_le _)) rfl ?_
  refine jr_aload rfl rfl ?_
  refine jr_ic rfl ?_
  refine jr_newa (a := 37) (len := 40) rfl rfl (by decide) rfl (Nat.le_of_ble_eq_true rfl) (show _ = nI 40 from rfl) jka_q215 (Nat.le_of_ble_eq_true rfl) (Nat.le_of_ble_eq_true rfl) ?_
  show jx_W _ _ 1 40 _ _ _ jka_216
  refine jr_putR rfl rfl rfl rfl rfl rfl rfl ?_
  show jx_W _ _ 1 40 _ _ _ jka_217
  refine jr_aload rfl rfl ?_
  refine jr_ic rfl ?_
  refine jr_newa (a := 38) (len := 32) rfl rfl (by decide) rfl (Nat.le_of_ble_eq_true rfl) (show _ = nI 32 from rfl) jka_q217 (Nat.le_of_ble_eq_true rfl) (Nat.le_of_ble_eq_true rfl) ?_
  show jx_W _ _ 2 72 _ _ _ jka_218
  refine jr_putR rfl rfl rfl rfl rfl rfl rfl ?_
  show jx_W _ _ 2 72 _ _ _ jka_219
  refine jr_aload rfl rfl ?_
  refine jr_ic rfl ?_
  refine jr_newa (a := 39) (len := 5) rfl rfl (by decide) rfl (Nat.le_of_ble_eq_true rfl) (show _ = nI 5 from rfl) jka_q219 (Nat.le_of_ble_eq_true rfl) (Nat.le_of_ble_eq_true rfl) ?_
  show jx_W _ _ 3 77 _ _ _ jka_220
  refine jr_putR rfl rfl rfl rfl rfl rfl rfl ?_
  show jx_W _ _ 3 77 _ _ _ jka_221
  refine jr_aload rfl rfl ?_
  refine jr_ic rfl ?_
  refine jr_newa (a := 40) (len := 160) rfl rfl (by decide) rfl (Nat.le_of_ble_eq_true rfl) (show _ = nI 160 from rfl) jka_q221 (Nat.le_of_ble_eq_true rfl) (Nat.le_of_ble_eq_true rfl) ?_
  show jx_W _ _ 4 237 _ _ _ jka_222
  refine jr_putR rfl rfl rfl rfl rfl rfl rfl ?_
  show jx_W _ _ 4 237 _ _ _ jka_223
  refine jr_aload rfl rfl ?_
  refine jr_ic rfl ?_
  refine jr_newa (a := 41) (len := 160) rfl rfl (by decide) rfl (Nat.le_of_ble_eq_true rfl) (show _ = nI 160 from rfl) jka_q223 (Nat.le_of_ble_eq_true rfl) (Nat.le_of_ble_eq_true rfl) ?_
  show jx_W _ _ 5 397 _ _ _ jka_224
  refine jr_putR rfl rfl rfl rfl rfl rfl rfl ?_
  show jx_W _ _ 5 397 _ _ _ jka_225
  refine jr_aload rfl rfl ?_
  refine jr_aload rfl rfl ?_
  refine jr_putM rfl rfl rfl rfl ?_
  show jx_W _ _ 5 397 _ _ _ jka_226
  exact jr_vret rfl rfl (Nat.le_of_ble_eq_true rfl) (Nat.le_of_ble_eq_true rfl) hQ

theorem jka_q227 : (jx_cells 0)[jh_n jka_227]? = some (8, 0) := by decide +kernel
theorem jka_q229 : (jx_cells 0)[jh_n jka_229]? = some (42, 0) := by decide +kernel
theorem jka_q231 : (jx_cells 0)[jh_n jka_231]? = some (43, 0) := by decide +kernel
theorem jka_q233 : (jx_cells 0)[jh_n jka_233]? = some (44, 0) := by decide +kernel
set_option maxHeartbeats 4000000 in
set_option maxRecDepth 100000 in
theorem ek_Sway_init_1 {d : Nat} {Q : Option jx_V → jx_H → Prop} (hQ : Q none jka_235) : jx_Ev jm_Sway_init (d + 11) 3 170 true 0 [jv_r 8 0, jv_r 5 0] jka_228 Q := by
  show jx_W (jm_Sway_init, d + 11, 3, 170, true, 0, _) Q 0 0 0 [some (jv_r 8 0), some (jv_r 5 0)] [] jka_228
  refine jr_aload rfl rfl ?_
  refine jr_objI rfl rfl (Nat.succ_le_succ (Nat.zero_le _)) rfl ?_
  refine jr_aload rfl rfl ?_
  refine jr_aload rfl rfl ?_
  refine jr_putR rfl rfl rfl rfl rfl rfl rfl ?_
  show jx_W _ _ 0 0 _ _ _ jka_229
  refine jr_aload rfl rfl ?_
  refine jr_ic rfl ?_
  refine jr_newa (a := 42) (len := 5) rfl rfl (by decide) rfl (Nat.le_of_ble_eq_true rfl) (show _ = nI 5 from rfl) jka_q229 (Nat.le_of_ble_eq_true rfl) (Nat.le_of_ble_eq_true rfl) ?_
  show jx_W _ _ 1 5 _ _ _ jka_230
  refine jr_putR rfl rfl rfl rfl rfl rfl rfl ?_
  show jx_W _ _ 1 5 _ _ _ jka_231
  refine jr_aload rfl rfl ?_
  refine jr_ic rfl ?_
  refine jr_newa (a := 43) (len := 5) rfl rfl (by decide) rfl (Nat.le_of_ble_eq_true rfl) (show _ = nI 5 from rfl) jka_q231 (Nat.le_of_ble_eq_true rfl) (Nat.le_of_ble_eq_true rfl) ?_
  show jx_W _ _ 2 10 _ _ _ jka_232
  refine jr_putR rfl rfl rfl rfl rfl rfl rfl ?_
  show jx_W _ _ 2 10 _ _ _ jka_233
  refine jr_aload rfl rfl ?_
  refine jr_ic rfl ?_
  refine jr_newa (a := 44) (len := 160) rfl rfl (by decide) rfl (Nat.le_of_ble_eq_true rfl) (show _ = nI 160 from rfl) jka_q233 (Nat.le_of_ble_eq_true rfl) (Nat.le_of_ble_eq_true rfl) ?_
  show jx_W _ _ 3 170 _ _ _ jka_234
  refine jr_putR rfl rfl rfl rfl rfl rfl rfl ?_
  show jx_W _ _ 3 170 _ _ _ jka_235
  exact jr_vret rfl rfl (Nat.le_of_ble_eq_true rfl) (Nat.le_of_ble_eq_true rfl) hQ

theorem jka_q236 : (jx_cells 0)[jh_n jka_236]? = some (3, 0) := by decide +kernel
theorem jka_q237 : (jx_cells 0)[jh_n jka_237]? = some (1, 4) := by decide +kernel
theorem jka_q239 : (jx_cells 0)[jh_n jka_239]? = some (31, 4) := by decide +kernel
theorem jka_q241 : (jx_cells 0)[jh_n jka_241]? = some (32, 4) := by decide +kernel
theorem jka_q243 : (jx_cells 0)[jh_n jka_243]? = some (33, 4) := by decide +kernel
theorem jka_q245 : (jx_cells 0)[jh_n jka_245]? = some (34, 4) := by decide +kernel
theorem jka_q247 : (jx_cells 0)[jh_n jka_247]? = some (35, 4) := by decide +kernel
theorem jka_q249 : (jx_cells 0)[jh_n jka_249]? = some (36, 4) := by decide +kernel
set_option maxHeartbeats 4000000 in
set_option maxRecDepth 100000 in
theorem ek_Cal_init_5 {d : Nat} {Q : Option jx_V → jx_H → Prop} (hQ : Q none jka_251) : jx_Ev jm_Cal_init (d + 11) 6 558 true 0 [jv_r 1 4, jv_r 7 0] jka_238 Q := by
  show jx_W (jm_Cal_init, d + 11, 6, 558, true, 0, _) Q 0 0 0 [some (jv_r 1 4), some (jv_r 7 0)] [] jka_238
  refine jr_aload rfl rfl ?_
  refine jr_objI rfl rfl (Nat.succ_le_succ (Nat.zero_le _)) rfl ?_
  refine jr_aload rfl rfl ?_
  refine jr_aload rfl rfl ?_
  refine jr_putM rfl rfl rfl rfl ?_
  show jx_W _ _ 0 0 _ _ _ jka_239
  refine jr_aload rfl rfl ?_
  refine jr_ic rfl ?_
  refine jr_newa (a := 31) (len := 512) rfl rfl (by decide) rfl (Nat.le_of_ble_eq_true rfl) (show _ = nI 512 from rfl) jka_q239 (Nat.le_of_ble_eq_true rfl) (Nat.le_of_ble_eq_true rfl) ?_
  show jx_W _ _ 1 512 _ _ _ jka_240
  refine jr_putR rfl rfl rfl rfl rfl rfl rfl ?_
  show jx_W _ _ 1 512 _ _ _ jka_241
  refine jr_aload rfl rfl ?_
  refine jr_ic rfl ?_
  refine jr_newa (a := 32) (len := 5) rfl rfl (by decide) rfl (Nat.le_of_ble_eq_true rfl) (show _ = nI 5 from rfl) jka_q241 (Nat.le_of_ble_eq_true rfl) (Nat.le_of_ble_eq_true rfl) ?_
  show jx_W _ _ 2 517 _ _ _ jka_242
  refine jr_putR rfl rfl rfl rfl rfl rfl rfl ?_
  show jx_W _ _ 2 517 _ _ _ jka_243
  refine jr_aload rfl rfl ?_
  refine jr_ic rfl ?_
  refine jr_newa (a := 33) (len := 5) rfl rfl (by decide) rfl (Nat.le_of_ble_eq_true rfl) (show _ = nI 5 from rfl) jka_q243 (Nat.le_of_ble_eq_true rfl) (Nat.le_of_ble_eq_true rfl) ?_
  show jx_W _ _ 3 522 _ _ _ jka_244
  refine jr_putR rfl rfl rfl rfl rfl rfl rfl ?_
  show jx_W _ _ 3 522 _ _ _ jka_245
  refine jr_aload rfl rfl ?_
  refine jr_ic rfl ?_
  refine jr_newa (a := 34) (len := 12) rfl rfl (by decide) rfl (Nat.le_of_ble_eq_true rfl) (show _ = nI 12 from rfl) jka_q245 (Nat.le_of_ble_eq_true rfl) (Nat.le_of_ble_eq_true rfl) ?_
  show jx_W _ _ 4 534 _ _ _ jka_246
  refine jr_putR rfl rfl rfl rfl rfl rfl rfl ?_
  show jx_W _ _ 4 534 _ _ _ jka_247
  refine jr_aload rfl rfl ?_
  refine jr_ic rfl ?_
  refine jr_newa (a := 35) (len := 12) rfl rfl (by decide) rfl (Nat.le_of_ble_eq_true rfl) (show _ = nI 12 from rfl) jka_q247 (Nat.le_of_ble_eq_true rfl) (Nat.le_of_ble_eq_true rfl) ?_
  show jx_W _ _ 5 546 _ _ _ jka_248
  refine jr_putR rfl rfl rfl rfl rfl rfl rfl ?_
  show jx_W _ _ 5 546 _ _ _ jka_249
  refine jr_aload rfl rfl ?_
  refine jr_ic rfl ?_
  refine jr_newa (a := 36) (len := 12) rfl rfl (by decide) rfl (Nat.le_of_ble_eq_true rfl) (show _ = nI 12 from rfl) jka_q249 (Nat.le_of_ble_eq_true rfl) (Nat.le_of_ble_eq_true rfl) ?_
  show jx_W _ _ 6 558 _ _ _ jka_250
  refine jr_putR rfl rfl rfl rfl rfl rfl rfl ?_
  show jx_W _ _ 6 558 _ _ _ jka_251
  exact jr_vret rfl rfl (Nat.le_of_ble_eq_true rfl) (Nat.le_of_ble_eq_true rfl) hQ

theorem jka_q253 : (jx_cells 0)[jh_n jka_253]? = some (45, 0) := by decide +kernel
theorem jka_q255 : (jx_cells 0)[jh_n jka_255]? = some (46, 0) := by decide +kernel
theorem jka_q257 : (jx_cells 0)[jh_n jka_257]? = some (47, 0) := by decide +kernel
set_option maxHeartbeats 4000000 in
set_option maxRecDepth 100000 in
theorem ek_For_init_1 {d : Nat} {Q : Option jx_V → jx_H → Prop} (hQ : Q none jka_259) : jx_Ev jm_For_init (d + 11) 3 136 true 0 [jv_r 3 0, jv_r 1 4, jv_r 5 0] jka_251 Q := by
  show jx_W (jm_For_init, d + 11, 3, 136, true, 0, _) Q 0 0 0 [some (jv_r 3 0), some (jv_r 1 4), some (jv_r 5 0)] [] jka_251
  refine jr_aload rfl rfl ?_
  refine jr_objI rfl rfl (Nat.succ_le_succ (Nat.zero_le _)) rfl ?_
  refine jr_aload rfl rfl ?_
  refine jr_aload rfl rfl ?_
  refine jr_putR rfl rfl rfl rfl rfl rfl rfl ?_
  show jx_W _ _ 0 0 _ _ _ jka_252
  refine jr_aload rfl rfl ?_
  refine jr_aload rfl rfl ?_
  refine jr_putR rfl rfl rfl rfl rfl rfl rfl ?_
  show jx_W _ _ 0 0 _ _ _ jka_253
  refine jr_aload rfl rfl ?_
  refine jr_ic rfl ?_
  refine jr_newa (a := 45) (len := 4) rfl rfl (by decide) rfl (Nat.le_of_ble_eq_true rfl) (show _ = nI 4 from rfl) jka_q253 (Nat.le_of_ble_eq_true rfl) (Nat.le_of_ble_eq_true rfl) ?_
  show jx_W _ _ 1 4 _ _ _ jka_254
  refine jr_putR rfl rfl rfl rfl rfl rfl rfl ?_
  show jx_W _ _ 1 4 _ _ _ jka_255
  refine jr_aload rfl rfl ?_
  refine jr_ic rfl ?_
  refine jr_newa (a := 46) (len := 128) rfl rfl (by decide) rfl (Nat.le_of_ble_eq_true rfl) (show _ = nI 128 from rfl) jka_q255 (Nat.le_of_ble_eq_true rfl) (Nat.le_of_ble_eq_true rfl) ?_
  show jx_W _ _ 2 132 _ _ _ jka_256
  refine jr_putR rfl rfl rfl rfl rfl rfl rfl ?_
  show jx_W _ _ 2 132 _ _ _ jka_257
  refine jr_aload rfl rfl ?_
  refine jr_ic rfl ?_
  refine jr_newa (a := 47) (len := 4) rfl rfl (by decide) rfl (Nat.le_of_ble_eq_true rfl) (show _ = nI 4 from rfl) jka_q257 (Nat.le_of_ble_eq_true rfl) (Nat.le_of_ble_eq_true rfl) ?_
  show jx_W _ _ 3 136 _ _ _ jka_258
  refine jr_putR rfl rfl rfl rfl rfl rfl rfl ?_
  show jx_W _ _ 3 136 _ _ _ jka_259
  exact jr_vret rfl rfl (Nat.le_of_ble_eq_true rfl) (Nat.le_of_ble_eq_true rfl) hQ

theorem jka_q260 : (jx_cells 0)[jh_n jka_260]? = some (0, 0) := by decide +kernel
theorem jka_q261 : (jx_cells 0)[jh_n jka_261]? = some (48, 0) := by decide +kernel
theorem jka_q263 : (jx_cells 0)[jh_n jka_263]? = some (49, 0) := by decide +kernel
theorem jka_q265 : (jx_cells 0)[jh_n jka_265]? = some (50, 0) := by decide +kernel
theorem jka_q267 : (jx_cells 0)[jh_n jka_267]? = some (51, 0) := by decide +kernel
set_option maxHeartbeats 4000000 in
set_option maxRecDepth 100000 in
theorem ek_Acts_init_1 {d : Nat} {Q : Option jx_V → jx_H → Prop} (hQ : Q none jka_269) : jx_Ev jm_Acts_init (d + 11) 4 160 true 0 [jv_r 0 0] jka_261 Q := by
  show jx_W (jm_Acts_init, d + 11, 4, 160, true, 0, _) Q 0 0 0 [some (jv_r 0 0)] [] jka_261
  refine jr_aload rfl rfl ?_
  refine jr_objI rfl rfl (Nat.succ_le_succ (Nat.zero_le _)) rfl ?_
  refine jr_aload rfl rfl ?_
  refine jr_ic rfl ?_
  refine jr_newa (a := 48) (len := 40) rfl rfl (by decide) rfl (Nat.le_of_ble_eq_true rfl) (show _ = nI 40 from rfl) jka_q261 (Nat.le_of_ble_eq_true rfl) (Nat.le_of_ble_eq_true rfl) ?_
  show jx_W _ _ 1 40 _ _ _ jka_262
  refine jr_putR rfl rfl rfl rfl rfl rfl rfl ?_
  show jx_W _ _ 1 40 _ _ _ jka_263
  refine jr_aload rfl rfl ?_
  refine jr_ic rfl ?_
  refine jr_newa (a := 49) (len := 40) rfl rfl (by decide) rfl (Nat.le_of_ble_eq_true rfl) (show _ = nI 40 from rfl) jka_q263 (Nat.le_of_ble_eq_true rfl) (Nat.le_of_ble_eq_true rfl) ?_
  show jx_W _ _ 2 80 _ _ _ jka_264
  refine jr_putR rfl rfl rfl rfl rfl rfl rfl ?_
  show jx_W _ _ 2 80 _ _ _ jka_265
  refine jr_aload rfl rfl ?_
  refine jr_ic rfl ?_
  refine jr_newa (a := 50) (len := 40) rfl rfl (by decide) rfl (Nat.le_of_ble_eq_true rfl) (show _ = nI 40 from rfl) jka_q265 (Nat.le_of_ble_eq_true rfl) (Nat.le_of_ble_eq_true rfl) ?_
  show jx_W _ _ 3 120 _ _ _ jka_266
  refine jr_putR rfl rfl rfl rfl rfl rfl rfl ?_
  show jx_W _ _ 3 120 _ _ _ jka_267
  refine jr_aload rfl rfl ?_
  refine jr_ic rfl ?_
  refine jr_newa (a := 51) (len := 40) rfl rfl (by decide) rfl (Nat.le_of_ble_eq_true rfl) (show _ = nI 40 from rfl) jka_q267 (Nat.le_of_ble_eq_true rfl) (Nat.le_of_ble_eq_true rfl) ?_
  show jx_W _ _ 4 160 _ _ _ jka_268
  refine jr_putR rfl rfl rfl rfl rfl rfl rfl ?_
  show jx_W _ _ 4 160 _ _ _ jka_269
  exact jr_vret rfl rfl (Nat.le_of_ble_eq_true rfl) (Nat.le_of_ble_eq_true rfl) hQ

theorem jka_q270 : (jx_cells 0)[jh_n jka_270]? = some (4, 0) := by decide +kernel
theorem jka_q271 : (jx_cells 0)[jh_n jka_271]? = some (52, 0) := by decide +kernel
theorem jka_q273 : (jx_cells 0)[jh_n jka_273]? = some (53, 0) := by decide +kernel
theorem jka_q275 : (jx_cells 0)[jh_n jka_275]? = some (54, 0) := by decide +kernel
theorem jka_q277 : (jx_cells 0)[jh_n jka_277]? = some (55, 0) := by decide +kernel
theorem jka_q279 : (jx_cells 0)[jh_n jka_279]? = some (56, 0) := by decide +kernel
theorem jka_qm113 : jx_mq 0 (jh_n jka_281) 57 = true := by decide +kernel
theorem jka_qm120 : jx_mq 0 (jh_n jka_290) 59 = true := by decide +kernel
set_option maxHeartbeats 4000000 in
set_option maxRecDepth 100000 in
theorem ek_Led_init_1 {d : Nat} {Q : Option jx_V → jx_H → Prop} (hQ : Q none jka_299) : jx_Ev jm_Led_init (d + 11) 19 2405 true 0 [jv_r 4 0] jka_271 Q := by
  show jx_W (jm_Led_init, d + 11, 19, 2405, true, 0, _) Q 0 0 0 [some (jv_r 4 0)] [] jka_271
  refine jr_aload rfl rfl ?_
  refine jr_objI rfl rfl (Nat.succ_le_succ (Nat.zero_le _)) rfl ?_
  refine jr_aload rfl rfl ?_
  refine jr_ic rfl ?_
  refine jr_newa (a := 52) (len := 30) rfl rfl (by decide) rfl (Nat.le_of_ble_eq_true rfl) (show _ = nI 30 from rfl) jka_q271 (Nat.le_of_ble_eq_true rfl) (Nat.le_of_ble_eq_true rfl) ?_
  show jx_W _ _ 1 30 _ _ _ jka_272
  refine jr_putR rfl rfl rfl rfl rfl rfl rfl ?_
  show jx_W _ _ 1 30 _ _ _ jka_273
  refine jr_aload rfl rfl ?_
  refine jr_ic rfl ?_
  refine jr_newa (a := 53) (len := 30) rfl rfl (by decide) rfl (Nat.le_of_ble_eq_true rfl) (show _ = nI 30 from rfl) jka_q273 (Nat.le_of_ble_eq_true rfl) (Nat.le_of_ble_eq_true rfl) ?_
  show jx_W _ _ 2 60 _ _ _ jka_274
  refine jr_putR rfl rfl rfl rfl rfl rfl rfl ?_
  show jx_W _ _ 2 60 _ _ _ jka_275
  refine jr_aload rfl rfl ?_
  refine jr_ic rfl ?_
  refine jr_newa (a := 54) (len := 30) rfl rfl (by decide) rfl (Nat.le_of_ble_eq_true rfl) (show _ = nI 30 from rfl) jka_q275 (Nat.le_of_ble_eq_true rfl) (Nat.le_of_ble_eq_true rfl) ?_
  show jx_W _ _ 3 90 _ _ _ jka_276
  refine jr_putR rfl rfl rfl rfl rfl rfl rfl ?_
  show jx_W _ _ 3 90 _ _ _ jka_277
  refine jr_aload rfl rfl ?_
  refine jr_ic rfl ?_
  refine jr_newa (a := 55) (len := 30) rfl rfl (by decide) rfl (Nat.le_of_ble_eq_true rfl) (show _ = nI 30 from rfl) jka_q277 (Nat.le_of_ble_eq_true rfl) (Nat.le_of_ble_eq_true rfl) ?_
  show jx_W _ _ 4 120 _ _ _ jka_278
  refine jr_putR rfl rfl rfl rfl rfl rfl rfl ?_
  show jx_W _ _ 4 120 _ _ _ jka_279
  refine jr_aload rfl rfl ?_
  refine jr_ic rfl ?_
  refine jr_newa (a := 56) (len := 401) rfl rfl (by decide) rfl (Nat.le_of_ble_eq_true rfl) (show _ = nI 401 from rfl) jka_q279 (Nat.le_of_ble_eq_true rfl) (Nat.le_of_ble_eq_true rfl) ?_
  show jx_W _ _ 5 521 _ _ _ jka_280
  refine jr_putR rfl rfl rfl rfl rfl rfl rfl ?_
  show jx_W _ _ 5 521 _ _ _ jka_281
  refine jr_aload rfl rfl ?_
  refine jr_ic rfl ?_
  refine jr_ic rfl ?_
  refine jr_multi (a := 57) rfl (by decide) rfl jka_qm113 (Nat.le_of_ble_eq_true rfl) (Nat.le_of_ble_eq_true rfl) ?_
  show jx_W _ _ 12 1463 _ _ _ jka_289
  refine jr_putR rfl rfl rfl rfl rfl rfl rfl ?_
  show jx_W _ _ 12 1463 _ _ _ jka_290
  refine jr_aload rfl rfl ?_
  refine jr_ic rfl ?_
  refine jr_ic rfl ?_
  refine jr_multi (a := 59) rfl (by decide) rfl jka_qm120 (Nat.le_of_ble_eq_true rfl) (Nat.le_of_ble_eq_true rfl) ?_
  show jx_W _ _ 19 2405 _ _ _ jka_298
  refine jr_putR rfl rfl rfl rfl rfl rfl rfl ?_
  show jx_W _ _ 19 2405 _ _ _ jka_299
  exact jr_vret rfl rfl (Nat.le_of_ble_eq_true rfl) (Nat.le_of_ble_eq_true rfl) hQ

theorem jka_q300 : (jx_cells 0)[jh_n jka_300]? = some (63, 0) := by decide +kernel
set_option maxHeartbeats 4000000 in
set_option maxRecDepth 100000 in
theorem ek_JV_init_1 {d : Nat} {Q : Option jx_V → jx_H → Prop} (hQ : Q none jka_303) : jx_Ev jm_JV_init (d + 12) 127 16696 true 0 [jv_r 10 0] jka_0 Q := by
  show jx_W (jm_JV_init, d + 12, 127, 16696, true, 0, _) Q 0 0 0 [some (jv_r 10 0), none] [] jka_0
  refine jr_aload rfl rfl ?_
  refine jr_objI rfl rfl (Nat.succ_le_succ (Nat.zero_le _)) rfl ?_
  refine jr_aload rfl rfl ?_
  refine jr_new rfl rfl (by decide) jka_q0 (Nat.le_of_ble_eq_true rfl) (Nat.le_of_ble_eq_true rfl) ?_
  show jx_W _ _ 1 12 _ _ _ jka_1
  refine jr_dup_r rfl ?_
  refine jr_ci0 (mc' := 5) (ms' := 6832) rfl jm_Tape_init_n jm_Tape_init_f rfl rfl rfl rfl rfl rfl rfl (Nat.le_of_ble_eq_true rfl) (Nat.le_of_ble_eq_true rfl) ?_
  refine ek_Tape_init_1 ?_
  show jx_W _ _ 6 6844 _ _ _ jka_12
  refine jr_putR rfl rfl rfl rfl rfl rfl rfl ?_
  show jx_W _ _ 6 6844 _ _ _ jka_13
  refine jr_aload rfl rfl ?_
  refine jr_new rfl rfl (by decide) jka_q13 (Nat.le_of_ble_eq_true rfl) (Nat.le_of_ble_eq_true rfl) ?_
  show jx_W _ _ 7 6862 _ _ _ jka_14
  refine jr_dup_r rfl ?_
  refine jr_ci0 (mc' := 19) (ms' := 1813) rfl jm_Rep_init_n jm_Rep_init_f rfl rfl rfl rfl rfl rfl rfl (Nat.le_of_ble_eq_true rfl) (Nat.le_of_ble_eq_true rfl) ?_
  refine ek_Rep_init_1 ?_
  show jx_W _ _ 26 8675 _ _ _ jka_75
  refine jr_putM rfl rfl rfl rfl ?_
  show jx_W _ _ 26 8675 _ _ _ jka_76
  refine jr_aload rfl rfl ?_
  refine jr_new rfl rfl (by decide) jka_q76 (Nat.le_of_ble_eq_true rfl) (Nat.le_of_ble_eq_true rfl) ?_
  show jx_W _ _ 27 8693 _ _ _ jka_77
  refine jr_dup_r rfl ?_
  refine jr_ci0 (mc' := 19) (ms' := 1813) rfl jm_Rep_init_n jm_Rep_init_f rfl rfl rfl rfl rfl rfl rfl (Nat.le_of_ble_eq_true rfl) (Nat.le_of_ble_eq_true rfl) ?_
  refine ek_Rep_init_2 ?_
  show jx_W _ _ 46 10506 _ _ _ jka_138
  refine jr_putM rfl rfl rfl rfl ?_
  show jx_W _ _ 46 10506 _ _ _ jka_139
  refine jr_aload rfl rfl ?_
  refine jr_new rfl rfl (by decide) jka_q139 (Nat.le_of_ble_eq_true rfl) (Nat.le_of_ble_eq_true rfl) ?_
  show jx_W _ _ 47 10516 _ _ _ jka_140
  refine jr_dup_r rfl ?_
  refine jr_aload rfl rfl ?_
  refine jr_getR rfl rfl rfl rfl (Or.inr (by decide +kernel)) ?_
  refine jr_aload rfl rfl ?_
  refine jr_getM (v := 1) rfl rfl rfl rfl (by decide +kernel) ?_
  refine jr_ci2 (mc' := 3) (ms' := 23) rfl jm_Rdr_init_n jm_Rdr_init_f rfl rfl rfl rfl rfl rfl rfl (Nat.le_of_ble_eq_true rfl) (Nat.le_of_ble_eq_true rfl) ?_
  refine ek_Rdr_init_1 ?_
  show jx_W _ _ 50 10539 _ _ _ jka_149
  refine jr_putR rfl rfl rfl rfl rfl rfl rfl ?_
  show jx_W _ _ 50 10539 _ _ _ jka_150
  refine jr_aload rfl rfl ?_
  refine jr_new rfl rfl (by decide) jka_q150 (Nat.le_of_ble_eq_true rfl) (Nat.le_of_ble_eq_true rfl) ?_
  show jx_W _ _ 51 10548 _ _ _ jka_151
  refine jr_dup_r rfl ?_
  refine jr_aload rfl rfl ?_
  refine jr_getM (v := 0) rfl rfl rfl rfl (by decide +kernel) ?_
  refine jr_ci1 (mc' := 6) (ms' := 558) rfl jm_Cal_init_n jm_Cal_init_f rfl rfl rfl rfl rfl rfl rfl (Nat.le_of_ble_eq_true rfl) (Nat.le_of_ble_eq_true rfl) ?_
  refine ek_Cal_init_1 ?_
  show jx_W _ _ 57 11106 _ _ _ jka_164
  refine jr_putR rfl rfl rfl rfl rfl rfl rfl ?_
  show jx_W _ _ 57 11106 _ _ _ jka_165
  refine jr_aload rfl rfl ?_
  refine jr_ic rfl ?_
  refine jr_anew (a := 61) (so := 6) (len := 3) rfl rfl (by decide) rfl (Nat.le_of_ble_eq_true rfl) (show _ = nI 3 from rfl) jka_q165 (Nat.le_of_ble_eq_true rfl) (Nat.le_of_ble_eq_true rfl) ?_
  show jx_W _ _ 58 11109 _ _ _ jka_166
  refine jr_putR rfl rfl rfl rfl rfl rfl rfl ?_
  show jx_W _ _ 58 11109 _ _ _ jka_167
  refine jr_aload rfl rfl ?_
  refine jr_ic rfl ?_
  refine jr_newa (a := 62) (len := 3) rfl rfl (by decide) rfl (Nat.le_of_ble_eq_true rfl) (show _ = nI 3 from rfl) jka_q167 (Nat.le_of_ble_eq_true rfl) (Nat.le_of_ble_eq_true rfl) ?_
  show jx_W _ _ 59 11112 _ _ _ jka_168
  refine jr_putR rfl rfl rfl rfl rfl rfl rfl ?_
  show jx_W _ _ 59 11112 _ _ _ jka_169
  refine jr_ic rfl ?_
  refine jr_ist1 rfl rfl ?_
  refine jr_iload rfl rfl ?_
  refine jr_ic rfl ?_
  refine jr_icmp_ge rfl (fun z => absurd z (by decide +kernel)) (fun _ => ?_)
  refine jr_aload rfl rfl ?_
  refine jr_getR rfl rfl rfl rfl (Or.inr (by decide +kernel)) ?_
  refine jr_iload rfl rfl ?_
  refine jr_new rfl rfl (by decide) jka_q169 (Nat.le_of_ble_eq_true rfl) (Nat.le_of_ble_eq_true rfl) ?_
  show jx_W _ _ 60 11121 _ _ _ jka_170
  refine jr_dup_r rfl ?_
  refine jr_aload rfl rfl ?_
  refine jr_getM (v := 0) rfl rfl rfl rfl (by decide +kernel) ?_
  refine jr_ci1 (mc' := 6) (ms' := 558) rfl jm_Cal_init_n jm_Cal_init_f rfl rfl rfl rfl rfl rfl rfl (Nat.le_of_ble_eq_true rfl) (Nat.le_of_ble_eq_true rfl) ?_
  refine ek_Cal_init_2 ?_
  show jx_W _ _ 66 11679 _ _ _ jka_183
  refine jr_aast (so := 6) (len := 3) rfl rfl (by decide) rfl rfl (show _ = nI 0 from rfl) (Nat.le_of_ble_eq_true rfl) ?_
  show jx_W _ _ 66 11679 _ _ _ jka_184
  refine jr_iinc1 rfl rfl ?_
  refine jr_goto rfl ?_
  refine jr_iload rfl rfl ?_
  refine jr_ic rfl ?_
  refine jr_icmp_ge rfl (fun z => absurd z (by decide +kernel)) (fun _ => ?_)
  refine jr_aload rfl rfl ?_
  refine jr_getR rfl rfl rfl rfl (Or.inr (by decide +kernel)) ?_
  refine jr_iload rfl rfl ?_
  refine jr_new rfl rfl (by decide) jka_q184 (Nat.le_of_ble_eq_true rfl) (Nat.le_of_ble_eq_true rfl) ?_
  show jx_W _ _ 67 11688 _ _ _ jka_185
  refine jr_dup_r rfl ?_
  refine jr_aload rfl rfl ?_
  refine jr_getM (v := 0) rfl rfl rfl rfl (by decide +kernel) ?_
  refine jr_ci1 (mc' := 6) (ms' := 558) rfl jm_Cal_init_n jm_Cal_init_f rfl rfl rfl rfl rfl rfl rfl (Nat.le_of_ble_eq_true rfl) (Nat.le_of_ble_eq_true rfl) ?_
  refine ek_Cal_init_3 ?_
  show jx_W _ _ 73 12246 _ _ _ jka_198
  refine jr_aast (so := 6) (len := 3) rfl rfl (by decide) rfl rfl (show _ = nI 1 from rfl) (Nat.le_of_ble_eq_true rfl) ?_
  show jx_W _ _ 73 12246 _ _ _ jka_199
  refine jr_iinc1 rfl rfl ?_
  refine jr_goto rfl ?_
  refine jr_iload rfl rfl ?_
  refine jr_ic rfl ?_
  refine jr_icmp_ge rfl (fun z => absurd z (by decide +kernel)) (fun _ => ?_)
  refine jr_aload rfl rfl ?_
  refine jr_getR rfl rfl rfl rfl (Or.inr (by decide +kernel)) ?_
  refine jr_iload rfl rfl ?_
  refine jr_new rfl rfl (by decide) jka_q199 (Nat.le_of_ble_eq_true rfl) (Nat.le_of_ble_eq_true rfl) ?_
  show jx_W _ _ 74 12255 _ _ _ jka_200
  refine jr_dup_r rfl ?_
  refine jr_aload rfl rfl ?_
  refine jr_getM (v := 0) rfl rfl rfl rfl (by decide +kernel) ?_
  refine jr_ci1 (mc' := 6) (ms' := 558) rfl jm_Cal_init_n jm_Cal_init_f rfl rfl rfl rfl rfl rfl rfl (Nat.le_of_ble_eq_true rfl) (Nat.le_of_ble_eq_true rfl) ?_
  refine ek_Cal_init_4 ?_
  show jx_W _ _ 80 12813 _ _ _ jka_213
  refine jr_aast (so := 6) (len := 3) rfl rfl (by decide) rfl rfl (show _ = nI 2 from rfl) (Nat.le_of_ble_eq_true rfl) ?_
  show jx_W _ _ 80 12813 _ _ _ jka_214
  refine jr_iinc1 rfl rfl ?_
  refine jr_goto rfl ?_
  refine jr_iload rfl rfl ?_
  refine jr_ic rfl ?_
  refine jr_icmp_ge rfl (fun _ => ?_) (fun z => absurd (by decide +kernel) z)
  refine jr_aload rfl rfl ?_
  refine jr_new rfl rfl (by decide) jka_q214 (Nat.le_of_ble_eq_true rfl) (Nat.le_of_ble_eq_true rfl) ?_
  show jx_W _ _ 81 12823 _ _ _ jka_215
  refine jr_dup_r rfl ?_
  refine jr_aload rfl rfl ?_
  refine jr_getR rfl rfl rfl rfl (Or.inr (by decide +kernel)) ?_
  refine jr_ci1 (mc' := 5) (ms' := 397) rfl jm_Poll_init_n jm_Poll_init_f rfl rfl rfl rfl rfl rfl rfl (Nat.le_of_ble_eq_true rfl) (Nat.le_of_ble_eq_true rfl) ?_
  refine ek_Poll_init_1 ?_
  show jx_W _ _ 86 13220 _ _ _ jka_226
  refine jr_putR rfl rfl rfl rfl rfl rfl rfl ?_
  show jx_W _ _ 86 13220 _ _ _ jka_227
  refine jr_aload rfl rfl ?_
  refine jr_new rfl rfl (by decide) jka_q227 (Nat.le_of_ble_eq_true rfl) (Nat.le_of_ble_eq_true rfl) ?_
  show jx_W _ _ 87 13225 _ _ _ jka_228
  refine jr_dup_r rfl ?_
  refine jr_aload rfl rfl ?_
  refine jr_getR rfl rfl rfl rfl (Or.inr (by decide +kernel)) ?_
  refine jr_ci1 (mc' := 3) (ms' := 170) rfl jm_Sway_init_n jm_Sway_init_f rfl rfl rfl rfl rfl rfl rfl (Nat.le_of_ble_eq_true rfl) (Nat.le_of_ble_eq_true rfl) ?_
  refine ek_Sway_init_1 ?_
  show jx_W _ _ 90 13395 _ _ _ jka_235
  refine jr_putR rfl rfl rfl rfl rfl rfl rfl ?_
  show jx_W _ _ 90 13395 _ _ _ jka_236
  refine jr_aload rfl rfl ?_
  refine jr_new rfl rfl (by decide) jka_q236 (Nat.le_of_ble_eq_true rfl) (Nat.le_of_ble_eq_true rfl) ?_
  show jx_W _ _ 91 13407 _ _ _ jka_237
  refine jr_dup_r rfl ?_
  refine jr_new rfl rfl (by decide) jka_q237 (Nat.le_of_ble_eq_true rfl) (Nat.le_of_ble_eq_true rfl) ?_
  show jx_W _ _ 92 13416 _ _ _ jka_238
  refine jr_dup_r rfl ?_
  refine jr_aload rfl rfl ?_
  refine jr_getM (v := 0) rfl rfl rfl rfl (by decide +kernel) ?_
  refine jr_ci1 (mc' := 6) (ms' := 558) rfl jm_Cal_init_n jm_Cal_init_f rfl rfl rfl rfl rfl rfl rfl (Nat.le_of_ble_eq_true rfl) (Nat.le_of_ble_eq_true rfl) ?_
  refine ek_Cal_init_5 ?_
  show jx_W _ _ 98 13974 _ _ _ jka_251
  refine jr_aload rfl rfl ?_
  refine jr_getR rfl rfl rfl rfl (Or.inr (by decide +kernel)) ?_
  refine jr_ci2 (mc' := 3) (ms' := 136) rfl jm_For_init_n jm_For_init_f rfl rfl rfl rfl rfl rfl rfl (Nat.le_of_ble_eq_true rfl) (Nat.le_of_ble_eq_true rfl) ?_
  refine ek_For_init_1 ?_
  show jx_W _ _ 101 14110 _ _ _ jka_259
  refine jr_putR rfl rfl rfl rfl rfl rfl rfl ?_
  show jx_W _ _ 101 14110 _ _ _ jka_260
  refine jr_aload rfl rfl ?_
  refine jr_new rfl rfl (by decide) jka_q260 (Nat.le_of_ble_eq_true rfl) (Nat.le_of_ble_eq_true rfl) ?_
  show jx_W _ _ 102 14116 _ _ _ jka_261
  refine jr_dup_r rfl ?_
  refine jr_ci0 (mc' := 4) (ms' := 160) rfl jm_Acts_init_n jm_Acts_init_f rfl rfl rfl rfl rfl rfl rfl (Nat.le_of_ble_eq_true rfl) (Nat.le_of_ble_eq_true rfl) ?_
  refine ek_Acts_init_1 ?_
  show jx_W _ _ 106 14276 _ _ _ jka_269
  refine jr_putR rfl rfl rfl rfl rfl rfl rfl ?_
  show jx_W _ _ 106 14276 _ _ _ jka_270
  refine jr_aload rfl rfl ?_
  refine jr_new rfl rfl (by decide) jka_q270 (Nat.le_of_ble_eq_true rfl) (Nat.le_of_ble_eq_true rfl) ?_
  show jx_W _ _ 107 14286 _ _ _ jka_271
  refine jr_dup_r rfl ?_
  refine jr_ci0 (mc' := 19) (ms' := 2405) rfl jm_Led_init_n jm_Led_init_f rfl rfl rfl rfl rfl rfl rfl (Nat.le_of_ble_eq_true rfl) (Nat.le_of_ble_eq_true rfl) ?_
  refine ek_Led_init_1 ?_
  show jx_W _ _ 126 16691 _ _ _ jka_299
  refine jr_putR rfl rfl rfl rfl rfl rfl rfl ?_
  show jx_W _ _ 126 16691 _ _ _ jka_300
  refine jr_aload rfl rfl ?_
  refine jr_ic rfl ?_
  refine jr_newa (a := 63) (len := 5) rfl rfl (by decide) rfl (Nat.le_of_ble_eq_true rfl) (show _ = nI 5 from rfl) jka_q300 (Nat.le_of_ble_eq_true rfl) (Nat.le_of_ble_eq_true rfl) ?_
  show jx_W _ _ 127 16696 _ _ _ jka_301
  refine jr_putR rfl rfl rfl rfl rfl rfl rfl ?_
  show jx_W _ _ 127 16696 _ _ _ jka_302
  refine jr_aload rfl rfl ?_
  refine jr_ic rfl ?_
  refine jr_putI rfl rfl ?_
  show jx_W _ _ 127 16696 _ _ _ jka_303
  exact jr_vret rfl rfl (Nat.le_of_ble_eq_true rfl) (Nat.le_of_ble_eq_true rfl) hQ

