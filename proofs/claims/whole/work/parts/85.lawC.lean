theorem wtN_144 : Cond.instanceMethod yX9_reset ∈ WT := wt_m (List.mem_of_getElem? (i := 459) (by decide +kernel)) (by decide +kernel)
theorem wtN_145 : Cond.selects RX9 yX9_reset yX9_reset ∈ WT := wt_m (List.mem_of_getElem? (i := 460) (by decide +kernel)) (by decide +kernel)
theorem wtN_146 : Cond.code yX9_reset cX9_reset 1 none ∈ WT := wt_m (List.mem_of_getElem? (i := 461) (by decide +kernel)) (by decide +kernel)
theorem wtN_147 : Cond.instanceMethod yX10_reset ∈ WT := wt_m (List.mem_of_getElem? (i := 1398) (by decide +kernel)) (by decide +kernel)
theorem wtN_148 : Cond.selects RX10 yX10_reset yX10_reset ∈ WT := wt_m (List.mem_of_getElem? (i := 1399) (by decide +kernel)) (by decide +kernel)
theorem wtN_149 : Cond.initialized RX10 ∈ WT := wt_m (List.mem_of_getElem? (i := 116) (by decide +kernel)) (by decide +kernel)
theorem wtN_150 : Cond.code yX10_reset cX10_reset 2 none ∈ WT := wt_m (List.mem_of_getElem? (i := 1400) (by decide +kernel)) (by decide +kernel)
theorem wtN_151 : Cond.instanceMethod yX9_step ∈ WT := wt_m (List.mem_of_getElem? (i := 499) (by decide +kernel)) (by decide +kernel)
theorem wtN_152 : Cond.selects RX9 yX9_step yX9_step ∈ WT := wt_m (List.mem_of_getElem? (i := 500) (by decide +kernel)) (by decide +kernel)
theorem wtN_153 : Cond.code yX9_step cX9_step 1 (some .int) ∈ WT := wt_m (List.mem_of_getElem? (i := 501) (by decide +kernel)) (by decide +kernel)
theorem wtN_154 : Cond.instanceMethod yX10_step ∈ WT := wt_m (List.mem_of_getElem? (i := 1171) (by decide +kernel)) (by decide +kernel)
theorem wtN_155 : Cond.selects RX10 yX10_step yX10_step ∈ WT := wt_m (List.mem_of_getElem? (i := 1172) (by decide +kernel)) (by decide +kernel)
theorem wtN_156 : Cond.code yX10_step cX10_step 1 (some .int) ∈ WT := wt_m (List.mem_of_getElem? (i := 1173) (by decide +kernel)) (by decide +kernel)
theorem wtN_157 : Cond.instanceMethod yX9_run ∈ WT := wt_m (List.mem_of_getElem? (i := 810) (by decide +kernel)) (by decide +kernel)
theorem wtN_158 : Cond.selects RX9 yX9_run yX9_run ∈ WT := wt_m (List.mem_of_getElem? (i := 811) (by decide +kernel)) (by decide +kernel)
theorem wtN_159 : Cond.code yX9_run cX9_run 4 (some .int) ∈ WT := wt_m (List.mem_of_getElem? (i := 812) (by decide +kernel)) (by decide +kernel)
theorem wtN_160 : Cond.instanceMethod yX10_run ∈ WT := wt_m (List.mem_of_getElem? (i := 1394) (by decide +kernel)) (by decide +kernel)
theorem wtN_161 : Cond.selects RX10 yX10_run yX10_run ∈ WT := wt_m (List.mem_of_getElem? (i := 1395) (by decide +kernel)) (by decide +kernel)
theorem wtN_162 : Cond.code yX10_run cX10_run 4 (some .int) ∈ WT := wt_m (List.mem_of_getElem? (i := 1396) (by decide +kernel)) (by decide +kernel)
theorem wtN_163 : Cond.instanceMethod yX9_pass ∈ WT := wt_m (List.mem_of_getElem? (i := 814) (by decide +kernel)) (by decide +kernel)
theorem wtN_164 : Cond.selects RX9 yX9_pass yX9_pass ∈ WT := wt_m (List.mem_of_getElem? (i := 815) (by decide +kernel)) (by decide +kernel)
theorem wtN_165 : Cond.code yX9_pass cX9_pass 2 (some .boolean) ∈ WT := wt_m (List.mem_of_getElem? (i := 816) (by decide +kernel)) (by decide +kernel)
theorem wtN_166 : Cond.instanceMethod yX10_pass ∈ WT := wt_m (List.mem_of_getElem? (i := 1403) (by decide +kernel)) (by decide +kernel)
theorem wtN_167 : Cond.selects RX10 yX10_pass yX10_pass ∈ WT := wt_m (List.mem_of_getElem? (i := 1404) (by decide +kernel)) (by decide +kernel)
theorem wtN_168 : Cond.code yX10_pass cX10_pass 2 (some .boolean) ∈ WT := wt_m (List.mem_of_getElem? (i := 1405) (by decide +kernel)) (by decide +kernel)
theorem wtN_169 : Cond.instanceMethod yX9_read ∈ WT := wt_m (List.mem_of_getElem? (i := 818) (by decide +kernel)) (by decide +kernel)
theorem wtN_170 : Cond.selects RX9 yX9_read yX9_read ∈ WT := wt_m (List.mem_of_getElem? (i := 819) (by decide +kernel)) (by decide +kernel)
theorem wtN_171 : Cond.code yX9_read cX9_read 2 (some .int) ∈ WT := wt_m (List.mem_of_getElem? (i := 820) (by decide +kernel)) (by decide +kernel)
theorem wtN_172 : Cond.instanceMethod yX10_read ∈ WT := wt_m (List.mem_of_getElem? (i := 1407) (by decide +kernel)) (by decide +kernel)
theorem wtN_173 : Cond.selects RX10 yX10_read yX10_read ∈ WT := wt_m (List.mem_of_getElem? (i := 1408) (by decide +kernel)) (by decide +kernel)
theorem wtN_174 : Cond.code yX10_read cX10_read 2 (some .int) ∈ WT := wt_m (List.mem_of_getElem? (i := 1409) (by decide +kernel)) (by decide +kernel)
theorem wtN_175 : Cond.instanceMethod yX9_write ∈ WT := wt_m (List.mem_of_getElem? (i := 823) (by decide +kernel)) (by decide +kernel)
theorem wtN_176 : Cond.selects RX9 yX9_write yX9_write ∈ WT := wt_m (List.mem_of_getElem? (i := 824) (by decide +kernel)) (by decide +kernel)
theorem wtN_177 : Cond.code yX9_write cX9_write 3 none ∈ WT := wt_m (List.mem_of_getElem? (i := 825) (by decide +kernel)) (by decide +kernel)
theorem wtN_178 : Cond.instanceMethod yX10_write ∈ WT := wt_m (List.mem_of_getElem? (i := 1411) (by decide +kernel)) (by decide +kernel)
theorem wtN_179 : Cond.selects RX10 yX10_write yX10_write ∈ WT := wt_m (List.mem_of_getElem? (i := 1412) (by decide +kernel)) (by decide +kernel)
theorem wtN_180 : Cond.code yX10_write cX10_write 3 none ∈ WT := wt_m (List.mem_of_getElem? (i := 1413) (by decide +kernel)) (by decide +kernel)
theorem wtN_181 : Cond.instanceMethod yX9_memory ∈ WT := wt_m (List.mem_of_getElem? (i := 828) (by decide +kernel)) (by decide +kernel)
theorem wtN_182 : Cond.selects RX9 yX9_memory yX9_memory ∈ WT := wt_m (List.mem_of_getElem? (i := 829) (by decide +kernel)) (by decide +kernel)
theorem wtN_183 : Cond.code yX9_memory cX9_memory 2 (some .int) ∈ WT := wt_m (List.mem_of_getElem? (i := 830) (by decide +kernel)) (by decide +kernel)
theorem wtN_184 : Cond.instanceMethod yX10_memory ∈ WT := wt_m (List.mem_of_getElem? (i := 1432) (by decide +kernel)) (by decide +kernel)
theorem wtN_185 : Cond.selects RX10 yX10_memory yX10_memory ∈ WT := wt_m (List.mem_of_getElem? (i := 1433) (by decide +kernel)) (by decide +kernel)
theorem wtN_186 : Cond.code yX10_memory cX10_memory 2 (some .int) ∈ WT := wt_m (List.mem_of_getElem? (i := 1434) (by decide +kernel)) (by decide +kernel)
theorem wtN_187 : Cond.instanceMethod yX10_rom ∈ WT := wt_m (List.mem_of_getElem? (i := 1163) (by decide +kernel)) (by decide +kernel)
theorem wtN_188 : Cond.selects RX10 yX10_rom yX10_rom ∈ WT := wt_m (List.mem_of_getElem? (i := 1164) (by decide +kernel)) (by decide +kernel)
theorem wtN_189 : Cond.code yX10_rom cX10_rom 3 none ∈ WT := wt_m (List.mem_of_getElem? (i := 1165) (by decide +kernel)) (by decide +kernel)
theorem wtN_190 : Cond.instanceMethod yX10_chr ∈ WT := wt_m (List.mem_of_getElem? (i := 1167) (by decide +kernel)) (by decide +kernel)
theorem wtN_191 : Cond.selects RX10 yX10_chr yX10_chr ∈ WT := wt_m (List.mem_of_getElem? (i := 1168) (by decide +kernel)) (by decide +kernel)
theorem wtN_192 : Cond.code yX10_chr cX10_chr 3 none ∈ WT := wt_m (List.mem_of_getElem? (i := 1169) (by decide +kernel)) (by decide +kernel)
theorem wtN_193 : Cond.instanceMethod yX10_pad ∈ WT := wt_m (List.mem_of_getElem? (i := 1415) (by decide +kernel)) (by decide +kernel)
theorem wtN_194 : Cond.selects RX10 yX10_pad yX10_pad ∈ WT := wt_m (List.mem_of_getElem? (i := 1416) (by decide +kernel)) (by decide +kernel)
theorem wtN_195 : Cond.code yX10_pad cX10_pad 3 none ∈ WT := wt_m (List.mem_of_getElem? (i := 1417) (by decide +kernel)) (by decide +kernel)
theorem wtN_196 : Cond.instanceMethod yX10_core ∈ WT := wt_m (List.mem_of_getElem? (i := 1419) (by decide +kernel)) (by decide +kernel)
theorem wtN_197 : Cond.selects RX10 yX10_core yX10_core ∈ WT := wt_m (List.mem_of_getElem? (i := 1420) (by decide +kernel)) (by decide +kernel)
theorem wtN_198 : Cond.code yX10_core cX10_core 2 (some .int) ∈ WT := wt_m (List.mem_of_getElem? (i := 1421) (by decide +kernel)) (by decide +kernel)
theorem wtN_199 : Cond.instanceMethod yX10_picture ∈ WT := wt_m (List.mem_of_getElem? (i := 1428) (by decide +kernel)) (by decide +kernel)
theorem wtN_200 : Cond.selects RX10 yX10_picture yX10_picture ∈ WT := wt_m (List.mem_of_getElem? (i := 1429) (by decide +kernel)) (by decide +kernel)
theorem wtN_201 : Cond.code yX10_picture cX10_picture 2 (some .int) ∈ WT := wt_m (List.mem_of_getElem? (i := 1430) (by decide +kernel)) (by decide +kernel)
theorem wtN_202 : Cond.instanceMethod yX10_oam ∈ WT := wt_m (List.mem_of_getElem? (i := 1436) (by decide +kernel)) (by decide +kernel)
theorem wtN_203 : Cond.selects RX10 yX10_oam yX10_oam ∈ WT := wt_m (List.mem_of_getElem? (i := 1437) (by decide +kernel)) (by decide +kernel)
theorem wtN_204 : Cond.code yX10_oam cX10_oam 2 (some .int) ∈ WT := wt_m (List.mem_of_getElem? (i := 1438) (by decide +kernel)) (by decide +kernel)
theorem wtN_205 : Cond.instanceMethod yX10_cartridge ∈ WT := wt_m (List.mem_of_getElem? (i := 1440) (by decide +kernel)) (by decide +kernel)
theorem wtN_206 : Cond.selects RX10 yX10_cartridge yX10_cartridge ∈ WT := wt_m (List.mem_of_getElem? (i := 1441) (by decide +kernel)) (by decide +kernel)
theorem wtN_207 : Cond.code yX10_cartridge cX10_cartridge 2 (some .int) ∈ WT := wt_m (List.mem_of_getElem? (i := 1442) (by decide +kernel)) (by decide +kernel)
theorem wtN_208 : Cond.instanceMethod yX10_sound ∈ WT := wt_m (List.mem_of_getElem? (i := 1444) (by decide +kernel)) (by decide +kernel)
theorem wtN_209 : Cond.selects RX10 yX10_sound yX10_sound ∈ WT := wt_m (List.mem_of_getElem? (i := 1445) (by decide +kernel)) (by decide +kernel)
theorem wtN_210 : Cond.code yX10_sound cX10_sound 2 (some .int) ∈ WT := wt_m (List.mem_of_getElem? (i := 1446) (by decide +kernel)) (by decide +kernel)
theorem wtN_211 : Cond.instanceMethod yX10_thrown ∈ WT := wt_m (List.mem_of_getElem? (i := 1159) (by decide +kernel)) (by decide +kernel)
theorem wtN_212 : Cond.selects RX10 yX10_thrown yX10_thrown ∈ WT := wt_m (List.mem_of_getElem? (i := 1160) (by decide +kernel)) (by decide +kernel)
theorem wtN_213 : Cond.code yX10_thrown cX10_thrown 1 (some .int) ∈ WT := wt_m (List.mem_of_getElem? (i := 1161) (by decide +kernel)) (by decide +kernel)
theorem wtN_214 : Cond.methodLink RL 62 yX9_reset ∈ WT := wt_m (List.mem_of_getElem? (i := 458) (by decide +kernel)) (by decide +kernel)
theorem wtN_215 : Cond.methodLink RL 65 yX10_reset ∈ WT := wt_m (List.mem_of_getElem? (i := 1397) (by decide +kernel)) (by decide +kernel)
theorem wtN_216 : Cond.methodLink RL 66 yX9_step ∈ WT := wt_m (List.mem_of_getElem? (i := 498) (by decide +kernel)) (by decide +kernel)
theorem wtN_217 : Cond.methodLink RL 69 yX10_step ∈ WT := wt_m (List.mem_of_getElem? (i := 1170) (by decide +kernel)) (by decide +kernel)
theorem wtN_218 : Cond.methodLink RL 70 yX9_run ∈ WT := wt_m (List.mem_of_getElem? (i := 809) (by decide +kernel)) (by decide +kernel)
theorem wtN_219 : Cond.methodLink RL 73 yX10_run ∈ WT := wt_m (List.mem_of_getElem? (i := 1393) (by decide +kernel)) (by decide +kernel)
theorem wtN_220 : Cond.methodLink RL 74 yX9_pass ∈ WT := wt_m (List.mem_of_getElem? (i := 813) (by decide +kernel)) (by decide +kernel)
theorem wtN_221 : Cond.methodLink RL 78 yX10_pass ∈ WT := wt_m (List.mem_of_getElem? (i := 1402) (by decide +kernel)) (by decide +kernel)
theorem wtN_222 : Cond.methodLink RL 79 yX9_read ∈ WT := wt_m (List.mem_of_getElem? (i := 817) (by decide +kernel)) (by decide +kernel)
theorem wtN_223 : Cond.methodLink RL 82 yX10_read ∈ WT := wt_m (List.mem_of_getElem? (i := 1406) (by decide +kernel)) (by decide +kernel)
theorem wtN_224 : Cond.methodLink RL 83 yX9_write ∈ WT := wt_m (List.mem_of_getElem? (i := 822) (by decide +kernel)) (by decide +kernel)
theorem wtN_225 : Cond.methodLink RL 86 yX10_write ∈ WT := wt_m (List.mem_of_getElem? (i := 1410) (by decide +kernel)) (by decide +kernel)
theorem wtN_226 : Cond.methodLink RL 97 yX9_memory ∈ WT := wt_m (List.mem_of_getElem? (i := 827) (by decide +kernel)) (by decide +kernel)
theorem wtN_227 : Cond.methodLink RL 100 yX10_memory ∈ WT := wt_m (List.mem_of_getElem? (i := 1431) (by decide +kernel)) (by decide +kernel)
theorem wtN_228 : Cond.methodLink RL 51 yL_rom ∈ WT := wt_m (List.mem_of_getElem? (i := 835) (by decide +kernel)) (by decide +kernel)
theorem wtN_229 : Cond.static yL_rom ∈ WT := wt_m (List.mem_of_getElem? (i := 836) (by decide +kernel)) (by decide +kernel)
theorem wtN_230 : Cond.initialized RL ∈ WT := wt_m (List.mem_of_getElem? (i := 106) (by decide +kernel)) (by decide +kernel)
theorem wtN_231 : Cond.codeWith yL_rom cL_rom 4 (some .int) [(0, 6, 9, 13)] ∈ WT := wt_m (List.mem_of_getElem? (i := 837) (by decide +kernel)) (by decide +kernel)
theorem wtN_232 : Cond.methodLink RL 54 yX10_rom ∈ WT := wt_m (List.mem_of_getElem? (i := 1162) (by decide +kernel)) (by decide +kernel)
theorem wtN_233 : Cond.methodLink RL 55 yX10_thrown ∈ WT := wt_m (List.mem_of_getElem? (i := 1158) (by decide +kernel)) (by decide +kernel)
theorem wtN_234 : Cond.methodLink RL 59 yL_chr ∈ WT := wt_m (List.mem_of_getElem? (i := 910) (by decide +kernel)) (by decide +kernel)
theorem wtN_235 : Cond.static yL_chr ∈ WT := wt_m (List.mem_of_getElem? (i := 911) (by decide +kernel)) (by decide +kernel)
theorem wtN_236 : Cond.codeWith yL_chr cL_chr 4 (some .int) [(0, 6, 9, 13)] ∈ WT := wt_m (List.mem_of_getElem? (i := 912) (by decide +kernel)) (by decide +kernel)
theorem wtN_237 : Cond.methodLink RL 61 yX10_chr ∈ WT := wt_m (List.mem_of_getElem? (i := 1166) (by decide +kernel)) (by decide +kernel)
theorem wtN_238 : Cond.methodLink RL 87 yL_pad ∈ WT := wt_m (List.mem_of_getElem? (i := 918) (by decide +kernel)) (by decide +kernel)
theorem wtN_239 : Cond.static yL_pad ∈ WT := wt_m (List.mem_of_getElem? (i := 919) (by decide +kernel)) (by decide +kernel)
theorem wtN_240 : Cond.codeWith yL_pad cL_pad 4 (some .int) [(0, 6, 9, 21)] ∈ WT := wt_m (List.mem_of_getElem? (i := 920) (by decide +kernel)) (by decide +kernel)
theorem wtN_241 : Cond.methodLink RL 89 yX10_pad ∈ WT := wt_m (List.mem_of_getElem? (i := 1414) (by decide +kernel)) (by decide +kernel)
theorem wtN_242 : Cond.methodLink RL 90 yL_core ∈ WT := wt_m (List.mem_of_getElem? (i := 942) (by decide +kernel)) (by decide +kernel)
theorem wtN_243 : Cond.static yL_core ∈ WT := wt_m (List.mem_of_getElem? (i := 943) (by decide +kernel)) (by decide +kernel)
theorem wtN_244 : Cond.codeWith yL_core cL_core 4 (some .int) [(0, 9, 12, 21)] ∈ WT := wt_m (List.mem_of_getElem? (i := 944) (by decide +kernel)) (by decide +kernel)
theorem wtN_245 : Cond.methodLink RL 93 yX10_core ∈ WT := wt_m (List.mem_of_getElem? (i := 1418) (by decide +kernel)) (by decide +kernel)
theorem wtN_246 : Cond.methodLink RL 94 yL_picture ∈ WT := wt_m (List.mem_of_getElem? (i := 950) (by decide +kernel)) (by decide +kernel)
theorem wtN_247 : Cond.static yL_picture ∈ WT := wt_m (List.mem_of_getElem? (i := 951) (by decide +kernel)) (by decide +kernel)
theorem wtN_248 : Cond.codeWith yL_picture cL_picture 4 (some .int) [(0, 9, 12, 21)] ∈ WT := wt_m (List.mem_of_getElem? (i := 952) (by decide +kernel)) (by decide +kernel)
theorem wtN_249 : Cond.methodLink RL 96 yX10_picture ∈ WT := wt_m (List.mem_of_getElem? (i := 1427) (by decide +kernel)) (by decide +kernel)
theorem wtN_250 : Cond.methodLink RL 101 yL_oam ∈ WT := wt_m (List.mem_of_getElem? (i := 958) (by decide +kernel)) (by decide +kernel)
theorem wtN_251 : Cond.static yL_oam ∈ WT := wt_m (List.mem_of_getElem? (i := 959) (by decide +kernel)) (by decide +kernel)
theorem wtN_252 : Cond.codeWith yL_oam cL_oam 4 (some .int) [(0, 9, 12, 21)] ∈ WT := wt_m (List.mem_of_getElem? (i := 960) (by decide +kernel)) (by decide +kernel)
theorem wtN_253 : Cond.methodLink RL 103 yX10_oam ∈ WT := wt_m (List.mem_of_getElem? (i := 1435) (by decide +kernel)) (by decide +kernel)
theorem wtN_254 : Cond.methodLink RL 104 yL_cartridge ∈ WT := wt_m (List.mem_of_getElem? (i := 966) (by decide +kernel)) (by decide +kernel)
theorem wtN_255 : Cond.static yL_cartridge ∈ WT := wt_m (List.mem_of_getElem? (i := 967) (by decide +kernel)) (by decide +kernel)
theorem wtN_256 : Cond.codeWith yL_cartridge cL_cartridge 4 (some .int) [(0, 9, 12, 21)] ∈ WT := wt_m (List.mem_of_getElem? (i := 968) (by decide +kernel)) (by decide +kernel)
theorem wtN_257 : Cond.methodLink RL 106 yX10_cartridge ∈ WT := wt_m (List.mem_of_getElem? (i := 1439) (by decide +kernel)) (by decide +kernel)
theorem wtN_258 : Cond.methodLink RL 107 yL_sound ∈ WT := wt_m (List.mem_of_getElem? (i := 983) (by decide +kernel)) (by decide +kernel)
theorem wtN_259 : Cond.static yL_sound ∈ WT := wt_m (List.mem_of_getElem? (i := 984) (by decide +kernel)) (by decide +kernel)
theorem wtN_260 : Cond.codeWith yL_sound cL_sound 4 (some .int) [(0, 9, 12, 21)] ∈ WT := wt_m (List.mem_of_getElem? (i := 985) (by decide +kernel)) (by decide +kernel)
theorem wtN_261 : Cond.methodLink RL 109 yX10_sound ∈ WT := wt_m (List.mem_of_getElem? (i := 1443) (by decide +kernel)) (by decide +kernel)
section LB
theorem geL_X9_reset : g_callee RX9 yX9_reset cX9_reset 1 none 0 := ⟨by decide +kernel, wtN_144, wtN_145, wtN_111, wtN_146⟩
theorem geL_X10_reset : g_callee RX10 yX10_reset cX10_reset 2 none 0 := ⟨by decide +kernel, wtN_147, wtN_148, wtN_149, wtN_150⟩
theorem geL_X9_step : g_callee RX9 yX9_step cX9_step 1 (some .int) 0 := ⟨by decide +kernel, wtN_151, wtN_152, wtN_111, wtN_153⟩
theorem geL_X10_step : g_callee RX10 yX10_step cX10_step 1 (some .int) 0 := ⟨by decide +kernel, wtN_154, wtN_155, wtN_149, wtN_156⟩
theorem geL_X9_run : g_callee RX9 yX9_run cX9_run 4 (some .int) 1 := ⟨by decide +kernel, wtN_157, wtN_158, wtN_111, wtN_159⟩
theorem geL_X10_run : g_callee RX10 yX10_run cX10_run 4 (some .int) 1 := ⟨by decide +kernel, wtN_160, wtN_161, wtN_149, wtN_162⟩
theorem geL_X9_pass : g_callee RX9 yX9_pass cX9_pass 2 (some .boolean) 1 := ⟨by decide +kernel, wtN_163, wtN_164, wtN_111, wtN_165⟩
theorem geL_X10_pass : g_callee RX10 yX10_pass cX10_pass 2 (some .boolean) 1 := ⟨by decide +kernel, wtN_166, wtN_167, wtN_149, wtN_168⟩
theorem geL_X9_read : g_callee RX9 yX9_read cX9_read 2 (some .int) 1 := ⟨by decide +kernel, wtN_169, wtN_170, wtN_111, wtN_171⟩
theorem geL_X10_read : g_callee RX10 yX10_read cX10_read 2 (some .int) 1 := ⟨by decide +kernel, wtN_172, wtN_173, wtN_149, wtN_174⟩
theorem geL_X9_write : g_callee RX9 yX9_write cX9_write 3 none 2 := ⟨by decide +kernel, wtN_175, wtN_176, wtN_111, wtN_177⟩
theorem geL_X10_write : g_callee RX10 yX10_write cX10_write 3 none 2 := ⟨by decide +kernel, wtN_178, wtN_179, wtN_149, wtN_180⟩
theorem geL_X9_memory : g_callee RX9 yX9_memory cX9_memory 2 (some .int) 1 := ⟨by decide +kernel, wtN_181, wtN_182, wtN_111, wtN_183⟩
theorem geL_X10_memory : g_callee RX10 yX10_memory cX10_memory 2 (some .int) 1 := ⟨by decide +kernel, wtN_184, wtN_185, wtN_149, wtN_186⟩
theorem geL_X10_rom : g_callee RX10 yX10_rom cX10_rom 3 none 2 := ⟨by decide +kernel, wtN_187, wtN_188, wtN_149, wtN_189⟩
theorem geL_X10_chr : g_callee RX10 yX10_chr cX10_chr 3 none 2 := ⟨by decide +kernel, wtN_190, wtN_191, wtN_149, wtN_192⟩
theorem geL_X10_pad : g_callee RX10 yX10_pad cX10_pad 3 none 2 := ⟨by decide +kernel, wtN_193, wtN_194, wtN_149, wtN_195⟩
theorem geL_X10_core : g_callee RX10 yX10_core cX10_core 2 (some .int) 1 := ⟨by decide +kernel, wtN_196, wtN_197, wtN_149, wtN_198⟩
theorem geL_X10_picture : g_callee RX10 yX10_picture cX10_picture 2 (some .int) 1 := ⟨by decide +kernel, wtN_199, wtN_200, wtN_149, wtN_201⟩
theorem geL_X10_oam : g_callee RX10 yX10_oam cX10_oam 2 (some .int) 1 := ⟨by decide +kernel, wtN_202, wtN_203, wtN_149, wtN_204⟩
theorem geL_X10_cartridge : g_callee RX10 yX10_cartridge cX10_cartridge 2 (some .int) 1 := ⟨by decide +kernel, wtN_205, wtN_206, wtN_149, wtN_207⟩
theorem geL_X10_sound : g_callee RX10 yX10_sound cX10_sound 2 (some .int) 1 := ⟨by decide +kernel, wtN_208, wtN_209, wtN_149, wtN_210⟩
theorem geL_X10_thrown : g_callee RX10 yX10_thrown cX10_thrown 1 (some .int) 0 := ⟨by decide +kernel, wtN_211, wtN_212, wtN_149, wtN_213⟩
theorem kM_sub {η : gE} {jA : ClassId} {b L : Nat} {xs : Nat → Int32} : ∀ U, va_K (oL η jA b L xs).2.1 vwCl (oL η jA b L xs).2.2.1 U → va_K (oL η jA b L xs).2.1 vwCl [(η.2.2.1, .int), (η.2.2.2.1, .boolean)] U := fun U h => h.sub (tys' := [(η.2.2.1, .int), (η.2.2.2.1, .boolean)]) [0, 1] rfl
theorem cmp0 {x y : Int64} (h : x = y) : lg_cmp x y = 0 := by
  subst h
  unfold lg_cmp
  simp
def lW (k : Bool) (η ζ : gE) (jA : ClassId) (o : Nat) (S : gSt) (f : Nat → Int64) (M : gSt) : va_W := (oC k η).1 S ++ outC jA o f :: (oM ζ).1 M
def lV (η ζ : gE) (b o : Nat) (x : Int32) : List (Nat × Value) := [(4, .int x), (3, .ref o), (2, .ref (ζ.1 0)), (1, .ref (η.1 0)), (0, .ref b)]
section LC
variable {k : Bool} {η : gE} {uM : Nat → Nat} {jA : ClassId} {b L o i nc ns : Nat} {xs : Nat → Int32} {κ : gK} {Q : State → Prop} {S M : gSt} {f : Nat → Int64}
theorem l_reset (hc : gC (oL η jA b L xs) κ cL_law 7 RL ret room_1) (hlt : nLt κ) (hx : Rx k S M) (hi : i + 2 < L) (hL : L ≤ 1537) (hr : nc + 1 ≤ 1071 ∧ ns + 6 ≤ 19626) (kk : ∀ (S2 M2 : gSt) (f2 : Nat → Int64), Rx k S2 M2 → gN (oL η jA b L xs) κ 7 Q 707 (lV η (uM, η.2) b o (nI i)) [] (lW k η (uM, η.2) jA o S2 f2 M2) (nc + 1) (ns + 6)) : gN (oL η jA b L xs) κ 7 Q 220 (lV η (uM, η.2) b o (nI i)) [] (lW k η (uM, η.2) jA o S f M) nc ns := by
  refine n_aload_n (i := 1) hc 3 dL_law_220 rfl rfl ?_
  refine n_callV (rest := []) (w2 := outC jA o f :: (oM (uM, η.2)).1 M) hc (ω' := oC k η) rfl kC_sub (fun _ _ _ h => h.1.1) (zC_ok η) 0 [] (fun l => c_X9_reset l k η S) wtN_214 geL_X9_reset rfl ⟨rfl, rfl⟩ ⟨Nat.le_of_ble_eq_true rfl, Nat.le_of_ble_eq_true rfl⟩ ⟨(by have h9 := hr; omega : nc ≤ 1071), (by have h9 := hr; omega : ns ≤ 19626)⟩ rfl rfl rfl (Nat.le_of_ble_eq_true rfl) dL_law_221 ?_
  refine n_stk [] rfl ?_
  refine n_aload_n (i := 2) hc 2 dL_law_224 rfl rfl ?_
  refine n_M ?_
  refine n_callV (rest := []) (w2 := (oC k η).1 (sp_X9_reset k S).2 ++ [outC jA o f]) hc (ω' := oM (uM, η.2)) rfl kM_sub (fun _ _ _ _ => trivial) zM_ok 0 [] (fun l => c_X10_reset l (uM, η.2) M ((w_sp_reset (rx_w hx)).1)) wtN_215 geL_X10_reset rfl ⟨rfl, rfl⟩ ⟨Nat.le_of_ble_eq_true rfl, Nat.le_of_ble_eq_true rfl⟩ ⟨(by have h9 := hr; omega : nc ≤ 1071), (by have h9 := hr; omega : ns ≤ 19626)⟩ rfl rfl rfl (Nat.le_of_ble_eq_true rfl) dL_law_225 ?_
  refine n_stk [] rfl ?_
  refine n_C ?_
  refine n_goto (tgt := 707) hc dL_law_228 rfl ?_
  refine n_widen (nc + 1) (ns + 6) (by omega) (by omega) ?_
  exact kk (sp_X9_reset k S).2 (sp_X10_reset M).2 f (x_reset hx)
theorem l_step (hc : gC (oL η jA b L xs) κ cL_law 7 RL ret room_1) (hlt : nLt κ) (hx : Rx k S M) (hi : i + 2 < L) (hL : L ≤ 1537) (hr : nc + 1 ≤ 1071 ∧ ns + 6 ≤ 19626) (kk : ∀ (S2 M2 : gSt) (f2 : Nat → Int64), Rx k S2 M2 → gN (oL η jA b L xs) κ 7 Q 707 (lV η (uM, η.2) b o (nI i)) [] (lW k η (uM, η.2) jA o S2 f2 M2) (nc + 1) (ns + 6)) : gN (oL η jA b L xs) κ 7 Q 231 (lV η (uM, η.2) b o (nI i)) [] (lW k η (uM, η.2) jA o S f M) nc ns := by
  refine n_aload_n (i := 1) hc 3 dL_law_231 rfl rfl ?_
  refine n_callV (rest := []) (w2 := outC jA o f :: (oM (uM, η.2)).1 M) hc (ω' := oC k η) rfl kC_sub (fun _ _ _ h => h.1.1) (zC_ok η) 0 [] (fun l => c_X9_step l k η S) wtN_216 geL_X9_step rfl ⟨rfl, rfl⟩ ⟨Nat.le_of_ble_eq_true rfl, Nat.le_of_ble_eq_true rfl⟩ ⟨(by have h9 := hr; omega : nc ≤ 1071), (by have h9 := hr; omega : ns ≤ 19626)⟩ rfl rfl rfl (Nat.le_of_ble_eq_true rfl) dL_law_232 ?_
  refine n_stk (.int (sp_X9_step k S).1 :: []) rfl ?_
  refine n_aload_n (i := 2) hc 2 dL_law_235 rfl rfl ?_
  refine n_M ?_
  refine n_callV (rest := [.int (sp_X9_step k S).1]) (w2 := (oC k η).1 (sp_X9_step k S).2 ++ [outC jA o f]) hc (ω' := oM (uM, η.2)) rfl kM_sub (fun _ _ _ _ => trivial) zM_ok 0 [] (fun l => c_X10_step l (uM, η.2) M ((w_sp_step (rx_w hx)).1)) wtN_217 geL_X10_step rfl ⟨rfl, rfl⟩ ⟨Nat.le_of_ble_eq_true rfl, Nat.le_of_ble_eq_true rfl⟩ ⟨(by have h9 := hr; omega : nc ≤ 1071), (by have h9 := hr; omega : ns ≤ 19626)⟩ rfl rfl rfl (Nat.le_of_ble_eq_true rfl) dL_law_236 ?_
  refine n_stk (.int (sp_X10_step M).1 :: [.int (sp_X9_step k S).1]) rfl ?_
  refine n_C ?_
  refine n_icmpeq (tgt := 707) hc dL_law_239 rfl (fun c => ?_) (fun c => absurd ((x_step hx).1.symm) c)
  refine n_widen (nc + 1) (ns + 6) (by omega) (by omega) ?_
  exact kk (sp_X9_step k S).2 (sp_X10_step M).2 f (x_step hx).2
theorem l_run (hc : gC (oL η jA b L xs) κ cL_law 7 RL ret room_1) (hlt : nLt κ) (hx : Rx k S M) (hi : i + 2 < L) (hL : L ≤ 1537) (hr : nc + 1 ≤ 1071 ∧ ns + 6 ≤ 19626) (kk : ∀ (S2 M2 : gSt) (f2 : Nat → Int64), Rx k S2 M2 → gN (oL η jA b L xs) κ 7 Q 707 (lV η (uM, η.2) b o (nI i)) [] (lW k η (uM, η.2) jA o S2 f2 M2) (nc + 1) (ns + 6)) : gN (oL η jA b L xs) κ 7 Q 244 (lV η (uM, η.2) b o (nI i)) [] (lW k η (uM, η.2) jA o S f M) nc ns := by
  refine n_aload_n (i := 1) hc 3 dL_law_244 rfl rfl ?_
  refine n_aload_n (i := 0) hc 4 dL_law_245 rfl rfl ?_
  refine n_iload (i := 4) hc 0 dL_law_246 rfl ?_
  refine n_iconst (v := 1) hc dL_law_248 (by decide) ?_
  refine n_iadd hc dL_law_249 ?_
  refine n_sld hc (i + 1) (nI_add i 1) (by omega) (by omega) dL_law_250 ?_
  refine n_callV (rest := []) (w2 := outC jA o f :: (oM (uM, η.2)).1 M) hc (ω' := oC k η) rfl kC_sub (fun _ _ _ h => h.1.1) (zC_ok η) 0 [.int ((xs (i + 1)))] (fun l => c_X9_run l k η (xs (i + 1)) S) wtN_218 geL_X9_run rfl ⟨rfl, rfl⟩ ⟨Nat.le_of_ble_eq_true rfl, Nat.le_of_ble_eq_true rfl⟩ ⟨(by have h9 := hr; omega : nc ≤ 1071), (by have h9 := hr; omega : ns ≤ 19626)⟩ rfl rfl rfl (Nat.le_of_ble_eq_true rfl) dL_law_251 ?_
  refine n_stk (.int (sp_X9_run k (xs (i + 1)) S).1 :: []) rfl ?_
  refine n_aload_n (i := 2) hc 2 dL_law_254 rfl rfl ?_
  refine n_aload_n (i := 0) hc 4 dL_law_255 rfl rfl ?_
  refine n_iload (i := 4) hc 0 dL_law_256 rfl ?_
  refine n_iconst (v := 1) hc dL_law_258 (by decide) ?_
  refine n_iadd hc dL_law_259 ?_
  refine n_sld hc (i + 1) (nI_add i 1) (by omega) (by omega) dL_law_260 ?_
  refine n_M ?_
  refine n_callV (rest := [.int (sp_X9_run k (xs (i + 1)) S).1]) (w2 := (oC k η).1 (sp_X9_run k (xs (i + 1)) S).2 ++ [outC jA o f]) hc (ω' := oM (uM, η.2)) rfl kM_sub (fun _ _ _ _ => trivial) zM_ok 0 [.int ((xs (i + 1)))] (fun l => c_X10_run l (uM, η.2) (xs (i + 1)) M ((w_sp_run _ (rx_w hx)).1)) wtN_219 geL_X10_run rfl ⟨rfl, rfl⟩ ⟨Nat.le_of_ble_eq_true rfl, Nat.le_of_ble_eq_true rfl⟩ ⟨(by have h9 := hr; omega : nc ≤ 1071), (by have h9 := hr; omega : ns ≤ 19626)⟩ rfl rfl rfl (Nat.le_of_ble_eq_true rfl) dL_law_261 ?_
  refine n_stk (.int (sp_X10_run (xs (i + 1)) M).1 :: [.int (sp_X9_run k (xs (i + 1)) S).1]) rfl ?_
  refine n_C ?_
  refine n_icmpeq (tgt := 707) hc dL_law_264 rfl (fun c => ?_) (fun c => absurd ((x_run hx (xs (i + 1))).1.symm) c)
  refine n_widen (nc + 1) (ns + 6) (by omega) (by omega) ?_
  exact kk (sp_X9_run k (xs (i + 1)) S).2 (sp_X10_run (xs (i + 1)) M).2 f (x_run hx (xs (i + 1))).2
theorem l_pass (hc : gC (oL η jA b L xs) κ cL_law 7 RL ret room_1) (hlt : nLt κ) (hx : Rx k S M) (hi : i + 2 < L) (hL : L ≤ 1537) (hr : nc + 1 ≤ 1071 ∧ ns + 6 ≤ 19626) (kk : ∀ (S2 M2 : gSt) (f2 : Nat → Int64), Rx k S2 M2 → gN (oL η jA b L xs) κ 7 Q 707 (lV η (uM, η.2) b o (nI i)) [] (lW k η (uM, η.2) jA o S2 f2 M2) (nc + 1) (ns + 6)) : gN (oL η jA b L xs) κ 7 Q 269 (lV η (uM, η.2) b o (nI i)) [] (lW k η (uM, η.2) jA o S f M) nc ns := by
  refine n_aload_n (i := 1) hc 3 dL_law_269 rfl rfl ?_
  refine n_aload_n (i := 0) hc 4 dL_law_270 rfl rfl ?_
  refine n_iload (i := 4) hc 0 dL_law_271 rfl ?_
  refine n_iconst (v := 1) hc dL_law_273 (by decide) ?_
  refine n_iadd hc dL_law_274 ?_
  refine n_sld hc (i + 1) (nI_add i 1) (by omega) (by omega) dL_law_275 ?_
  refine n_callV (rest := []) (w2 := outC jA o f :: (oM (uM, η.2)).1 M) hc (ω' := oC k η) rfl kC_sub (fun _ _ _ h => h.1.1) (zC_ok η) 0 [.int ((xs (i + 1)))] (fun l => c_X9_pass l k η (xs (i + 1)) S) wtN_220 geL_X9_pass rfl ⟨rfl, rfl⟩ ⟨Nat.le_of_ble_eq_true rfl, Nat.le_of_ble_eq_true rfl⟩ ⟨(by have h9 := hr; omega : nc ≤ 1071), (by have h9 := hr; omega : ns ≤ 19626)⟩ rfl rfl rfl (Nat.le_of_ble_eq_true rfl) dL_law_276 ?_
  refine n_stk (.int (bI (sp_X9_pass k (xs (i + 1)) S).1) :: []) rfl ?_
  refine n_aload_n (i := 2) hc 2 dL_law_279 rfl rfl ?_
  refine n_aload_n (i := 0) hc 4 dL_law_280 rfl rfl ?_
  refine n_iload (i := 4) hc 0 dL_law_281 rfl ?_
  refine n_iconst (v := 1) hc dL_law_283 (by decide) ?_
  refine n_iadd hc dL_law_284 ?_
  refine n_sld hc (i + 1) (nI_add i 1) (by omega) (by omega) dL_law_285 ?_
  refine n_M ?_
  refine n_callV (rest := [.int (bI (sp_X9_pass k (xs (i + 1)) S).1)]) (w2 := (oC k η).1 (sp_X9_pass k (xs (i + 1)) S).2 ++ [outC jA o f]) hc (ω' := oM (uM, η.2)) rfl kM_sub (fun _ _ _ _ => trivial) zM_ok 0 [.int ((xs (i + 1)))] (fun l => c_X10_pass l (uM, η.2) (xs (i + 1)) M ((w_sp_pass _ (rx_w hx)).1)) wtN_221 geL_X10_pass rfl ⟨rfl, rfl⟩ ⟨Nat.le_of_ble_eq_true rfl, Nat.le_of_ble_eq_true rfl⟩ ⟨(by have h9 := hr; omega : nc ≤ 1071), (by have h9 := hr; omega : ns ≤ 19626)⟩ rfl rfl rfl (Nat.le_of_ble_eq_true rfl) dL_law_286 ?_
  refine n_stk (.int (bI (sp_X10_pass (xs (i + 1)) M).1) :: [.int (bI (sp_X9_pass k (xs (i + 1)) S).1)]) rfl ?_
  refine n_C ?_
  refine n_icmpeq (tgt := 707) hc dL_law_289 rfl (fun c => ?_) (fun c => absurd (congrArg bI (x_pass hx (xs (i + 1))).1.symm) c)
  refine n_widen (nc + 1) (ns + 6) (by omega) (by omega) ?_
  exact kk (sp_X9_pass k (xs (i + 1)) S).2 (sp_X10_pass (xs (i + 1)) M).2 f (x_pass hx (xs (i + 1))).2
theorem l_read (hc : gC (oL η jA b L xs) κ cL_law 7 RL ret room_1) (hlt : nLt κ) (hx : Rx k S M) (hi : i + 2 < L) (hL : L ≤ 1537) (hr : nc + 1 ≤ 1071 ∧ ns + 6 ≤ 19626) (kk : ∀ (S2 M2 : gSt) (f2 : Nat → Int64), Rx k S2 M2 → gN (oL η jA b L xs) κ 7 Q 707 (lV η (uM, η.2) b o (nI i)) [] (lW k η (uM, η.2) jA o S2 f2 M2) (nc + 1) (ns + 6)) : gN (oL η jA b L xs) κ 7 Q 294 (lV η (uM, η.2) b o (nI i)) [] (lW k η (uM, η.2) jA o S f M) nc ns := by
  refine n_aload_n (i := 1) hc 3 dL_law_294 rfl rfl ?_
  refine n_aload_n (i := 0) hc 4 dL_law_295 rfl rfl ?_
  refine n_iload (i := 4) hc 0 dL_law_296 rfl ?_
  refine n_iconst (v := 1) hc dL_law_298 (by decide) ?_
  refine n_iadd hc dL_law_299 ?_
  refine n_sld hc (i + 1) (nI_add i 1) (by omega) (by omega) dL_law_300 ?_
  refine n_callV (rest := []) (w2 := outC jA o f :: (oM (uM, η.2)).1 M) hc (ω' := oC k η) rfl kC_sub (fun _ _ _ h => h.1.1) (zC_ok η) 0 [.int ((xs (i + 1)))] (fun l => c_X9_read l k η (xs (i + 1)) S) wtN_222 geL_X9_read rfl ⟨rfl, rfl⟩ ⟨Nat.le_of_ble_eq_true rfl, Nat.le_of_ble_eq_true rfl⟩ ⟨(by have h9 := hr; omega : nc ≤ 1071), (by have h9 := hr; omega : ns ≤ 19626)⟩ rfl rfl rfl (Nat.le_of_ble_eq_true rfl) dL_law_301 ?_
  refine n_stk (.int (sp_X9_read k (xs (i + 1)) S).1 :: []) rfl ?_
  refine n_aload_n (i := 2) hc 2 dL_law_304 rfl rfl ?_
  refine n_aload_n (i := 0) hc 4 dL_law_305 rfl rfl ?_
  refine n_iload (i := 4) hc 0 dL_law_306 rfl ?_
  refine n_iconst (v := 1) hc dL_law_308 (by decide) ?_
  refine n_iadd hc dL_law_309 ?_
  refine n_sld hc (i + 1) (nI_add i 1) (by omega) (by omega) dL_law_310 ?_
  refine n_M ?_
  refine n_callV (rest := [.int (sp_X9_read k (xs (i + 1)) S).1]) (w2 := (oC k η).1 (sp_X9_read k (xs (i + 1)) S).2 ++ [outC jA o f]) hc (ω' := oM (uM, η.2)) rfl kM_sub (fun _ _ _ _ => trivial) zM_ok 0 [.int ((xs (i + 1)))] (fun l => c_X10_read l (uM, η.2) (xs (i + 1)) M ((w_sp_read _ (rx_w hx)).1)) wtN_223 geL_X10_read rfl ⟨rfl, rfl⟩ ⟨Nat.le_of_ble_eq_true rfl, Nat.le_of_ble_eq_true rfl⟩ ⟨(by have h9 := hr; omega : nc ≤ 1071), (by have h9 := hr; omega : ns ≤ 19626)⟩ rfl rfl rfl (Nat.le_of_ble_eq_true rfl) dL_law_311 ?_
  refine n_stk (.int (sp_X10_read (xs (i + 1)) M).1 :: [.int (sp_X9_read k (xs (i + 1)) S).1]) rfl ?_
  refine n_C ?_
  refine n_icmpeq (tgt := 707) hc dL_law_314 rfl (fun c => ?_) (fun c => absurd ((x_read hx (xs (i + 1))).1.symm) c)
  refine n_widen (nc + 1) (ns + 6) (by omega) (by omega) ?_
  exact kk (sp_X9_read k (xs (i + 1)) S).2 (sp_X10_read (xs (i + 1)) M).2 f (x_read hx (xs (i + 1))).2
theorem l_write (hc : gC (oL η jA b L xs) κ cL_law 7 RL ret room_1) (hlt : nLt κ) (hx : Rx k S M) (hi : i + 2 < L) (hL : L ≤ 1537) (hr : nc + 1 ≤ 1071 ∧ ns + 6 ≤ 19626) (kk : ∀ (S2 M2 : gSt) (f2 : Nat → Int64), Rx k S2 M2 → gN (oL η jA b L xs) κ 7 Q 707 (lV η (uM, η.2) b o (nI i)) [] (lW k η (uM, η.2) jA o S2 f2 M2) (nc + 1) (ns + 6)) : gN (oL η jA b L xs) κ 7 Q 319 (lV η (uM, η.2) b o (nI i)) [] (lW k η (uM, η.2) jA o S f M) nc ns := by
  refine n_aload_n (i := 1) hc 3 dL_law_319 rfl rfl ?_
  refine n_aload_n (i := 0) hc 4 dL_law_320 rfl rfl ?_
  refine n_iload (i := 4) hc 0 dL_law_321 rfl ?_
  refine n_iconst (v := 1) hc dL_law_323 (by decide) ?_
  refine n_iadd hc dL_law_324 ?_
  refine n_sld hc (i + 1) (nI_add i 1) (by omega) (by omega) dL_law_325 ?_
  refine n_aload_n (i := 0) hc 4 dL_law_326 rfl rfl ?_
  refine n_iload (i := 4) hc 0 dL_law_327 rfl ?_
  refine n_iconst (v := 2) hc dL_law_329 (by decide) ?_
  refine n_iadd hc dL_law_330 ?_
  refine n_sld hc (i + 2) (nI_add i 2) (by omega) (by omega) dL_law_331 ?_
  refine n_callV (rest := []) (w2 := outC jA o f :: (oM (uM, η.2)).1 M) hc (ω' := oC k η) rfl kC_sub (fun _ _ _ h => h.1.1) (zC_ok η) 0 [.int ((xs (i + 1))), .int ((xs (i + 2)))] (fun l => c_X9_write l k η (xs (i + 1)) (xs (i + 2)) S) wtN_224 geL_X9_write rfl ⟨rfl, rfl⟩ ⟨Nat.le_of_ble_eq_true rfl, Nat.le_of_ble_eq_true rfl⟩ ⟨(by have h9 := hr; omega : nc ≤ 1071), (by have h9 := hr; omega : ns ≤ 19626)⟩ rfl rfl rfl (Nat.le_of_ble_eq_true rfl) dL_law_332 ?_
  refine n_stk [] rfl ?_
  refine n_aload_n (i := 2) hc 2 dL_law_335 rfl rfl ?_
  refine n_aload_n (i := 0) hc 4 dL_law_336 rfl rfl ?_
  refine n_iload (i := 4) hc 0 dL_law_337 rfl ?_
  refine n_iconst (v := 1) hc dL_law_339 (by decide) ?_
  refine n_iadd hc dL_law_340 ?_
  refine n_sld hc (i + 1) (nI_add i 1) (by omega) (by omega) dL_law_341 ?_
  refine n_aload_n (i := 0) hc 4 dL_law_342 rfl rfl ?_
  refine n_iload (i := 4) hc 0 dL_law_343 rfl ?_
  refine n_iconst (v := 2) hc dL_law_345 (by decide) ?_
  refine n_iadd hc dL_law_346 ?_
  refine n_sld hc (i + 2) (nI_add i 2) (by omega) (by omega) dL_law_347 ?_
  refine n_M ?_
  refine n_callV (rest := []) (w2 := (oC k η).1 (sp_X9_write k (xs (i + 1)) (xs (i + 2)) S).2 ++ [outC jA o f]) hc (ω' := oM (uM, η.2)) rfl kM_sub (fun _ _ _ _ => trivial) zM_ok 0 [.int ((xs (i + 1))), .int ((xs (i + 2)))] (fun l => c_X10_write l (uM, η.2) (xs (i + 1)) (xs (i + 2)) M ((w_sp_write _ _ (rx_w hx)).1)) wtN_225 geL_X10_write rfl ⟨rfl, rfl⟩ ⟨Nat.le_of_ble_eq_true rfl, Nat.le_of_ble_eq_true rfl⟩ ⟨(by have h9 := hr; omega : nc ≤ 1071), (by have h9 := hr; omega : ns ≤ 19626)⟩ rfl rfl rfl (Nat.le_of_ble_eq_true rfl) dL_law_348 ?_
  refine n_stk [] rfl ?_
  refine n_C ?_
  refine n_goto (tgt := 707) hc dL_law_351 rfl ?_
  refine n_widen (nc + 1) (ns + 6) (by omega) (by omega) ?_
  exact kk (sp_X9_write k (xs (i + 1)) (xs (i + 2)) S).2 (sp_X10_write (xs (i + 1)) (xs (i + 2)) M).2 f (x_write hx (xs (i + 1)) (xs (i + 2)))
theorem l_memory (hc : gC (oL η jA b L xs) κ cL_law 7 RL ret room_1) (hlt : nLt κ) (hx : Rx k S M) (hi : i + 2 < L) (hL : L ≤ 1537) (hr : nc + 1 ≤ 1071 ∧ ns + 6 ≤ 19626) (kk : ∀ (S2 M2 : gSt) (f2 : Nat → Int64), Rx k S2 M2 → gN (oL η jA b L xs) κ 7 Q 707 (lV η (uM, η.2) b o (nI i)) [] (lW k η (uM, η.2) jA o S2 f2 M2) (nc + 1) (ns + 6)) : gN (oL η jA b L xs) κ 7 Q 514 (lV η (uM, η.2) b o (nI i)) [] (lW k η (uM, η.2) jA o S f M) nc ns := by
  refine n_aload_n (i := 1) hc 3 dL_law_514 rfl rfl ?_
  refine n_aload_n (i := 0) hc 4 dL_law_515 rfl rfl ?_
  refine n_iload (i := 4) hc 0 dL_law_516 rfl ?_
  refine n_iconst (v := 1) hc dL_law_518 (by decide) ?_
  refine n_iadd hc dL_law_519 ?_
  refine n_sld hc (i + 1) (nI_add i 1) (by omega) (by omega) dL_law_520 ?_
  refine n_callV (rest := []) (w2 := outC jA o f :: (oM (uM, η.2)).1 M) hc (ω' := oC k η) rfl kC_sub (fun _ _ _ h => h.1.1) (zC_ok η) 0 [.int ((xs (i + 1)))] (fun l => c_X9_memory l k η (xs (i + 1)) S) wtN_226 geL_X9_memory rfl ⟨rfl, rfl⟩ ⟨Nat.le_of_ble_eq_true rfl, Nat.le_of_ble_eq_true rfl⟩ ⟨(by have h9 := hr; omega : nc ≤ 1071), (by have h9 := hr; omega : ns ≤ 19626)⟩ rfl rfl rfl (Nat.le_of_ble_eq_true rfl) dL_law_521 ?_
  refine n_stk (.int (sp_X9_memory k (xs (i + 1)) S).1 :: []) rfl ?_
  refine n_aload_n (i := 2) hc 2 dL_law_524 rfl rfl ?_
  refine n_aload_n (i := 0) hc 4 dL_law_525 rfl rfl ?_
  refine n_iload (i := 4) hc 0 dL_law_526 rfl ?_
  refine n_iconst (v := 1) hc dL_law_528 (by decide) ?_
  refine n_iadd hc dL_law_529 ?_
  refine n_sld hc (i + 1) (nI_add i 1) (by omega) (by omega) dL_law_530 ?_
  refine n_M ?_
  refine n_callV (rest := [.int (sp_X9_memory k (xs (i + 1)) S).1]) (w2 := (oC k η).1 (sp_X9_memory k (xs (i + 1)) S).2 ++ [outC jA o f]) hc (ω' := oM (uM, η.2)) rfl kM_sub (fun _ _ _ _ => trivial) zM_ok 0 [.int ((xs (i + 1)))] (fun l => c_X10_memory l (uM, η.2) (xs (i + 1)) M ((w_sp_memory _ (rx_w hx)).1)) wtN_227 geL_X10_memory rfl ⟨rfl, rfl⟩ ⟨Nat.le_of_ble_eq_true rfl, Nat.le_of_ble_eq_true rfl⟩ ⟨(by have h9 := hr; omega : nc ≤ 1071), (by have h9 := hr; omega : ns ≤ 19626)⟩ rfl rfl rfl (Nat.le_of_ble_eq_true rfl) dL_law_531 ?_
  refine n_stk (.int (sp_X10_memory (xs (i + 1)) M).1 :: [.int (sp_X9_memory k (xs (i + 1)) S).1]) rfl ?_
  refine n_C ?_
  refine n_icmpeq (tgt := 707) hc dL_law_534 rfl (fun c => ?_) (fun c => absurd ((x_memory hx (xs (i + 1))).1.symm) c)
  refine n_widen (nc + 1) (ns + 6) (by omega) (by omega) ?_
  exact kk (sp_X9_memory k (xs (i + 1)) S).2 (sp_X10_memory (xs (i + 1)) M).2 f (x_memory hx (xs (i + 1))).2
theorem l_rom (hc : gC (oL η jA b L xs) κ cL_law 7 RL ret room_1) (hlt : nLt κ) (hx : Rx k S M) (hi : i + 2 < L) (hL : L ≤ 1537) (hr : nc + 1 ≤ 1071 ∧ ns + 6 ≤ 19626) (kk : ∀ (S2 M2 : gSt) (f2 : Nat → Int64), Rx k S2 M2 → gN (oL η jA b L xs) κ 7 Q 707 (lV η (uM, η.2) b o (nI i)) [] (lW k η (uM, η.2) jA o S2 f2 M2) (nc + 1) (ns + 6)) : gN (oL η jA b L xs) κ 7 Q 124 (lV η (uM, η.2) b o (nI i)) [] (lW k η (uM, η.2) jA o S f M) nc ns := by
  by_cases hv : ¬ (xs (i + 1)) < 0 ∧ (xs (i + 1)) < 512
  · refine n_aload_n (i := 1) hc 3 dL_law_124 rfl rfl ?_
    refine n_aload_n (i := 0) hc 4 dL_law_125 rfl rfl ?_
    refine n_iload (i := 4) hc 0 dL_law_126 rfl ?_
    refine n_iconst (v := 1) hc dL_law_128 (by decide) ?_
    refine n_iadd hc dL_law_129 ?_
    refine n_sld hc (i + 1) (nI_add i 1) (by omega) (by omega) dL_law_130 ?_
    refine n_aload_n (i := 0) hc 4 dL_law_131 rfl rfl ?_
    refine n_iload (i := 4) hc 0 dL_law_132 rfl ?_
    refine n_iconst (v := 2) hc dL_law_134 (by decide) ?_
    refine n_iadd hc dL_law_135 ?_
    refine n_sld hc (i + 2) (nI_add i 2) (by omega) (by omega) dL_law_136 ?_
    refine n_callSW (na := 3) (rest := []) hc hlt [.ref (η.1 0), .int (xs (i + 1)), .int (xs (i + 2))] (fun l hl => h_L_rom l hl k η jA b L xs (xs (i + 1)) (xs (i + 2)) S (outC jA o f :: (oM (uM, η.2)).1 M) hv) wtN_228 wtN_229 wtN_230 wtN_231 (by decide +kernel) rfl ⟨Nat.le_of_ble_eq_true rfl, Nat.le_of_ble_eq_true rfl⟩ hr rfl (Nat.le_of_ble_eq_true rfl) dL_law_137 ?_
    refine n_stk [.int 0] rfl ?_
    refine n_istore (i := 5) (lv' := (5, .int 0) :: lV η (uM, η.2) b o (nI i)) hc dL_law_140 (by decide) rfl ?_
    refine n_aload_n (i := 2) hc 3 dL_law_142 rfl rfl ?_
    refine n_aload_n (i := 0) hc 5 dL_law_143 rfl rfl ?_
    refine n_iload (i := 4) hc 1 dL_law_144 rfl ?_
    refine n_iconst (v := 1) hc dL_law_146 (by decide) ?_
    refine n_iadd hc dL_law_147 ?_
    refine n_sld hc (i + 1) (nI_add i 1) (by omega) (by omega) dL_law_148 ?_
    refine n_aload_n (i := 0) hc 5 dL_law_149 rfl rfl ?_
    refine n_iload (i := 4) hc 1 dL_law_150 rfl ?_
    refine n_iconst (v := 2) hc dL_law_152 (by decide) ?_
    refine n_iadd hc dL_law_153 ?_
    refine n_sld hc (i + 2) (nI_add i 2) (by omega) (by omega) dL_law_154 ?_
    refine n_M ?_
    refine n_callV (rest := []) (w2 := (oC k η).1 (sp_X9_rom k (xs (i + 1)) (xs (i + 2)) S).2 ++ [outC jA o f]) hc (ω' := oM (uM, η.2)) rfl kM_sub (fun _ _ _ _ => trivial) zM_ok 0 [.int ((xs (i + 1))), .int ((xs (i + 2)))] (fun l => c_X10_rom l (uM, η.2) (xs (i + 1)) (xs (i + 2)) M (x_rom hx (xs (i + 2)) hv).2.2) wtN_232 geL_X10_rom rfl ⟨rfl, rfl⟩ ⟨Nat.le_of_ble_eq_true rfl, Nat.le_of_ble_eq_true rfl⟩ hr rfl rfl rfl (Nat.le_of_ble_eq_true rfl) dL_law_155 ?_
    refine n_stk [] rfl ?_
    refine n_aload_n (i := 2) hc 3 dL_law_158 rfl rfl ?_
    refine n_callV (rest := []) (w2 := (oC k η).1 (sp_X9_rom k (xs (i + 1)) (xs (i + 2)) S).2 ++ [outC jA o f]) hc (ω' := oM (uM, η.2)) rfl kM_sub (fun _ _ _ _ => trivial) zM_ok 0 [] (fun l => c_X10_thrown l (uM, η.2) (sp_X10_rom (xs (i + 1)) (xs (i + 2)) M).2 trivial) wtN_233 geL_X10_thrown rfl ⟨rfl, rfl⟩ ⟨Nat.le_of_ble_eq_true rfl, Nat.le_of_ble_eq_true rfl⟩ hr rfl rfl rfl (Nat.le_of_ble_eq_true rfl) dL_law_159 ?_
    refine n_stk (.int (sp_X10_thrown (sp_X10_rom (xs (i + 1)) (xs (i + 2)) M).2).1 :: []) rfl ?_
    refine n_C ?_
    refine n_iload (i := 5) hc 0 dL_law_162 rfl ?_
    refine n_icmpeq (tgt := 169) hc dL_law_164 rfl (fun c => ?_) (fun c => absurd (x_rom hx (xs (i + 2)) hv).1 c)
    refine n_goto (tgt := 707) hc dL_law_169 rfl ?_
    refine n_lv [1, 2, 3, 4, 5] rfl ?_
    exact kk (sp_X9_rom k (xs (i + 1)) (xs (i + 2)) S).2 (sp_X10_thrown (sp_X10_rom (xs (i + 1)) (xs (i + 2)) M).2).2 f (x_rom hx (xs (i + 2)) hv).2.1
  · refine n_aload_n (i := 1) hc 3 dL_law_124 rfl rfl ?_
    refine n_aload_n (i := 0) hc 4 dL_law_125 rfl rfl ?_
    refine n_iload (i := 4) hc 0 dL_law_126 rfl ?_
    refine n_iconst (v := 1) hc dL_law_128 (by decide) ?_
    refine n_iadd hc dL_law_129 ?_
    refine n_sld hc (i + 1) (nI_add i 1) (by omega) (by omega) dL_law_130 ?_
    refine n_aload_n (i := 0) hc 4 dL_law_131 rfl rfl ?_
    refine n_iload (i := 4) hc 0 dL_law_132 rfl ?_
    refine n_iconst (v := 2) hc dL_law_134 (by decide) ?_
    refine n_iadd hc dL_law_135 ?_
    refine n_sld hc (i + 2) (nI_add i 2) (by omega) (by omega) dL_law_136 ?_
    refine n_callSW (na := 3) (rest := []) hc hlt [.ref (η.1 0), .int (xs (i + 1)), .int (xs (i + 2))] (fun l hl => h_X_rom l hl k η jA b L xs (xs (i + 1)) (xs (i + 2)) S (outC jA o f :: (oM (uM, η.2)).1 M) hv) wtN_228 wtN_229 wtN_230 wtN_231 (by decide +kernel) rfl ⟨Nat.le_of_ble_eq_true rfl, Nat.le_of_ble_eq_true rfl⟩ hr rfl (Nat.le_of_ble_eq_true rfl) dL_law_137 ?_
    refine n_stk [.int 1] rfl ?_
    refine n_istore (i := 5) (lv' := (5, .int 1) :: lV η (uM, η.2) b o (nI i)) hc dL_law_140 (by decide) rfl ?_
    refine n_aload_n (i := 2) hc 3 dL_law_142 rfl rfl ?_
    refine n_aload_n (i := 0) hc 5 dL_law_143 rfl rfl ?_
    refine n_iload (i := 4) hc 1 dL_law_144 rfl ?_
    refine n_iconst (v := 1) hc dL_law_146 (by decide) ?_
    refine n_iadd hc dL_law_147 ?_
    refine n_sld hc (i + 1) (nI_add i 1) (by omega) (by omega) dL_law_148 ?_
    refine n_aload_n (i := 0) hc 5 dL_law_149 rfl rfl ?_
    refine n_iload (i := 4) hc 1 dL_law_150 rfl ?_
    refine n_iconst (v := 2) hc dL_law_152 (by decide) ?_
    refine n_iadd hc dL_law_153 ?_
    refine n_sld hc (i + 2) (nI_add i 2) (by omega) (by omega) dL_law_154 ?_
    refine n_M ?_
    refine n_callV (rest := []) (w2 := (oC k η).1 S ++ [outC jA o f]) hc (ω' := oM (uM, η.2)) rfl kM_sub (fun _ _ _ _ => trivial) zM_ok 0 [.int ((xs (i + 1))), .int ((xs (i + 2)))] (fun l => c_X10_rom l (uM, η.2) (xs (i + 1)) (xs (i + 2)) M (y_rom hx (xs (i + 2)) hv).2.2) wtN_232 geL_X10_rom rfl ⟨rfl, rfl⟩ ⟨Nat.le_of_ble_eq_true rfl, Nat.le_of_ble_eq_true rfl⟩ hr rfl rfl rfl (Nat.le_of_ble_eq_true rfl) dL_law_155 ?_
    refine n_stk [] rfl ?_
    refine n_aload_n (i := 2) hc 3 dL_law_158 rfl rfl ?_
    refine n_callV (rest := []) (w2 := (oC k η).1 S ++ [outC jA o f]) hc (ω' := oM (uM, η.2)) rfl kM_sub (fun _ _ _ _ => trivial) zM_ok 0 [] (fun l => c_X10_thrown l (uM, η.2) (sp_X10_rom (xs (i + 1)) (xs (i + 2)) M).2 trivial) wtN_233 geL_X10_thrown rfl ⟨rfl, rfl⟩ ⟨Nat.le_of_ble_eq_true rfl, Nat.le_of_ble_eq_true rfl⟩ hr rfl rfl rfl (Nat.le_of_ble_eq_true rfl) dL_law_159 ?_
    refine n_stk (.int (sp_X10_thrown (sp_X10_rom (xs (i + 1)) (xs (i + 2)) M).2).1 :: []) rfl ?_
    refine n_C ?_
    refine n_iload (i := 5) hc 0 dL_law_162 rfl ?_
    refine n_icmpeq (tgt := 169) hc dL_law_164 rfl (fun c => ?_) (fun c => absurd (y_rom hx (xs (i + 2)) hv).1 c)
    refine n_goto (tgt := 707) hc dL_law_169 rfl ?_
    refine n_lv [1, 2, 3, 4, 5] rfl ?_
    exact kk S (sp_X10_thrown (sp_X10_rom (xs (i + 1)) (xs (i + 2)) M).2).2 f (y_rom hx (xs (i + 2)) hv).2.1
theorem l_chr (hc : gC (oL η jA b L xs) κ cL_law 7 RL ret room_1) (hlt : nLt κ) (hx : Rx k S M) (hi : i + 2 < L) (hL : L ≤ 1537) (hr : nc + 1 ≤ 1071 ∧ ns + 6 ≤ 19626) (kk : ∀ (S2 M2 : gSt) (f2 : Nat → Int64), Rx k S2 M2 → gN (oL η jA b L xs) κ 7 Q 707 (lV η (uM, η.2) b o (nI i)) [] (lW k η (uM, η.2) jA o S2 f2 M2) (nc + 1) (ns + 6)) : gN (oL η jA b L xs) κ 7 Q 172 (lV η (uM, η.2) b o (nI i)) [] (lW k η (uM, η.2) jA o S f M) nc ns := by
  by_cases hv : ¬ (xs (i + 1)) < 0 ∧ (xs (i + 1)) < 128
  · refine n_aload_n (i := 1) hc 3 dL_law_172 rfl rfl ?_
    refine n_aload_n (i := 0) hc 4 dL_law_173 rfl rfl ?_
    refine n_iload (i := 4) hc 0 dL_law_174 rfl ?_
    refine n_iconst (v := 1) hc dL_law_176 (by decide) ?_
    refine n_iadd hc dL_law_177 ?_
    refine n_sld hc (i + 1) (nI_add i 1) (by omega) (by omega) dL_law_178 ?_
    refine n_aload_n (i := 0) hc 4 dL_law_179 rfl rfl ?_
    refine n_iload (i := 4) hc 0 dL_law_180 rfl ?_
    refine n_iconst (v := 2) hc dL_law_182 (by decide) ?_
    refine n_iadd hc dL_law_183 ?_
    refine n_sld hc (i + 2) (nI_add i 2) (by omega) (by omega) dL_law_184 ?_
    refine n_callSW (na := 3) (rest := []) hc hlt [.ref (η.1 0), .int (xs (i + 1)), .int (xs (i + 2))] (fun l hl => h_L_chr l hl k η jA b L xs (xs (i + 1)) (xs (i + 2)) S (outC jA o f :: (oM (uM, η.2)).1 M) hv) wtN_234 wtN_235 wtN_230 wtN_236 (by decide +kernel) rfl ⟨Nat.le_of_ble_eq_true rfl, Nat.le_of_ble_eq_true rfl⟩ hr rfl (Nat.le_of_ble_eq_true rfl) dL_law_185 ?_
    refine n_stk [.int 0] rfl ?_
    refine n_istore (i := 5) (lv' := (5, .int 0) :: lV η (uM, η.2) b o (nI i)) hc dL_law_188 (by decide) rfl ?_
    refine n_aload_n (i := 2) hc 3 dL_law_190 rfl rfl ?_
    refine n_aload_n (i := 0) hc 5 dL_law_191 rfl rfl ?_
    refine n_iload (i := 4) hc 1 dL_law_192 rfl ?_
    refine n_iconst (v := 1) hc dL_law_194 (by decide) ?_
    refine n_iadd hc dL_law_195 ?_
    refine n_sld hc (i + 1) (nI_add i 1) (by omega) (by omega) dL_law_196 ?_
    refine n_aload_n (i := 0) hc 5 dL_law_197 rfl rfl ?_
    refine n_iload (i := 4) hc 1 dL_law_198 rfl ?_
    refine n_iconst (v := 2) hc dL_law_200 (by decide) ?_
    refine n_iadd hc dL_law_201 ?_
    refine n_sld hc (i + 2) (nI_add i 2) (by omega) (by omega) dL_law_202 ?_
    refine n_M ?_
    refine n_callV (rest := []) (w2 := (oC k η).1 (sp_X9_chr k (xs (i + 1)) (xs (i + 2)) S).2 ++ [outC jA o f]) hc (ω' := oM (uM, η.2)) rfl kM_sub (fun _ _ _ _ => trivial) zM_ok 0 [.int ((xs (i + 1))), .int ((xs (i + 2)))] (fun l => c_X10_chr l (uM, η.2) (xs (i + 1)) (xs (i + 2)) M (x_chr hx (xs (i + 2)) hv).2.2) wtN_237 geL_X10_chr rfl ⟨rfl, rfl⟩ ⟨Nat.le_of_ble_eq_true rfl, Nat.le_of_ble_eq_true rfl⟩ hr rfl rfl rfl (Nat.le_of_ble_eq_true rfl) dL_law_203 ?_
    refine n_stk [] rfl ?_
    refine n_aload_n (i := 2) hc 3 dL_law_206 rfl rfl ?_
    refine n_callV (rest := []) (w2 := (oC k η).1 (sp_X9_chr k (xs (i + 1)) (xs (i + 2)) S).2 ++ [outC jA o f]) hc (ω' := oM (uM, η.2)) rfl kM_sub (fun _ _ _ _ => trivial) zM_ok 0 [] (fun l => c_X10_thrown l (uM, η.2) (sp_X10_chr (xs (i + 1)) (xs (i + 2)) M).2 trivial) wtN_233 geL_X10_thrown rfl ⟨rfl, rfl⟩ ⟨Nat.le_of_ble_eq_true rfl, Nat.le_of_ble_eq_true rfl⟩ hr rfl rfl rfl (Nat.le_of_ble_eq_true rfl) dL_law_207 ?_
    refine n_stk (.int (sp_X10_thrown (sp_X10_chr (xs (i + 1)) (xs (i + 2)) M).2).1 :: []) rfl ?_
    refine n_C ?_
    refine n_iload (i := 5) hc 0 dL_law_210 rfl ?_
    refine n_icmpeq (tgt := 217) hc dL_law_212 rfl (fun c => ?_) (fun c => absurd (x_chr hx (xs (i + 2)) hv).1 c)
    refine n_goto (tgt := 707) hc dL_law_217 rfl ?_
    refine n_lv [1, 2, 3, 4, 5] rfl ?_
    exact kk (sp_X9_chr k (xs (i + 1)) (xs (i + 2)) S).2 (sp_X10_thrown (sp_X10_chr (xs (i + 1)) (xs (i + 2)) M).2).2 f (x_chr hx (xs (i + 2)) hv).2.1
  · refine n_aload_n (i := 1) hc 3 dL_law_172 rfl rfl ?_
    refine n_aload_n (i := 0) hc 4 dL_law_173 rfl rfl ?_
    refine n_iload (i := 4) hc 0 dL_law_174 rfl ?_
    refine n_iconst (v := 1) hc dL_law_176 (by decide) ?_
    refine n_iadd hc dL_law_177 ?_
    refine n_sld hc (i + 1) (nI_add i 1) (by omega) (by omega) dL_law_178 ?_
    refine n_aload_n (i := 0) hc 4 dL_law_179 rfl rfl ?_
    refine n_iload (i := 4) hc 0 dL_law_180 rfl ?_
    refine n_iconst (v := 2) hc dL_law_182 (by decide) ?_
    refine n_iadd hc dL_law_183 ?_
    refine n_sld hc (i + 2) (nI_add i 2) (by omega) (by omega) dL_law_184 ?_
    refine n_callSW (na := 3) (rest := []) hc hlt [.ref (η.1 0), .int (xs (i + 1)), .int (xs (i + 2))] (fun l hl => h_X_chr l hl k η jA b L xs (xs (i + 1)) (xs (i + 2)) S (outC jA o f :: (oM (uM, η.2)).1 M) hv) wtN_234 wtN_235 wtN_230 wtN_236 (by decide +kernel) rfl ⟨Nat.le_of_ble_eq_true rfl, Nat.le_of_ble_eq_true rfl⟩ hr rfl (Nat.le_of_ble_eq_true rfl) dL_law_185 ?_
    refine n_stk [.int 1] rfl ?_
    refine n_istore (i := 5) (lv' := (5, .int 1) :: lV η (uM, η.2) b o (nI i)) hc dL_law_188 (by decide) rfl ?_
    refine n_aload_n (i := 2) hc 3 dL_law_190 rfl rfl ?_
    refine n_aload_n (i := 0) hc 5 dL_law_191 rfl rfl ?_
    refine n_iload (i := 4) hc 1 dL_law_192 rfl ?_
    refine n_iconst (v := 1) hc dL_law_194 (by decide) ?_
    refine n_iadd hc dL_law_195 ?_
    refine n_sld hc (i + 1) (nI_add i 1) (by omega) (by omega) dL_law_196 ?_
    refine n_aload_n (i := 0) hc 5 dL_law_197 rfl rfl ?_
    refine n_iload (i := 4) hc 1 dL_law_198 rfl ?_
    refine n_iconst (v := 2) hc dL_law_200 (by decide) ?_
    refine n_iadd hc dL_law_201 ?_
    refine n_sld hc (i + 2) (nI_add i 2) (by omega) (by omega) dL_law_202 ?_
    refine n_M ?_
    refine n_callV (rest := []) (w2 := (oC k η).1 S ++ [outC jA o f]) hc (ω' := oM (uM, η.2)) rfl kM_sub (fun _ _ _ _ => trivial) zM_ok 0 [.int ((xs (i + 1))), .int ((xs (i + 2)))] (fun l => c_X10_chr l (uM, η.2) (xs (i + 1)) (xs (i + 2)) M (y_chr hx (xs (i + 2)) hv).2.2) wtN_237 geL_X10_chr rfl ⟨rfl, rfl⟩ ⟨Nat.le_of_ble_eq_true rfl, Nat.le_of_ble_eq_true rfl⟩ hr rfl rfl rfl (Nat.le_of_ble_eq_true rfl) dL_law_203 ?_
    refine n_stk [] rfl ?_
    refine n_aload_n (i := 2) hc 3 dL_law_206 rfl rfl ?_
    refine n_callV (rest := []) (w2 := (oC k η).1 S ++ [outC jA o f]) hc (ω' := oM (uM, η.2)) rfl kM_sub (fun _ _ _ _ => trivial) zM_ok 0 [] (fun l => c_X10_thrown l (uM, η.2) (sp_X10_chr (xs (i + 1)) (xs (i + 2)) M).2 trivial) wtN_233 geL_X10_thrown rfl ⟨rfl, rfl⟩ ⟨Nat.le_of_ble_eq_true rfl, Nat.le_of_ble_eq_true rfl⟩ hr rfl rfl rfl (Nat.le_of_ble_eq_true rfl) dL_law_207 ?_
    refine n_stk (.int (sp_X10_thrown (sp_X10_chr (xs (i + 1)) (xs (i + 2)) M).2).1 :: []) rfl ?_
    refine n_C ?_
    refine n_iload (i := 5) hc 0 dL_law_210 rfl ?_
    refine n_icmpeq (tgt := 217) hc dL_law_212 rfl (fun c => ?_) (fun c => absurd (y_chr hx (xs (i + 2)) hv).1 c)
    refine n_goto (tgt := 707) hc dL_law_217 rfl ?_
    refine n_lv [1, 2, 3, 4, 5] rfl ?_
    exact kk S (sp_X10_thrown (sp_X10_chr (xs (i + 1)) (xs (i + 2)) M).2).2 f (y_chr hx (xs (i + 2)) hv).2.1
theorem l_pad (hc : gC (oL η jA b L xs) κ cL_law 7 RL ret room_1) (hlt : nLt κ) (hx : Rx k S M) (hi : i + 2 < L) (hL : L ≤ 1537) (hr : nc + 1 ≤ 1071 ∧ ns + 6 ≤ 19626) (kk : ∀ (S2 M2 : gSt) (f2 : Nat → Int64), Rx k S2 M2 → gN (oL η jA b L xs) κ 7 Q 707 (lV η (uM, η.2) b o (nI i)) [] (lW k η (uM, η.2) jA o S2 f2 M2) (nc + 1) (ns + 6)) : gN (oL η jA b L xs) κ 7 Q 354 (lV η (uM, η.2) b o (nI i)) [] (lW k η (uM, η.2) jA o S f M) nc ns := by
  by_cases hv : ¬ (xs (i + 1)) < 0 ∧ (xs (i + 1)) ≤ 1
  · refine n_aload_n (i := 1) hc 3 dL_law_354 rfl rfl ?_
    refine n_aload_n (i := 0) hc 4 dL_law_355 rfl rfl ?_
    refine n_iload (i := 4) hc 0 dL_law_356 rfl ?_
    refine n_iconst (v := 1) hc dL_law_358 (by decide) ?_
    refine n_iadd hc dL_law_359 ?_
    refine n_sld hc (i + 1) (nI_add i 1) (by omega) (by omega) dL_law_360 ?_
    refine n_aload_n (i := 0) hc 4 dL_law_361 rfl rfl ?_
    refine n_iload (i := 4) hc 0 dL_law_362 rfl ?_
    refine n_iconst (v := 2) hc dL_law_364 (by decide) ?_
    refine n_iadd hc dL_law_365 ?_
    refine n_sld hc (i + 2) (nI_add i 2) (by omega) (by omega) dL_law_366 ?_
    refine n_callSW (na := 3) (rest := []) hc hlt [.ref (η.1 0), .int (xs (i + 1)), .int (xs (i + 2))] (fun l hl => h_L_pad l hl k η jA b L xs (xs (i + 1)) (xs (i + 2)) S (outC jA o f :: (oM (uM, η.2)).1 M) hv) wtN_238 wtN_239 wtN_230 wtN_240 (by decide +kernel) rfl ⟨Nat.le_of_ble_eq_true rfl, Nat.le_of_ble_eq_true rfl⟩ hr rfl (Nat.le_of_ble_eq_true rfl) dL_law_367 ?_
    refine n_stk [.int 0] rfl ?_
    refine n_istore (i := 5) (lv' := (5, .int 0) :: lV η (uM, η.2) b o (nI i)) hc dL_law_370 (by decide) rfl ?_
    refine n_aload_n (i := 2) hc 3 dL_law_372 rfl rfl ?_
    refine n_aload_n (i := 0) hc 5 dL_law_373 rfl rfl ?_
    refine n_iload (i := 4) hc 1 dL_law_374 rfl ?_
    refine n_iconst (v := 1) hc dL_law_376 (by decide) ?_
    refine n_iadd hc dL_law_377 ?_
    refine n_sld hc (i + 1) (nI_add i 1) (by omega) (by omega) dL_law_378 ?_
    refine n_aload_n (i := 0) hc 5 dL_law_379 rfl rfl ?_
    refine n_iload (i := 4) hc 1 dL_law_380 rfl ?_
    refine n_iconst (v := 2) hc dL_law_382 (by decide) ?_
    refine n_iadd hc dL_law_383 ?_
    refine n_sld hc (i + 2) (nI_add i 2) (by omega) (by omega) dL_law_384 ?_
    refine n_M ?_
    refine n_callV (rest := []) (w2 := (oC k η).1 (sp_X9_pad k (xs (i + 1)) (xs (i + 2)) S).2 ++ [outC jA o f]) hc (ω' := oM (uM, η.2)) rfl kM_sub (fun _ _ _ _ => trivial) zM_ok 0 [.int ((xs (i + 1))), .int ((xs (i + 2)))] (fun l => c_X10_pad l (uM, η.2) (xs (i + 1)) (xs (i + 2)) M (x_pad hx (xs (i + 2)) hv).2.2) wtN_241 geL_X10_pad rfl ⟨rfl, rfl⟩ ⟨Nat.le_of_ble_eq_true rfl, Nat.le_of_ble_eq_true rfl⟩ hr rfl rfl rfl (Nat.le_of_ble_eq_true rfl) dL_law_385 ?_
    refine n_stk [] rfl ?_
    refine n_aload_n (i := 2) hc 3 dL_law_388 rfl rfl ?_
    refine n_callV (rest := []) (w2 := (oC k η).1 (sp_X9_pad k (xs (i + 1)) (xs (i + 2)) S).2 ++ [outC jA o f]) hc (ω' := oM (uM, η.2)) rfl kM_sub (fun _ _ _ _ => trivial) zM_ok 0 [] (fun l => c_X10_thrown l (uM, η.2) (sp_X10_pad (xs (i + 1)) (xs (i + 2)) M).2 trivial) wtN_233 geL_X10_thrown rfl ⟨rfl, rfl⟩ ⟨Nat.le_of_ble_eq_true rfl, Nat.le_of_ble_eq_true rfl⟩ hr rfl rfl rfl (Nat.le_of_ble_eq_true rfl) dL_law_389 ?_
    refine n_stk (.int (sp_X10_thrown (sp_X10_pad (xs (i + 1)) (xs (i + 2)) M).2).1 :: []) rfl ?_
    refine n_C ?_
    refine n_iload (i := 5) hc 0 dL_law_392 rfl ?_
    refine n_icmpeq (tgt := 399) hc dL_law_394 rfl (fun c => ?_) (fun c => absurd (x_pad hx (xs (i + 2)) hv).1 c)
    refine n_goto (tgt := 707) hc dL_law_399 rfl ?_
    refine n_lv [1, 2, 3, 4, 5] rfl ?_
    exact kk (sp_X9_pad k (xs (i + 1)) (xs (i + 2)) S).2 (sp_X10_thrown (sp_X10_pad (xs (i + 1)) (xs (i + 2)) M).2).2 f (x_pad hx (xs (i + 2)) hv).2.1
  · refine n_aload_n (i := 1) hc 3 dL_law_354 rfl rfl ?_
    refine n_aload_n (i := 0) hc 4 dL_law_355 rfl rfl ?_
    refine n_iload (i := 4) hc 0 dL_law_356 rfl ?_
    refine n_iconst (v := 1) hc dL_law_358 (by decide) ?_
    refine n_iadd hc dL_law_359 ?_
    refine n_sld hc (i + 1) (nI_add i 1) (by omega) (by omega) dL_law_360 ?_
    refine n_aload_n (i := 0) hc 4 dL_law_361 rfl rfl ?_
    refine n_iload (i := 4) hc 0 dL_law_362 rfl ?_
    refine n_iconst (v := 2) hc dL_law_364 (by decide) ?_
    refine n_iadd hc dL_law_365 ?_
    refine n_sld hc (i + 2) (nI_add i 2) (by omega) (by omega) dL_law_366 ?_
    refine n_callSW (na := 3) (rest := []) hc hlt [.ref (η.1 0), .int (xs (i + 1)), .int (xs (i + 2))] (fun l hl => h_X_pad l hl k η jA b L xs (xs (i + 1)) (xs (i + 2)) S (outC jA o f :: (oM (uM, η.2)).1 M) hv) wtN_238 wtN_239 wtN_230 wtN_240 (by decide +kernel) rfl ⟨Nat.le_of_ble_eq_true rfl, Nat.le_of_ble_eq_true rfl⟩ hr rfl (Nat.le_of_ble_eq_true rfl) dL_law_367 ?_
    refine n_stk [.int 1] rfl ?_
    refine n_istore (i := 5) (lv' := (5, .int 1) :: lV η (uM, η.2) b o (nI i)) hc dL_law_370 (by decide) rfl ?_
    refine n_aload_n (i := 2) hc 3 dL_law_372 rfl rfl ?_
    refine n_aload_n (i := 0) hc 5 dL_law_373 rfl rfl ?_
    refine n_iload (i := 4) hc 1 dL_law_374 rfl ?_
    refine n_iconst (v := 1) hc dL_law_376 (by decide) ?_
    refine n_iadd hc dL_law_377 ?_
    refine n_sld hc (i + 1) (nI_add i 1) (by omega) (by omega) dL_law_378 ?_
    refine n_aload_n (i := 0) hc 5 dL_law_379 rfl rfl ?_
    refine n_iload (i := 4) hc 1 dL_law_380 rfl ?_
    refine n_iconst (v := 2) hc dL_law_382 (by decide) ?_
    refine n_iadd hc dL_law_383 ?_
    refine n_sld hc (i + 2) (nI_add i 2) (by omega) (by omega) dL_law_384 ?_
    refine n_M ?_
    refine n_callV (rest := []) (w2 := (oC k η).1 S ++ [outC jA o f]) hc (ω' := oM (uM, η.2)) rfl kM_sub (fun _ _ _ _ => trivial) zM_ok 0 [.int ((xs (i + 1))), .int ((xs (i + 2)))] (fun l => c_X10_pad l (uM, η.2) (xs (i + 1)) (xs (i + 2)) M (y_pad hx (xs (i + 2)) hv).2.2) wtN_241 geL_X10_pad rfl ⟨rfl, rfl⟩ ⟨Nat.le_of_ble_eq_true rfl, Nat.le_of_ble_eq_true rfl⟩ hr rfl rfl rfl (Nat.le_of_ble_eq_true rfl) dL_law_385 ?_
    refine n_stk [] rfl ?_
    refine n_aload_n (i := 2) hc 3 dL_law_388 rfl rfl ?_
    refine n_callV (rest := []) (w2 := (oC k η).1 S ++ [outC jA o f]) hc (ω' := oM (uM, η.2)) rfl kM_sub (fun _ _ _ _ => trivial) zM_ok 0 [] (fun l => c_X10_thrown l (uM, η.2) (sp_X10_pad (xs (i + 1)) (xs (i + 2)) M).2 trivial) wtN_233 geL_X10_thrown rfl ⟨rfl, rfl⟩ ⟨Nat.le_of_ble_eq_true rfl, Nat.le_of_ble_eq_true rfl⟩ hr rfl rfl rfl (Nat.le_of_ble_eq_true rfl) dL_law_389 ?_
    refine n_stk (.int (sp_X10_thrown (sp_X10_pad (xs (i + 1)) (xs (i + 2)) M).2).1 :: []) rfl ?_
    refine n_C ?_
    refine n_iload (i := 5) hc 0 dL_law_392 rfl ?_
    refine n_icmpeq (tgt := 399) hc dL_law_394 rfl (fun c => ?_) (fun c => absurd (y_pad hx (xs (i + 2)) hv).1 c)
    refine n_goto (tgt := 707) hc dL_law_399 rfl ?_
    refine n_lv [1, 2, 3, 4, 5] rfl ?_
    exact kk S (sp_X10_thrown (sp_X10_pad (xs (i + 1)) (xs (i + 2)) M).2).2 f (y_pad hx (xs (i + 2)) hv).2.1
theorem l_core (hc : gC (oL η jA b L xs) κ cL_law 7 RL ret room_1) (hlt : nLt κ) (hx : Rx k S M) (hi : i + 2 < L) (hL : L ≤ 1537) (hr : nc + 1 ≤ 1071 ∧ ns + 6 ≤ 19626) (kk : ∀ (S2 M2 : gSt) (f2 : Nat → Int64), Rx k S2 M2 → gN (oL η jA b L xs) κ 7 Q 707 (lV η (uM, η.2) b o (nI i)) [] (lW k η (uM, η.2) jA o S2 f2 M2) (nc + 1) (ns + 6)) : gN (oL η jA b L xs) κ 7 Q 402 (lV η (uM, η.2) b o (nI i)) [] (lW k η (uM, η.2) jA o S f M) nc ns := by
  by_cases hv : (xs (i + 1)) = 0 ∨ (xs (i + 1)) = 1 ∨ (xs (i + 1)) = 2 ∨ (xs (i + 1)) = 3 ∨ (xs (i + 1)) = 4 ∨ (xs (i + 1)) = 5 ∨ (xs (i + 1)) = 6 ∨ (xs (i + 1)) = 7 ∨ (xs (i + 1)) = 8
  · refine n_aload_n (i := 1) hc 3 dL_law_402 rfl rfl ?_
    refine n_aload_n (i := 0) hc 4 dL_law_403 rfl rfl ?_
    refine n_iload (i := 4) hc 0 dL_law_404 rfl ?_
    refine n_iconst (v := 1) hc dL_law_406 (by decide) ?_
    refine n_iadd hc dL_law_407 ?_
    refine n_sld hc (i + 1) (nI_add i 1) (by omega) (by omega) dL_law_408 ?_
    refine n_aload_n (i := 3) hc 1 dL_law_409 rfl rfl ?_
    refine n_callSW (na := 3) (rest := []) hc hlt [.ref (η.1 0), .int (xs (i + 1)), .ref o] (fun l hl => h_L_core l hl k η jA b L xs (xs (i + 1)) o f S ((oM (uM, η.2)).1 M) hv) wtN_242 wtN_243 wtN_230 wtN_244 (by decide +kernel) rfl ⟨Nat.le_of_ble_eq_true rfl, Nat.le_of_ble_eq_true rfl⟩ hr rfl (Nat.le_of_ble_eq_true rfl) dL_law_410 ?_
    refine n_stk [.int 0] rfl ?_
    refine n_istore (i := 5) (lv' := (5, .int 0) :: lV η (uM, η.2) b o (nI i)) hc dL_law_413 (by decide) rfl ?_
    refine n_aload_n (i := 2) hc 3 dL_law_415 rfl rfl ?_
    refine n_aload_n (i := 0) hc 5 dL_law_416 rfl rfl ?_
    refine n_iload (i := 4) hc 1 dL_law_417 rfl ?_
    refine n_iconst (v := 1) hc dL_law_419 (by decide) ?_
    refine n_iadd hc dL_law_420 ?_
    refine n_sld hc (i + 1) (nI_add i 1) (by omega) (by omega) dL_law_421 ?_
    refine n_M ?_
    refine n_callV (rest := []) (w2 := (oC k η).1 (sp_X9_core k (xs (i + 1)) S).2 ++ [outC jA o (vp_updL f 0 (sp_X9_core k (xs (i + 1)) S).1.toInt64)]) hc (ω' := oM (uM, η.2)) rfl kM_sub (fun _ _ _ _ => trivial) zM_ok 0 [.int ((xs (i + 1)))] (fun l => c_X10_core l (uM, η.2) (xs (i + 1)) M (x_core hx hv).2.2.2) wtN_245 geL_X10_core rfl ⟨rfl, rfl⟩ ⟨Nat.le_of_ble_eq_true rfl, Nat.le_of_ble_eq_true rfl⟩ hr rfl rfl rfl (Nat.le_of_ble_eq_true rfl) dL_law_422 ?_
    refine n_stk (.int (sp_X10_core (xs (i + 1)) M).1 :: []) rfl ?_
    refine n_istore (i := 6) (lv' := (6, .int (sp_X10_core (xs (i + 1)) M).1) :: (5, .int 0) :: lV η (uM, η.2) b o (nI i)) hc dL_law_425 (by decide) rfl ?_
    refine n_aload_n (i := 2) hc 4 dL_law_427 rfl rfl ?_
    refine n_callV (rest := []) (w2 := (oC k η).1 (sp_X9_core k (xs (i + 1)) S).2 ++ [outC jA o (vp_updL f 0 (sp_X9_core k (xs (i + 1)) S).1.toInt64)]) hc (ω' := oM (uM, η.2)) rfl kM_sub (fun _ _ _ _ => trivial) zM_ok 0 [] (fun l => c_X10_thrown l (uM, η.2) (sp_X10_core (xs (i + 1)) M).2 trivial) wtN_233 geL_X10_thrown rfl ⟨rfl, rfl⟩ ⟨Nat.le_of_ble_eq_true rfl, Nat.le_of_ble_eq_true rfl⟩ hr rfl rfl rfl (Nat.le_of_ble_eq_true rfl) dL_law_428 ?_
    refine n_stk (.int (sp_X10_thrown (sp_X10_core (xs (i + 1)) M).2).1 :: []) rfl ?_
    refine n_C ?_
    refine n_iload (i := 5) hc 1 dL_law_431 rfl ?_
    refine n_icmpeq (tgt := 438) hc dL_law_433 rfl (fun c => ?_) (fun c => absurd (x_core hx hv).2.1 c)
    refine n_iload (i := 5) hc 1 dL_law_438 rfl ?_
    refine n_ifne (tgt := 455) hc dL_law_440 rfl (fun c => ?_) (fun c => absurd rfl c)
    refine n_aload_n (i := 3) hc 3 dL_law_443 rfl rfl ?_
    refine n_iconst (v := 0) hc dL_law_444 (by decide) ?_
    refine n_perm (outC jA o (vp_updL f 0 (sp_X9_core k (xs (i + 1)) S).1.toInt64) :: ((oC k η).1 (sp_X9_core k (xs (i + 1)) S).2 ++ (oM (uM, η.2)).1 (sp_X10_thrown (sp_X10_core (xs (i + 1)) M).2).2)) mid_p ?_
    refine n_lald hc 0 2 rfl rfl (vp_in_iff.mpr (by decide)) dL_law_445 ?_
    refine n_perm ((oC k η).1 (sp_X9_core k (xs (i + 1)) S).2 ++ outC jA o (vp_updL f 0 (sp_X9_core k (xs (i + 1)) S).1.toInt64) :: (oM (uM, η.2)).1 (sp_X10_thrown (sp_X10_core (xs (i + 1)) M).2).2) mid_p.symm ?_
    refine n_iload (i := 6) hc 0 dL_law_446 rfl ?_
    refine n_i2l hc dL_law_448 ?_
    refine n_lcmp hc dL_law_449 ?_
    refine n_ifeq (tgt := 455) hc dL_law_450 rfl (fun c => ?_) (fun c => absurd (cmp0 (congrArg Int32.toInt64 (x_core hx hv).1.symm)) c)
    refine n_goto (tgt := 707) hc dL_law_455 rfl ?_
    refine n_lv [2, 3, 4, 5, 6] rfl ?_
    exact kk (sp_X9_core k (xs (i + 1)) S).2 (sp_X10_thrown (sp_X10_core (xs (i + 1)) M).2).2 (vp_updL f 0 (sp_X9_core k (xs (i + 1)) S).1.toInt64) (x_core hx hv).2.2.1
  · refine n_aload_n (i := 1) hc 3 dL_law_402 rfl rfl ?_
    refine n_aload_n (i := 0) hc 4 dL_law_403 rfl rfl ?_
    refine n_iload (i := 4) hc 0 dL_law_404 rfl ?_
    refine n_iconst (v := 1) hc dL_law_406 (by decide) ?_
    refine n_iadd hc dL_law_407 ?_
    refine n_sld hc (i + 1) (nI_add i 1) (by omega) (by omega) dL_law_408 ?_
    refine n_aload_n (i := 3) hc 1 dL_law_409 rfl rfl ?_
    refine n_callSW (na := 3) (rest := []) hc hlt [.ref (η.1 0), .int (xs (i + 1)), .ref o] (fun l hl => h_X_core l hl k η jA b L xs (xs (i + 1)) o f S ((oM (uM, η.2)).1 M) hv) wtN_242 wtN_243 wtN_230 wtN_244 (by decide +kernel) rfl ⟨Nat.le_of_ble_eq_true rfl, Nat.le_of_ble_eq_true rfl⟩ hr rfl (Nat.le_of_ble_eq_true rfl) dL_law_410 ?_
    refine n_stk [.int 1] rfl ?_
    refine n_istore (i := 5) (lv' := (5, .int 1) :: lV η (uM, η.2) b o (nI i)) hc dL_law_413 (by decide) rfl ?_
    refine n_aload_n (i := 2) hc 3 dL_law_415 rfl rfl ?_
    refine n_aload_n (i := 0) hc 5 dL_law_416 rfl rfl ?_
    refine n_iload (i := 4) hc 1 dL_law_417 rfl ?_
    refine n_iconst (v := 1) hc dL_law_419 (by decide) ?_
    refine n_iadd hc dL_law_420 ?_
    refine n_sld hc (i + 1) (nI_add i 1) (by omega) (by omega) dL_law_421 ?_
    refine n_M ?_
    refine n_callV (rest := []) (w2 := (oC k η).1 S ++ [outC jA o f]) hc (ω' := oM (uM, η.2)) rfl kM_sub (fun _ _ _ _ => trivial) zM_ok 0 [.int ((xs (i + 1)))] (fun l => c_X10_core l (uM, η.2) (xs (i + 1)) M (y_core hx hv).2.2) wtN_245 geL_X10_core rfl ⟨rfl, rfl⟩ ⟨Nat.le_of_ble_eq_true rfl, Nat.le_of_ble_eq_true rfl⟩ hr rfl rfl rfl (Nat.le_of_ble_eq_true rfl) dL_law_422 ?_
    refine n_stk (.int (sp_X10_core (xs (i + 1)) M).1 :: []) rfl ?_
    refine n_istore (i := 6) (lv' := (6, .int (sp_X10_core (xs (i + 1)) M).1) :: (5, .int 1) :: lV η (uM, η.2) b o (nI i)) hc dL_law_425 (by decide) rfl ?_
    refine n_aload_n (i := 2) hc 4 dL_law_427 rfl rfl ?_
    refine n_callV (rest := []) (w2 := (oC k η).1 S ++ [outC jA o f]) hc (ω' := oM (uM, η.2)) rfl kM_sub (fun _ _ _ _ => trivial) zM_ok 0 [] (fun l => c_X10_thrown l (uM, η.2) (sp_X10_core (xs (i + 1)) M).2 trivial) wtN_233 geL_X10_thrown rfl ⟨rfl, rfl⟩ ⟨Nat.le_of_ble_eq_true rfl, Nat.le_of_ble_eq_true rfl⟩ hr rfl rfl rfl (Nat.le_of_ble_eq_true rfl) dL_law_428 ?_
    refine n_stk (.int (sp_X10_thrown (sp_X10_core (xs (i + 1)) M).2).1 :: []) rfl ?_
    refine n_C ?_
    refine n_iload (i := 5) hc 1 dL_law_431 rfl ?_
    refine n_icmpeq (tgt := 438) hc dL_law_433 rfl (fun c => ?_) (fun c => absurd (y_core hx hv).1 c)
    refine n_iload (i := 5) hc 1 dL_law_438 rfl ?_
    refine n_ifne (tgt := 455) hc dL_law_440 rfl (fun c => absurd c (by decide)) (fun c => ?_)
    refine n_goto (tgt := 707) hc dL_law_455 rfl ?_
    refine n_lv [2, 3, 4, 5, 6] rfl ?_
    exact kk S (sp_X10_thrown (sp_X10_core (xs (i + 1)) M).2).2 f (y_core hx hv).2.1
theorem l_picture (hc : gC (oL η jA b L xs) κ cL_law 7 RL ret room_1) (hlt : nLt κ) (hx : Rx k S M) (hi : i + 2 < L) (hL : L ≤ 1537) (hr : nc + 1 ≤ 1071 ∧ ns + 6 ≤ 19626) (kk : ∀ (S2 M2 : gSt) (f2 : Nat → Int64), Rx k S2 M2 → gN (oL η jA b L xs) κ 7 Q 707 (lV η (uM, η.2) b o (nI i)) [] (lW k η (uM, η.2) jA o S2 f2 M2) (nc + 1) (ns + 6)) : gN (oL η jA b L xs) κ 7 Q 458 (lV η (uM, η.2) b o (nI i)) [] (lW k η (uM, η.2) jA o S f M) nc ns := by
  by_cases hv : (xs (i + 1)) = 0 ∨ (xs (i + 1)) = 1 ∨ (xs (i + 1)) = 2 ∨ (xs (i + 1)) = 3 ∨ (xs (i + 1)) = 4 ∨ (xs (i + 1)) = 5 ∨ (xs (i + 1)) = 6 ∨ (xs (i + 1)) = 7 ∨ (xs (i + 1)) = 8 ∨ (xs (i + 1)) = 9 ∨ (xs (i + 1)) = 10
  · refine n_aload_n (i := 1) hc 3 dL_law_458 rfl rfl ?_
    refine n_aload_n (i := 0) hc 4 dL_law_459 rfl rfl ?_
    refine n_iload (i := 4) hc 0 dL_law_460 rfl ?_
    refine n_iconst (v := 1) hc dL_law_462 (by decide) ?_
    refine n_iadd hc dL_law_463 ?_
    refine n_sld hc (i + 1) (nI_add i 1) (by omega) (by omega) dL_law_464 ?_
    refine n_aload_n (i := 3) hc 1 dL_law_465 rfl rfl ?_
    refine n_callSW (na := 3) (rest := []) hc hlt [.ref (η.1 0), .int (xs (i + 1)), .ref o] (fun l hl => h_L_picture l hl k η jA b L xs (xs (i + 1)) o f S ((oM (uM, η.2)).1 M) hv) wtN_246 wtN_247 wtN_230 wtN_248 (by decide +kernel) rfl ⟨Nat.le_of_ble_eq_true rfl, Nat.le_of_ble_eq_true rfl⟩ hr rfl (Nat.le_of_ble_eq_true rfl) dL_law_466 ?_
    refine n_stk [.int 0] rfl ?_
    refine n_istore (i := 5) (lv' := (5, .int 0) :: lV η (uM, η.2) b o (nI i)) hc dL_law_469 (by decide) rfl ?_
    refine n_aload_n (i := 2) hc 3 dL_law_471 rfl rfl ?_
    refine n_aload_n (i := 0) hc 5 dL_law_472 rfl rfl ?_
    refine n_iload (i := 4) hc 1 dL_law_473 rfl ?_
    refine n_iconst (v := 1) hc dL_law_475 (by decide) ?_
    refine n_iadd hc dL_law_476 ?_
    refine n_sld hc (i + 1) (nI_add i 1) (by omega) (by omega) dL_law_477 ?_
    refine n_M ?_
    refine n_callV (rest := []) (w2 := (oC k η).1 (sp_X9_picture k (xs (i + 1)) S).2 ++ [outC jA o (vp_updL f 0 (sp_X9_picture k (xs (i + 1)) S).1.toInt64)]) hc (ω' := oM (uM, η.2)) rfl kM_sub (fun _ _ _ _ => trivial) zM_ok 0 [.int ((xs (i + 1)))] (fun l => c_X10_picture l (uM, η.2) (xs (i + 1)) M (x_picture hx hv).2.2.2) wtN_249 geL_X10_picture rfl ⟨rfl, rfl⟩ ⟨Nat.le_of_ble_eq_true rfl, Nat.le_of_ble_eq_true rfl⟩ hr rfl rfl rfl (Nat.le_of_ble_eq_true rfl) dL_law_478 ?_
    refine n_stk (.int (sp_X10_picture (xs (i + 1)) M).1 :: []) rfl ?_
    refine n_istore (i := 6) (lv' := (6, .int (sp_X10_picture (xs (i + 1)) M).1) :: (5, .int 0) :: lV η (uM, η.2) b o (nI i)) hc dL_law_481 (by decide) rfl ?_
    refine n_aload_n (i := 2) hc 4 dL_law_483 rfl rfl ?_
    refine n_callV (rest := []) (w2 := (oC k η).1 (sp_X9_picture k (xs (i + 1)) S).2 ++ [outC jA o (vp_updL f 0 (sp_X9_picture k (xs (i + 1)) S).1.toInt64)]) hc (ω' := oM (uM, η.2)) rfl kM_sub (fun _ _ _ _ => trivial) zM_ok 0 [] (fun l => c_X10_thrown l (uM, η.2) (sp_X10_picture (xs (i + 1)) M).2 trivial) wtN_233 geL_X10_thrown rfl ⟨rfl, rfl⟩ ⟨Nat.le_of_ble_eq_true rfl, Nat.le_of_ble_eq_true rfl⟩ hr rfl rfl rfl (Nat.le_of_ble_eq_true rfl) dL_law_484 ?_
    refine n_stk (.int (sp_X10_thrown (sp_X10_picture (xs (i + 1)) M).2).1 :: []) rfl ?_
    refine n_C ?_
    refine n_iload (i := 5) hc 1 dL_law_487 rfl ?_
    refine n_icmpeq (tgt := 494) hc dL_law_489 rfl (fun c => ?_) (fun c => absurd (x_picture hx hv).2.1 c)
    refine n_iload (i := 5) hc 1 dL_law_494 rfl ?_
    refine n_ifne (tgt := 511) hc dL_law_496 rfl (fun c => ?_) (fun c => absurd rfl c)
    refine n_aload_n (i := 3) hc 3 dL_law_499 rfl rfl ?_
    refine n_iconst (v := 0) hc dL_law_500 (by decide) ?_
    refine n_perm (outC jA o (vp_updL f 0 (sp_X9_picture k (xs (i + 1)) S).1.toInt64) :: ((oC k η).1 (sp_X9_picture k (xs (i + 1)) S).2 ++ (oM (uM, η.2)).1 (sp_X10_thrown (sp_X10_picture (xs (i + 1)) M).2).2)) mid_p ?_
    refine n_lald hc 0 2 rfl rfl (vp_in_iff.mpr (by decide)) dL_law_501 ?_
    refine n_perm ((oC k η).1 (sp_X9_picture k (xs (i + 1)) S).2 ++ outC jA o (vp_updL f 0 (sp_X9_picture k (xs (i + 1)) S).1.toInt64) :: (oM (uM, η.2)).1 (sp_X10_thrown (sp_X10_picture (xs (i + 1)) M).2).2) mid_p.symm ?_
    refine n_iload (i := 6) hc 0 dL_law_502 rfl ?_
    refine n_i2l hc dL_law_504 ?_
    refine n_lcmp hc dL_law_505 ?_
    refine n_ifeq (tgt := 511) hc dL_law_506 rfl (fun c => ?_) (fun c => absurd (cmp0 (congrArg Int32.toInt64 (x_picture hx hv).1.symm)) c)
    refine n_goto (tgt := 707) hc dL_law_511 rfl ?_
    refine n_lv [2, 3, 4, 5, 6] rfl ?_
    exact kk (sp_X9_picture k (xs (i + 1)) S).2 (sp_X10_thrown (sp_X10_picture (xs (i + 1)) M).2).2 (vp_updL f 0 (sp_X9_picture k (xs (i + 1)) S).1.toInt64) (x_picture hx hv).2.2.1
  · refine n_aload_n (i := 1) hc 3 dL_law_458 rfl rfl ?_
    refine n_aload_n (i := 0) hc 4 dL_law_459 rfl rfl ?_
    refine n_iload (i := 4) hc 0 dL_law_460 rfl ?_
    refine n_iconst (v := 1) hc dL_law_462 (by decide) ?_
    refine n_iadd hc dL_law_463 ?_
    refine n_sld hc (i + 1) (nI_add i 1) (by omega) (by omega) dL_law_464 ?_
    refine n_aload_n (i := 3) hc 1 dL_law_465 rfl rfl ?_
    refine n_callSW (na := 3) (rest := []) hc hlt [.ref (η.1 0), .int (xs (i + 1)), .ref o] (fun l hl => h_X_picture l hl k η jA b L xs (xs (i + 1)) o f S ((oM (uM, η.2)).1 M) hv) wtN_246 wtN_247 wtN_230 wtN_248 (by decide +kernel) rfl ⟨Nat.le_of_ble_eq_true rfl, Nat.le_of_ble_eq_true rfl⟩ hr rfl (Nat.le_of_ble_eq_true rfl) dL_law_466 ?_
    refine n_stk [.int 1] rfl ?_
    refine n_istore (i := 5) (lv' := (5, .int 1) :: lV η (uM, η.2) b o (nI i)) hc dL_law_469 (by decide) rfl ?_
    refine n_aload_n (i := 2) hc 3 dL_law_471 rfl rfl ?_
    refine n_aload_n (i := 0) hc 5 dL_law_472 rfl rfl ?_
    refine n_iload (i := 4) hc 1 dL_law_473 rfl ?_
    refine n_iconst (v := 1) hc dL_law_475 (by decide) ?_
    refine n_iadd hc dL_law_476 ?_
    refine n_sld hc (i + 1) (nI_add i 1) (by omega) (by omega) dL_law_477 ?_
    refine n_M ?_
    refine n_callV (rest := []) (w2 := (oC k η).1 S ++ [outC jA o f]) hc (ω' := oM (uM, η.2)) rfl kM_sub (fun _ _ _ _ => trivial) zM_ok 0 [.int ((xs (i + 1)))] (fun l => c_X10_picture l (uM, η.2) (xs (i + 1)) M (y_picture hx hv).2.2) wtN_249 geL_X10_picture rfl ⟨rfl, rfl⟩ ⟨Nat.le_of_ble_eq_true rfl, Nat.le_of_ble_eq_true rfl⟩ hr rfl rfl rfl (Nat.le_of_ble_eq_true rfl) dL_law_478 ?_
    refine n_stk (.int (sp_X10_picture (xs (i + 1)) M).1 :: []) rfl ?_
    refine n_istore (i := 6) (lv' := (6, .int (sp_X10_picture (xs (i + 1)) M).1) :: (5, .int 1) :: lV η (uM, η.2) b o (nI i)) hc dL_law_481 (by decide) rfl ?_
    refine n_aload_n (i := 2) hc 4 dL_law_483 rfl rfl ?_
    refine n_callV (rest := []) (w2 := (oC k η).1 S ++ [outC jA o f]) hc (ω' := oM (uM, η.2)) rfl kM_sub (fun _ _ _ _ => trivial) zM_ok 0 [] (fun l => c_X10_thrown l (uM, η.2) (sp_X10_picture (xs (i + 1)) M).2 trivial) wtN_233 geL_X10_thrown rfl ⟨rfl, rfl⟩ ⟨Nat.le_of_ble_eq_true rfl, Nat.le_of_ble_eq_true rfl⟩ hr rfl rfl rfl (Nat.le_of_ble_eq_true rfl) dL_law_484 ?_
    refine n_stk (.int (sp_X10_thrown (sp_X10_picture (xs (i + 1)) M).2).1 :: []) rfl ?_
    refine n_C ?_
    refine n_iload (i := 5) hc 1 dL_law_487 rfl ?_
    refine n_icmpeq (tgt := 494) hc dL_law_489 rfl (fun c => ?_) (fun c => absurd (y_picture hx hv).1 c)
    refine n_iload (i := 5) hc 1 dL_law_494 rfl ?_
    refine n_ifne (tgt := 511) hc dL_law_496 rfl (fun c => absurd c (by decide)) (fun c => ?_)
    refine n_goto (tgt := 707) hc dL_law_511 rfl ?_
    refine n_lv [2, 3, 4, 5, 6] rfl ?_
    exact kk S (sp_X10_thrown (sp_X10_picture (xs (i + 1)) M).2).2 f (y_picture hx hv).2.1
theorem l_oam (hc : gC (oL η jA b L xs) κ cL_law 7 RL ret room_1) (hlt : nLt κ) (hx : Rx k S M) (hi : i + 2 < L) (hL : L ≤ 1537) (hr : nc + 1 ≤ 1071 ∧ ns + 6 ≤ 19626) (kk : ∀ (S2 M2 : gSt) (f2 : Nat → Int64), Rx k S2 M2 → gN (oL η jA b L xs) κ 7 Q 707 (lV η (uM, η.2) b o (nI i)) [] (lW k η (uM, η.2) jA o S2 f2 M2) (nc + 1) (ns + 6)) : gN (oL η jA b L xs) κ 7 Q 539 (lV η (uM, η.2) b o (nI i)) [] (lW k η (uM, η.2) jA o S f M) nc ns := by
  by_cases hv : ¬ (xs (i + 1)) < 0 ∧ (xs (i + 1)) < 256
  · refine n_aload_n (i := 1) hc 3 dL_law_539 rfl rfl ?_
    refine n_aload_n (i := 0) hc 4 dL_law_540 rfl rfl ?_
    refine n_iload (i := 4) hc 0 dL_law_541 rfl ?_
    refine n_iconst (v := 1) hc dL_law_543 (by decide) ?_
    refine n_iadd hc dL_law_544 ?_
    refine n_sld hc (i + 1) (nI_add i 1) (by omega) (by omega) dL_law_545 ?_
    refine n_aload_n (i := 3) hc 1 dL_law_546 rfl rfl ?_
    refine n_callSW (na := 3) (rest := []) hc hlt [.ref (η.1 0), .int (xs (i + 1)), .ref o] (fun l hl => h_L_oam l hl k η jA b L xs (xs (i + 1)) o f S ((oM (uM, η.2)).1 M) hv) wtN_250 wtN_251 wtN_230 wtN_252 (by decide +kernel) rfl ⟨Nat.le_of_ble_eq_true rfl, Nat.le_of_ble_eq_true rfl⟩ hr rfl (Nat.le_of_ble_eq_true rfl) dL_law_547 ?_
    refine n_stk [.int 0] rfl ?_
    refine n_istore (i := 5) (lv' := (5, .int 0) :: lV η (uM, η.2) b o (nI i)) hc dL_law_550 (by decide) rfl ?_
    refine n_aload_n (i := 2) hc 3 dL_law_552 rfl rfl ?_
    refine n_aload_n (i := 0) hc 5 dL_law_553 rfl rfl ?_
    refine n_iload (i := 4) hc 1 dL_law_554 rfl ?_
    refine n_iconst (v := 1) hc dL_law_556 (by decide) ?_
    refine n_iadd hc dL_law_557 ?_
    refine n_sld hc (i + 1) (nI_add i 1) (by omega) (by omega) dL_law_558 ?_
    refine n_M ?_
    refine n_callV (rest := []) (w2 := (oC k η).1 (sp_X9_oam k (xs (i + 1)) S).2 ++ [outC jA o (vp_updL f 0 (sp_X9_oam k (xs (i + 1)) S).1.toInt64)]) hc (ω' := oM (uM, η.2)) rfl kM_sub (fun _ _ _ _ => trivial) zM_ok 0 [.int ((xs (i + 1)))] (fun l => c_X10_oam l (uM, η.2) (xs (i + 1)) M (x_oam hx hv).2.2.2) wtN_253 geL_X10_oam rfl ⟨rfl, rfl⟩ ⟨Nat.le_of_ble_eq_true rfl, Nat.le_of_ble_eq_true rfl⟩ hr rfl rfl rfl (Nat.le_of_ble_eq_true rfl) dL_law_559 ?_
    refine n_stk (.int (sp_X10_oam (xs (i + 1)) M).1 :: []) rfl ?_
    refine n_istore (i := 6) (lv' := (6, .int (sp_X10_oam (xs (i + 1)) M).1) :: (5, .int 0) :: lV η (uM, η.2) b o (nI i)) hc dL_law_562 (by decide) rfl ?_
    refine n_aload_n (i := 2) hc 4 dL_law_564 rfl rfl ?_
    refine n_callV (rest := []) (w2 := (oC k η).1 (sp_X9_oam k (xs (i + 1)) S).2 ++ [outC jA o (vp_updL f 0 (sp_X9_oam k (xs (i + 1)) S).1.toInt64)]) hc (ω' := oM (uM, η.2)) rfl kM_sub (fun _ _ _ _ => trivial) zM_ok 0 [] (fun l => c_X10_thrown l (uM, η.2) (sp_X10_oam (xs (i + 1)) M).2 trivial) wtN_233 geL_X10_thrown rfl ⟨rfl, rfl⟩ ⟨Nat.le_of_ble_eq_true rfl, Nat.le_of_ble_eq_true rfl⟩ hr rfl rfl rfl (Nat.le_of_ble_eq_true rfl) dL_law_565 ?_
    refine n_stk (.int (sp_X10_thrown (sp_X10_oam (xs (i + 1)) M).2).1 :: []) rfl ?_
    refine n_C ?_
    refine n_iload (i := 5) hc 1 dL_law_568 rfl ?_
    refine n_icmpeq (tgt := 575) hc dL_law_570 rfl (fun c => ?_) (fun c => absurd (x_oam hx hv).2.1 c)
    refine n_iload (i := 5) hc 1 dL_law_575 rfl ?_
    refine n_ifne (tgt := 592) hc dL_law_577 rfl (fun c => ?_) (fun c => absurd rfl c)
    refine n_aload_n (i := 3) hc 3 dL_law_580 rfl rfl ?_
    refine n_iconst (v := 0) hc dL_law_581 (by decide) ?_
    refine n_perm (outC jA o (vp_updL f 0 (sp_X9_oam k (xs (i + 1)) S).1.toInt64) :: ((oC k η).1 (sp_X9_oam k (xs (i + 1)) S).2 ++ (oM (uM, η.2)).1 (sp_X10_thrown (sp_X10_oam (xs (i + 1)) M).2).2)) mid_p ?_
    refine n_lald hc 0 2 rfl rfl (vp_in_iff.mpr (by decide)) dL_law_582 ?_
    refine n_perm ((oC k η).1 (sp_X9_oam k (xs (i + 1)) S).2 ++ outC jA o (vp_updL f 0 (sp_X9_oam k (xs (i + 1)) S).1.toInt64) :: (oM (uM, η.2)).1 (sp_X10_thrown (sp_X10_oam (xs (i + 1)) M).2).2) mid_p.symm ?_
    refine n_iload (i := 6) hc 0 dL_law_583 rfl ?_
    refine n_i2l hc dL_law_585 ?_
    refine n_lcmp hc dL_law_586 ?_
    refine n_ifeq (tgt := 592) hc dL_law_587 rfl (fun c => ?_) (fun c => absurd (cmp0 (congrArg Int32.toInt64 (x_oam hx hv).1.symm)) c)
    refine n_goto (tgt := 707) hc dL_law_592 rfl ?_
    refine n_lv [2, 3, 4, 5, 6] rfl ?_
    exact kk (sp_X9_oam k (xs (i + 1)) S).2 (sp_X10_thrown (sp_X10_oam (xs (i + 1)) M).2).2 (vp_updL f 0 (sp_X9_oam k (xs (i + 1)) S).1.toInt64) (x_oam hx hv).2.2.1
  · refine n_aload_n (i := 1) hc 3 dL_law_539 rfl rfl ?_
    refine n_aload_n (i := 0) hc 4 dL_law_540 rfl rfl ?_
    refine n_iload (i := 4) hc 0 dL_law_541 rfl ?_
    refine n_iconst (v := 1) hc dL_law_543 (by decide) ?_
    refine n_iadd hc dL_law_544 ?_
    refine n_sld hc (i + 1) (nI_add i 1) (by omega) (by omega) dL_law_545 ?_
    refine n_aload_n (i := 3) hc 1 dL_law_546 rfl rfl ?_
    refine n_callSW (na := 3) (rest := []) hc hlt [.ref (η.1 0), .int (xs (i + 1)), .ref o] (fun l hl => h_X_oam l hl k η jA b L xs (xs (i + 1)) o f S ((oM (uM, η.2)).1 M) hv) wtN_250 wtN_251 wtN_230 wtN_252 (by decide +kernel) rfl ⟨Nat.le_of_ble_eq_true rfl, Nat.le_of_ble_eq_true rfl⟩ hr rfl (Nat.le_of_ble_eq_true rfl) dL_law_547 ?_
    refine n_stk [.int 1] rfl ?_
    refine n_istore (i := 5) (lv' := (5, .int 1) :: lV η (uM, η.2) b o (nI i)) hc dL_law_550 (by decide) rfl ?_
    refine n_aload_n (i := 2) hc 3 dL_law_552 rfl rfl ?_
    refine n_aload_n (i := 0) hc 5 dL_law_553 rfl rfl ?_
    refine n_iload (i := 4) hc 1 dL_law_554 rfl ?_
    refine n_iconst (v := 1) hc dL_law_556 (by decide) ?_
    refine n_iadd hc dL_law_557 ?_
    refine n_sld hc (i + 1) (nI_add i 1) (by omega) (by omega) dL_law_558 ?_
    refine n_M ?_
    refine n_callV (rest := []) (w2 := (oC k η).1 S ++ [outC jA o f]) hc (ω' := oM (uM, η.2)) rfl kM_sub (fun _ _ _ _ => trivial) zM_ok 0 [.int ((xs (i + 1)))] (fun l => c_X10_oam l (uM, η.2) (xs (i + 1)) M (y_oam hx hv).2.2) wtN_253 geL_X10_oam rfl ⟨rfl, rfl⟩ ⟨Nat.le_of_ble_eq_true rfl, Nat.le_of_ble_eq_true rfl⟩ hr rfl rfl rfl (Nat.le_of_ble_eq_true rfl) dL_law_559 ?_
    refine n_stk (.int (sp_X10_oam (xs (i + 1)) M).1 :: []) rfl ?_
    refine n_istore (i := 6) (lv' := (6, .int (sp_X10_oam (xs (i + 1)) M).1) :: (5, .int 1) :: lV η (uM, η.2) b o (nI i)) hc dL_law_562 (by decide) rfl ?_
    refine n_aload_n (i := 2) hc 4 dL_law_564 rfl rfl ?_
    refine n_callV (rest := []) (w2 := (oC k η).1 S ++ [outC jA o f]) hc (ω' := oM (uM, η.2)) rfl kM_sub (fun _ _ _ _ => trivial) zM_ok 0 [] (fun l => c_X10_thrown l (uM, η.2) (sp_X10_oam (xs (i + 1)) M).2 trivial) wtN_233 geL_X10_thrown rfl ⟨rfl, rfl⟩ ⟨Nat.le_of_ble_eq_true rfl, Nat.le_of_ble_eq_true rfl⟩ hr rfl rfl rfl (Nat.le_of_ble_eq_true rfl) dL_law_565 ?_
    refine n_stk (.int (sp_X10_thrown (sp_X10_oam (xs (i + 1)) M).2).1 :: []) rfl ?_
    refine n_C ?_
    refine n_iload (i := 5) hc 1 dL_law_568 rfl ?_
    refine n_icmpeq (tgt := 575) hc dL_law_570 rfl (fun c => ?_) (fun c => absurd (y_oam hx hv).1 c)
    refine n_iload (i := 5) hc 1 dL_law_575 rfl ?_
    refine n_ifne (tgt := 592) hc dL_law_577 rfl (fun c => absurd c (by decide)) (fun c => ?_)
    refine n_goto (tgt := 707) hc dL_law_592 rfl ?_
    refine n_lv [2, 3, 4, 5, 6] rfl ?_
    exact kk S (sp_X10_thrown (sp_X10_oam (xs (i + 1)) M).2).2 f (y_oam hx hv).2.1
theorem l_cartridge (hc : gC (oL η jA b L xs) κ cL_law 7 RL ret room_1) (hlt : nLt κ) (hx : Rx k S M) (hi : i + 2 < L) (hL : L ≤ 1537) (hr : nc + 1 ≤ 1071 ∧ ns + 6 ≤ 19626) (kk : ∀ (S2 M2 : gSt) (f2 : Nat → Int64), Rx k S2 M2 → gN (oL η jA b L xs) κ 7 Q 707 (lV η (uM, η.2) b o (nI i)) [] (lW k η (uM, η.2) jA o S2 f2 M2) (nc + 1) (ns + 6)) : gN (oL η jA b L xs) κ 7 Q 595 (lV η (uM, η.2) b o (nI i)) [] (lW k η (uM, η.2) jA o S f M) nc ns := by
  by_cases hv : ¬ (xs (i + 1)) < 0 ∧ (xs (i + 1)) ≤ 13
  · refine n_aload_n (i := 1) hc 3 dL_law_595 rfl rfl ?_
    refine n_aload_n (i := 0) hc 4 dL_law_596 rfl rfl ?_
    refine n_iload (i := 4) hc 0 dL_law_597 rfl ?_
    refine n_iconst (v := 1) hc dL_law_599 (by decide) ?_
    refine n_iadd hc dL_law_600 ?_
    refine n_sld hc (i + 1) (nI_add i 1) (by omega) (by omega) dL_law_601 ?_
    refine n_aload_n (i := 3) hc 1 dL_law_602 rfl rfl ?_
    refine n_callSW (na := 3) (rest := []) hc hlt [.ref (η.1 0), .int (xs (i + 1)), .ref o] (fun l hl => h_L_cartridge l hl k η jA b L xs (xs (i + 1)) o f S ((oM (uM, η.2)).1 M) hv) wtN_254 wtN_255 wtN_230 wtN_256 (by decide +kernel) rfl ⟨Nat.le_of_ble_eq_true rfl, Nat.le_of_ble_eq_true rfl⟩ hr rfl (Nat.le_of_ble_eq_true rfl) dL_law_603 ?_
    refine n_stk [.int 0] rfl ?_
    refine n_istore (i := 5) (lv' := (5, .int 0) :: lV η (uM, η.2) b o (nI i)) hc dL_law_606 (by decide) rfl ?_
    refine n_aload_n (i := 2) hc 3 dL_law_608 rfl rfl ?_
    refine n_aload_n (i := 0) hc 5 dL_law_609 rfl rfl ?_
    refine n_iload (i := 4) hc 1 dL_law_610 rfl ?_
    refine n_iconst (v := 1) hc dL_law_612 (by decide) ?_
    refine n_iadd hc dL_law_613 ?_
    refine n_sld hc (i + 1) (nI_add i 1) (by omega) (by omega) dL_law_614 ?_
    refine n_M ?_
    refine n_callV (rest := []) (w2 := (oC k η).1 (sp_X9_cartridge k (xs (i + 1)) S).2 ++ [outC jA o (vp_updL f 0 (sp_X9_cartridge k (xs (i + 1)) S).1.toInt64)]) hc (ω' := oM (uM, η.2)) rfl kM_sub (fun _ _ _ _ => trivial) zM_ok 0 [.int ((xs (i + 1)))] (fun l => c_X10_cartridge l (uM, η.2) (xs (i + 1)) M (x_cartridge hx hv).2.2.2) wtN_257 geL_X10_cartridge rfl ⟨rfl, rfl⟩ ⟨Nat.le_of_ble_eq_true rfl, Nat.le_of_ble_eq_true rfl⟩ hr rfl rfl rfl (Nat.le_of_ble_eq_true rfl) dL_law_615 ?_
    refine n_stk (.int (sp_X10_cartridge (xs (i + 1)) M).1 :: []) rfl ?_
    refine n_istore (i := 6) (lv' := (6, .int (sp_X10_cartridge (xs (i + 1)) M).1) :: (5, .int 0) :: lV η (uM, η.2) b o (nI i)) hc dL_law_618 (by decide) rfl ?_
    refine n_aload_n (i := 2) hc 4 dL_law_620 rfl rfl ?_
    refine n_callV (rest := []) (w2 := (oC k η).1 (sp_X9_cartridge k (xs (i + 1)) S).2 ++ [outC jA o (vp_updL f 0 (sp_X9_cartridge k (xs (i + 1)) S).1.toInt64)]) hc (ω' := oM (uM, η.2)) rfl kM_sub (fun _ _ _ _ => trivial) zM_ok 0 [] (fun l => c_X10_thrown l (uM, η.2) (sp_X10_cartridge (xs (i + 1)) M).2 trivial) wtN_233 geL_X10_thrown rfl ⟨rfl, rfl⟩ ⟨Nat.le_of_ble_eq_true rfl, Nat.le_of_ble_eq_true rfl⟩ hr rfl rfl rfl (Nat.le_of_ble_eq_true rfl) dL_law_621 ?_
    refine n_stk (.int (sp_X10_thrown (sp_X10_cartridge (xs (i + 1)) M).2).1 :: []) rfl ?_
    refine n_C ?_
    refine n_iload (i := 5) hc 1 dL_law_624 rfl ?_
    refine n_icmpeq (tgt := 631) hc dL_law_626 rfl (fun c => ?_) (fun c => absurd (x_cartridge hx hv).2.1 c)
    refine n_iload (i := 5) hc 1 dL_law_631 rfl ?_
    refine n_ifne (tgt := 648) hc dL_law_633 rfl (fun c => ?_) (fun c => absurd rfl c)
    refine n_aload_n (i := 3) hc 3 dL_law_636 rfl rfl ?_
    refine n_iconst (v := 0) hc dL_law_637 (by decide) ?_
    refine n_perm (outC jA o (vp_updL f 0 (sp_X9_cartridge k (xs (i + 1)) S).1.toInt64) :: ((oC k η).1 (sp_X9_cartridge k (xs (i + 1)) S).2 ++ (oM (uM, η.2)).1 (sp_X10_thrown (sp_X10_cartridge (xs (i + 1)) M).2).2)) mid_p ?_
    refine n_lald hc 0 2 rfl rfl (vp_in_iff.mpr (by decide)) dL_law_638 ?_
    refine n_perm ((oC k η).1 (sp_X9_cartridge k (xs (i + 1)) S).2 ++ outC jA o (vp_updL f 0 (sp_X9_cartridge k (xs (i + 1)) S).1.toInt64) :: (oM (uM, η.2)).1 (sp_X10_thrown (sp_X10_cartridge (xs (i + 1)) M).2).2) mid_p.symm ?_
    refine n_iload (i := 6) hc 0 dL_law_639 rfl ?_
    refine n_i2l hc dL_law_641 ?_
    refine n_lcmp hc dL_law_642 ?_
    refine n_ifeq (tgt := 648) hc dL_law_643 rfl (fun c => ?_) (fun c => absurd (cmp0 (congrArg Int32.toInt64 (x_cartridge hx hv).1.symm)) c)
    refine n_goto (tgt := 707) hc dL_law_648 rfl ?_
    refine n_lv [2, 3, 4, 5, 6] rfl ?_
    exact kk (sp_X9_cartridge k (xs (i + 1)) S).2 (sp_X10_thrown (sp_X10_cartridge (xs (i + 1)) M).2).2 (vp_updL f 0 (sp_X9_cartridge k (xs (i + 1)) S).1.toInt64) (x_cartridge hx hv).2.2.1
  · refine n_aload_n (i := 1) hc 3 dL_law_595 rfl rfl ?_
    refine n_aload_n (i := 0) hc 4 dL_law_596 rfl rfl ?_
    refine n_iload (i := 4) hc 0 dL_law_597 rfl ?_
    refine n_iconst (v := 1) hc dL_law_599 (by decide) ?_
    refine n_iadd hc dL_law_600 ?_
    refine n_sld hc (i + 1) (nI_add i 1) (by omega) (by omega) dL_law_601 ?_
    refine n_aload_n (i := 3) hc 1 dL_law_602 rfl rfl ?_
    refine n_callSW (na := 3) (rest := []) hc hlt [.ref (η.1 0), .int (xs (i + 1)), .ref o] (fun l hl => h_X_cartridge l hl k η jA b L xs (xs (i + 1)) o f S ((oM (uM, η.2)).1 M) hv) wtN_254 wtN_255 wtN_230 wtN_256 (by decide +kernel) rfl ⟨Nat.le_of_ble_eq_true rfl, Nat.le_of_ble_eq_true rfl⟩ hr rfl (Nat.le_of_ble_eq_true rfl) dL_law_603 ?_
    refine n_stk [.int 1] rfl ?_
    refine n_istore (i := 5) (lv' := (5, .int 1) :: lV η (uM, η.2) b o (nI i)) hc dL_law_606 (by decide) rfl ?_
    refine n_aload_n (i := 2) hc 3 dL_law_608 rfl rfl ?_
    refine n_aload_n (i := 0) hc 5 dL_law_609 rfl rfl ?_
    refine n_iload (i := 4) hc 1 dL_law_610 rfl ?_
    refine n_iconst (v := 1) hc dL_law_612 (by decide) ?_
    refine n_iadd hc dL_law_613 ?_
    refine n_sld hc (i + 1) (nI_add i 1) (by omega) (by omega) dL_law_614 ?_
    refine n_M ?_
    refine n_callV (rest := []) (w2 := (oC k η).1 S ++ [outC jA o f]) hc (ω' := oM (uM, η.2)) rfl kM_sub (fun _ _ _ _ => trivial) zM_ok 0 [.int ((xs (i + 1)))] (fun l => c_X10_cartridge l (uM, η.2) (xs (i + 1)) M (y_cartridge hx hv).2.2) wtN_257 geL_X10_cartridge rfl ⟨rfl, rfl⟩ ⟨Nat.le_of_ble_eq_true rfl, Nat.le_of_ble_eq_true rfl⟩ hr rfl rfl rfl (Nat.le_of_ble_eq_true rfl) dL_law_615 ?_
    refine n_stk (.int (sp_X10_cartridge (xs (i + 1)) M).1 :: []) rfl ?_
    refine n_istore (i := 6) (lv' := (6, .int (sp_X10_cartridge (xs (i + 1)) M).1) :: (5, .int 1) :: lV η (uM, η.2) b o (nI i)) hc dL_law_618 (by decide) rfl ?_
    refine n_aload_n (i := 2) hc 4 dL_law_620 rfl rfl ?_
    refine n_callV (rest := []) (w2 := (oC k η).1 S ++ [outC jA o f]) hc (ω' := oM (uM, η.2)) rfl kM_sub (fun _ _ _ _ => trivial) zM_ok 0 [] (fun l => c_X10_thrown l (uM, η.2) (sp_X10_cartridge (xs (i + 1)) M).2 trivial) wtN_233 geL_X10_thrown rfl ⟨rfl, rfl⟩ ⟨Nat.le_of_ble_eq_true rfl, Nat.le_of_ble_eq_true rfl⟩ hr rfl rfl rfl (Nat.le_of_ble_eq_true rfl) dL_law_621 ?_
    refine n_stk (.int (sp_X10_thrown (sp_X10_cartridge (xs (i + 1)) M).2).1 :: []) rfl ?_
    refine n_C ?_
    refine n_iload (i := 5) hc 1 dL_law_624 rfl ?_
    refine n_icmpeq (tgt := 631) hc dL_law_626 rfl (fun c => ?_) (fun c => absurd (y_cartridge hx hv).1 c)
    refine n_iload (i := 5) hc 1 dL_law_631 rfl ?_
    refine n_ifne (tgt := 648) hc dL_law_633 rfl (fun c => absurd c (by decide)) (fun c => ?_)
    refine n_goto (tgt := 707) hc dL_law_648 rfl ?_
    refine n_lv [2, 3, 4, 5, 6] rfl ?_
    exact kk S (sp_X10_thrown (sp_X10_cartridge (xs (i + 1)) M).2).2 f (y_cartridge hx hv).2.1
theorem l_sound (hc : gC (oL η jA b L xs) κ cL_law 7 RL ret room_1) (hlt : nLt κ) (hx : Rx k S M) (hi : i + 2 < L) (hL : L ≤ 1537) (hr : nc + 1 ≤ 1071 ∧ ns + 6 ≤ 19626) (kk : ∀ (S2 M2 : gSt) (f2 : Nat → Int64), Rx k S2 M2 → gN (oL η jA b L xs) κ 7 Q 707 (lV η (uM, η.2) b o (nI i)) [] (lW k η (uM, η.2) jA o S2 f2 M2) (nc + 1) (ns + 6)) : gN (oL η jA b L xs) κ 7 Q 651 (lV η (uM, η.2) b o (nI i)) [] (lW k η (uM, η.2) jA o S f M) nc ns := by
  by_cases hv : ¬ (xs (i + 1)) < 0 ∧ (xs (i + 1)) ≤ 4
  · refine n_aload_n (i := 1) hc 3 dL_law_651 rfl rfl ?_
    refine n_aload_n (i := 0) hc 4 dL_law_652 rfl rfl ?_
    refine n_iload (i := 4) hc 0 dL_law_653 rfl ?_
    refine n_iconst (v := 1) hc dL_law_655 (by decide) ?_
    refine n_iadd hc dL_law_656 ?_
    refine n_sld hc (i + 1) (nI_add i 1) (by omega) (by omega) dL_law_657 ?_
    refine n_aload_n (i := 3) hc 1 dL_law_658 rfl rfl ?_
    refine n_callSW (na := 3) (rest := []) hc hlt [.ref (η.1 0), .int (xs (i + 1)), .ref o] (fun l hl => h_L_sound l hl k η jA b L xs (xs (i + 1)) o f S ((oM (uM, η.2)).1 M) hv) wtN_258 wtN_259 wtN_230 wtN_260 (by decide +kernel) rfl ⟨Nat.le_of_ble_eq_true rfl, Nat.le_of_ble_eq_true rfl⟩ hr rfl (Nat.le_of_ble_eq_true rfl) dL_law_659 ?_
    refine n_stk [.int 0] rfl ?_
    refine n_istore (i := 5) (lv' := (5, .int 0) :: lV η (uM, η.2) b o (nI i)) hc dL_law_662 (by decide) rfl ?_
    refine n_aload_n (i := 2) hc 3 dL_law_664 rfl rfl ?_
    refine n_aload_n (i := 0) hc 5 dL_law_665 rfl rfl ?_
    refine n_iload (i := 4) hc 1 dL_law_666 rfl ?_
    refine n_iconst (v := 1) hc dL_law_668 (by decide) ?_
    refine n_iadd hc dL_law_669 ?_
    refine n_sld hc (i + 1) (nI_add i 1) (by omega) (by omega) dL_law_670 ?_
    refine n_M ?_
    refine n_callV (rest := []) (w2 := (oC k η).1 (sp_X9_sound k (xs (i + 1)) S).2 ++ [outC jA o (vp_updL f 0 (sp_X9_sound k (xs (i + 1)) S).1.toInt64)]) hc (ω' := oM (uM, η.2)) rfl kM_sub (fun _ _ _ _ => trivial) zM_ok 0 [.int ((xs (i + 1)))] (fun l => c_X10_sound l (uM, η.2) (xs (i + 1)) M (x_sound hx hv).2.2.2) wtN_261 geL_X10_sound rfl ⟨rfl, rfl⟩ ⟨Nat.le_of_ble_eq_true rfl, Nat.le_of_ble_eq_true rfl⟩ hr rfl rfl rfl (Nat.le_of_ble_eq_true rfl) dL_law_671 ?_
    refine n_stk (.int (sp_X10_sound (xs (i + 1)) M).1 :: []) rfl ?_
    refine n_istore (i := 6) (lv' := (6, .int (sp_X10_sound (xs (i + 1)) M).1) :: (5, .int 0) :: lV η (uM, η.2) b o (nI i)) hc dL_law_674 (by decide) rfl ?_
    refine n_aload_n (i := 2) hc 4 dL_law_676 rfl rfl ?_
    refine n_callV (rest := []) (w2 := (oC k η).1 (sp_X9_sound k (xs (i + 1)) S).2 ++ [outC jA o (vp_updL f 0 (sp_X9_sound k (xs (i + 1)) S).1.toInt64)]) hc (ω' := oM (uM, η.2)) rfl kM_sub (fun _ _ _ _ => trivial) zM_ok 0 [] (fun l => c_X10_thrown l (uM, η.2) (sp_X10_sound (xs (i + 1)) M).2 trivial) wtN_233 geL_X10_thrown rfl ⟨rfl, rfl⟩ ⟨Nat.le_of_ble_eq_true rfl, Nat.le_of_ble_eq_true rfl⟩ hr rfl rfl rfl (Nat.le_of_ble_eq_true rfl) dL_law_677 ?_
    refine n_stk (.int (sp_X10_thrown (sp_X10_sound (xs (i + 1)) M).2).1 :: []) rfl ?_
    refine n_C ?_
    refine n_iload (i := 5) hc 1 dL_law_680 rfl ?_
    refine n_icmpeq (tgt := 687) hc dL_law_682 rfl (fun c => ?_) (fun c => absurd (x_sound hx hv).2.1 c)
    refine n_iload (i := 5) hc 1 dL_law_687 rfl ?_
    refine n_ifne (tgt := 704) hc dL_law_689 rfl (fun c => ?_) (fun c => absurd rfl c)
    refine n_aload_n (i := 3) hc 3 dL_law_692 rfl rfl ?_
    refine n_iconst (v := 0) hc dL_law_693 (by decide) ?_
    refine n_perm (outC jA o (vp_updL f 0 (sp_X9_sound k (xs (i + 1)) S).1.toInt64) :: ((oC k η).1 (sp_X9_sound k (xs (i + 1)) S).2 ++ (oM (uM, η.2)).1 (sp_X10_thrown (sp_X10_sound (xs (i + 1)) M).2).2)) mid_p ?_
    refine n_lald hc 0 2 rfl rfl (vp_in_iff.mpr (by decide)) dL_law_694 ?_
    refine n_perm ((oC k η).1 (sp_X9_sound k (xs (i + 1)) S).2 ++ outC jA o (vp_updL f 0 (sp_X9_sound k (xs (i + 1)) S).1.toInt64) :: (oM (uM, η.2)).1 (sp_X10_thrown (sp_X10_sound (xs (i + 1)) M).2).2) mid_p.symm ?_
    refine n_iload (i := 6) hc 0 dL_law_695 rfl ?_
    refine n_i2l hc dL_law_697 ?_
    refine n_lcmp hc dL_law_698 ?_
    refine n_ifeq (tgt := 704) hc dL_law_699 rfl (fun c => ?_) (fun c => absurd (cmp0 (congrArg Int32.toInt64 (x_sound hx hv).1.symm)) c)
    refine n_goto (tgt := 707) hc dL_law_704 rfl ?_
    refine n_lv [2, 3, 4, 5, 6] rfl ?_
    exact kk (sp_X9_sound k (xs (i + 1)) S).2 (sp_X10_thrown (sp_X10_sound (xs (i + 1)) M).2).2 (vp_updL f 0 (sp_X9_sound k (xs (i + 1)) S).1.toInt64) (x_sound hx hv).2.2.1
  · refine n_aload_n (i := 1) hc 3 dL_law_651 rfl rfl ?_
    refine n_aload_n (i := 0) hc 4 dL_law_652 rfl rfl ?_
    refine n_iload (i := 4) hc 0 dL_law_653 rfl ?_
    refine n_iconst (v := 1) hc dL_law_655 (by decide) ?_
    refine n_iadd hc dL_law_656 ?_
    refine n_sld hc (i + 1) (nI_add i 1) (by omega) (by omega) dL_law_657 ?_
    refine n_aload_n (i := 3) hc 1 dL_law_658 rfl rfl ?_
    refine n_callSW (na := 3) (rest := []) hc hlt [.ref (η.1 0), .int (xs (i + 1)), .ref o] (fun l hl => h_X_sound l hl k η jA b L xs (xs (i + 1)) o f S ((oM (uM, η.2)).1 M) hv) wtN_258 wtN_259 wtN_230 wtN_260 (by decide +kernel) rfl ⟨Nat.le_of_ble_eq_true rfl, Nat.le_of_ble_eq_true rfl⟩ hr rfl (Nat.le_of_ble_eq_true rfl) dL_law_659 ?_
    refine n_stk [.int 1] rfl ?_
    refine n_istore (i := 5) (lv' := (5, .int 1) :: lV η (uM, η.2) b o (nI i)) hc dL_law_662 (by decide) rfl ?_
    refine n_aload_n (i := 2) hc 3 dL_law_664 rfl rfl ?_
    refine n_aload_n (i := 0) hc 5 dL_law_665 rfl rfl ?_
    refine n_iload (i := 4) hc 1 dL_law_666 rfl ?_
    refine n_iconst (v := 1) hc dL_law_668 (by decide) ?_
    refine n_iadd hc dL_law_669 ?_
    refine n_sld hc (i + 1) (nI_add i 1) (by omega) (by omega) dL_law_670 ?_
    refine n_M ?_
    refine n_callV (rest := []) (w2 := (oC k η).1 S ++ [outC jA o f]) hc (ω' := oM (uM, η.2)) rfl kM_sub (fun _ _ _ _ => trivial) zM_ok 0 [.int ((xs (i + 1)))] (fun l => c_X10_sound l (uM, η.2) (xs (i + 1)) M (y_sound hx hv).2.2) wtN_261 geL_X10_sound rfl ⟨rfl, rfl⟩ ⟨Nat.le_of_ble_eq_true rfl, Nat.le_of_ble_eq_true rfl⟩ hr rfl rfl rfl (Nat.le_of_ble_eq_true rfl) dL_law_671 ?_
    refine n_stk (.int (sp_X10_sound (xs (i + 1)) M).1 :: []) rfl ?_
    refine n_istore (i := 6) (lv' := (6, .int (sp_X10_sound (xs (i + 1)) M).1) :: (5, .int 1) :: lV η (uM, η.2) b o (nI i)) hc dL_law_674 (by decide) rfl ?_
    refine n_aload_n (i := 2) hc 4 dL_law_676 rfl rfl ?_
    refine n_callV (rest := []) (w2 := (oC k η).1 S ++ [outC jA o f]) hc (ω' := oM (uM, η.2)) rfl kM_sub (fun _ _ _ _ => trivial) zM_ok 0 [] (fun l => c_X10_thrown l (uM, η.2) (sp_X10_sound (xs (i + 1)) M).2 trivial) wtN_233 geL_X10_thrown rfl ⟨rfl, rfl⟩ ⟨Nat.le_of_ble_eq_true rfl, Nat.le_of_ble_eq_true rfl⟩ hr rfl rfl rfl (Nat.le_of_ble_eq_true rfl) dL_law_677 ?_
    refine n_stk (.int (sp_X10_thrown (sp_X10_sound (xs (i + 1)) M).2).1 :: []) rfl ?_
    refine n_C ?_
    refine n_iload (i := 5) hc 1 dL_law_680 rfl ?_
    refine n_icmpeq (tgt := 687) hc dL_law_682 rfl (fun c => ?_) (fun c => absurd (y_sound hx hv).1 c)
    refine n_iload (i := 5) hc 1 dL_law_687 rfl ?_
    refine n_ifne (tgt := 704) hc dL_law_689 rfl (fun c => absurd c (by decide)) (fun c => ?_)
    refine n_goto (tgt := 707) hc dL_law_704 rfl ?_
    refine n_lv [2, 3, 4, 5, 6] rfl ?_
    exact kk S (sp_X10_thrown (sp_X10_sound (xs (i + 1)) M).2).2 f (y_sound hx hv).2.1
end LC
end LB
