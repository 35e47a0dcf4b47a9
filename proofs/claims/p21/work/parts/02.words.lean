theorem mw_49 : Cond.fieldLink "SelfCheckSteps$House" 22 "SelfCheckSteps$House" "wrongCodes" "[I" ∈ lw_ok := List.mem_filter.mpr ⟨List.mem_of_getElem? (i := 49) (by decide +kernel), rfl⟩
theorem mw_47 : Cond.fieldLink "SelfCheckSteps$House" 18 "SelfCheckSteps$House" "barred" "[Z" ∈ lw_ok := List.mem_filter.mpr ⟨List.mem_of_getElem? (i := 47) (by decide +kernel), rfl⟩
set_option maxRecDepth 20000 in
theorem mw_167 : Cond.code y_isBBC prog_2_method_2_code 2 (some .boolean) ∈ lw_ok := List.mem_filter.mpr ⟨List.mem_of_getElem? (i := 167) rfl, rfl⟩
theorem mw_15 : Cond.initialized "SelfCheckSteps$House" ∈ lw_ok := List.mem_filter.mpr ⟨List.mem_of_getElem? (i := 15) (by decide +kernel), rfl⟩
theorem mw_164 : Cond.methodLink "SelfCheckSteps$House" 46 y_isBBC ∈ lw_ok := List.mem_filter.mpr ⟨List.mem_of_getElem? (i := 164) (by decide +kernel), rfl⟩
theorem mw_165 : Cond.instanceMethod y_isBBC ∈ lw_ok := List.mem_filter.mpr ⟨List.mem_of_getElem? (i := 165) (by decide +kernel), rfl⟩
theorem mw_166 : Cond.selects "SelfCheckSteps$House" y_isBBC y_isBBC ∈ lw_ok := List.mem_filter.mpr ⟨List.mem_of_getElem? (i := 166) (by decide +kernel), rfl⟩
theorem mw_51 : Cond.fieldLink "SelfCheckSteps$House" 25 "SelfCheckSteps$House" "holders" "[I" ∈ lw_ok := List.mem_filter.mpr ⟨List.mem_of_getElem? (i := 51) (by decide +kernel), rfl⟩
theorem mw_53 : Cond.fieldLink "SelfCheckSteps$House" 28 "SelfCheckSteps$House" "reservedFor" "[I" ∈ lw_ok := List.mem_filter.mpr ⟨List.mem_of_getElem? (i := 53) (by decide +kernel), rfl⟩
set_option maxRecDepth 20000 in
theorem mw_163 : Cond.code y_isBl prog_2_method_3_code 2 (some .boolean) ∈ lw_ok := List.mem_filter.mpr ⟨List.mem_of_getElem? (i := 163) rfl, rfl⟩
theorem mw_224 : Cond.methodLink "SelfCheckSteps$House" 50 y_isBl ∈ lw_ok := List.mem_filter.mpr ⟨List.mem_of_getElem? (i := 224) (by decide +kernel), rfl⟩
theorem mw_161 : Cond.instanceMethod y_isBl ∈ lw_ok := List.mem_filter.mpr ⟨List.mem_of_getElem? (i := 161) (by decide +kernel), rfl⟩
theorem mw_162 : Cond.selects "SelfCheckSteps$House" y_isBl y_isBl ∈ lw_ok := List.mem_filter.mpr ⟨List.mem_of_getElem? (i := 162) (by decide +kernel), rfl⟩
set_option maxRecDepth 20000 in
theorem mw_228 : Cond.code y_cntI prog_2_method_4_code 4 (some .int) ∈ lw_ok := List.mem_filter.mpr ⟨List.mem_of_getElem? (i := 228) rfl, rfl⟩
theorem mw_225 : Cond.methodLink "SelfCheckSteps$House" 53 y_cntI ∈ lw_ok := List.mem_filter.mpr ⟨List.mem_of_getElem? (i := 225) (by decide +kernel), rfl⟩
theorem mw_226 : Cond.instanceMethod y_cntI ∈ lw_ok := List.mem_filter.mpr ⟨List.mem_of_getElem? (i := 226) (by decide +kernel), rfl⟩
theorem mw_227 : Cond.selects "SelfCheckSteps$House" y_cntI y_cntI ∈ lw_ok := List.mem_filter.mpr ⟨List.mem_of_getElem? (i := 227) (by decide +kernel), rfl⟩
theorem mw_55 : Cond.fieldLink "SelfCheckSteps$House" 31 "SelfCheckSteps$House" "marked" "[Z" ∈ lw_ok := List.mem_filter.mpr ⟨List.mem_of_getElem? (i := 55) (by decide +kernel), rfl⟩
theorem mw_57 : Cond.fieldLink "SelfCheckSteps$House" 34 "SelfCheckSteps$House" "lockerOf" "[I" ∈ lw_ok := List.mem_filter.mpr ⟨List.mem_of_getElem? (i := 57) (by decide +kernel), rfl⟩
theorem mw_59 : Cond.fieldLink "SelfCheckSteps$House" 37 "SelfCheckSteps$House" "lockers" "[I" ∈ lw_ok := List.mem_filter.mpr ⟨List.mem_of_getElem? (i := 59) (by decide +kernel), rfl⟩
theorem mw_93 : Cond.fieldLink "SelfCheckSteps$RowList" 24 "SelfCheckSteps$RowList" "count" "I" ∈ lw_ok := List.mem_filter.mpr ⟨List.mem_of_getElem? (i := 93) (by decide +kernel), rfl⟩
theorem mw_89 : Cond.fieldLink "SelfCheckSteps$RowList" 15 "SelfCheckSteps$RowList" "items" "[I" ∈ lw_ok := List.mem_filter.mpr ⟨List.mem_of_getElem? (i := 89) (by decide +kernel), rfl⟩
theorem mw_91 : Cond.fieldLink "SelfCheckSteps$RowList" 21 "SelfCheckSteps$RowList" "persons" "[I" ∈ lw_ok := List.mem_filter.mpr ⟨List.mem_of_getElem? (i := 91) (by decide +kernel), rfl⟩
set_option maxRecDepth 20000 in
theorem mw_219 : Cond.code y_isFull prog_3_method_2_code 1 (some .boolean) ∈ lw_ok := List.mem_filter.mpr ⟨List.mem_of_getElem? (i := 219) rfl, rfl⟩
theorem mw_17 : Cond.initialized "SelfCheckSteps$RowList" ∈ lw_ok := List.mem_filter.mpr ⟨List.mem_of_getElem? (i := 17) (by decide +kernel), rfl⟩
theorem mw_233 : Cond.methodLink "SelfCheckSteps$RowList" 28 y_isFull ∈ lw_ok := List.mem_filter.mpr ⟨List.mem_of_getElem? (i := 233) (by decide +kernel), rfl⟩
theorem mw_217 : Cond.instanceMethod y_isFull ∈ lw_ok := List.mem_filter.mpr ⟨List.mem_of_getElem? (i := 217) (by decide +kernel), rfl⟩
theorem mw_218 : Cond.selects "SelfCheckSteps$RowList" y_isFull y_isFull ∈ lw_ok := List.mem_filter.mpr ⟨List.mem_of_getElem? (i := 218) (by decide +kernel), rfl⟩
theorem mw_112 : Cond.fieldLink "SelfCheckSteps$Session" 19 "SelfCheckSteps$Session" "state" "I" ∈ lw_ok := List.mem_filter.mpr ⟨List.mem_of_getElem? (i := 112) (by decide +kernel), rfl⟩
theorem mw_116 : Cond.fieldLink "SelfCheckSteps$Session" 25 "SelfCheckSteps$Session" "latest" "I" ∈ lw_ok := List.mem_filter.mpr ⟨List.mem_of_getElem? (i := 116) (by decide +kernel), rfl⟩
theorem mw_118 : Cond.fieldLink "SelfCheckSteps$Session" 28 "SelfCheckSteps$Session" "latestIsDone" "Z" ∈ lw_ok := List.mem_filter.mpr ⟨List.mem_of_getElem? (i := 118) (by decide +kernel), rfl⟩
theorem mw_110 : Cond.fieldLink "SelfCheckSteps$Session" 15 "SelfCheckSteps$Session" "lentCount" "I" ∈ lw_ok := List.mem_filter.mpr ⟨List.mem_of_getElem? (i := 110) (by decide +kernel), rfl⟩
theorem mw_108 : Cond.fieldLink "SelfCheckSteps$Session" 9 "SelfCheckSteps$Session" "lent" "[I" ∈ lw_ok := List.mem_filter.mpr ⟨List.mem_of_getElem? (i := 108) (by decide +kernel), rfl⟩
set_option maxRecDepth 20000 in
theorem mw_273 : Cond.code y_remR prog_3_method_7_code 4 none ∈ lw_ok := List.mem_filter.mpr ⟨List.mem_of_getElem? (i := 273) rfl, rfl⟩
theorem mw_270 : Cond.methodLink "SelfCheckSteps$RowList" 36 y_remR ∈ lw_ok := List.mem_filter.mpr ⟨List.mem_of_getElem? (i := 270) (by decide +kernel), rfl⟩
theorem mw_272 : Cond.instanceMethod y_remR ∈ lw_ok := List.mem_filter.mpr ⟨List.mem_of_getElem? (i := 272) (by decide +kernel), rfl⟩
theorem mw_3 : Cond.selects "SelfCheckSteps$RowList" y_remR y_remR ∈ lw_ok := List.mem_filter.mpr ⟨List.mem_of_getElem? (i := 3) (by decide +kernel), rfl⟩
set_option maxRecDepth 20000 in
theorem mw_269 : Cond.code y_isLend prog_3_method_3_code 2 (some .boolean) ∈ lw_ok := List.mem_filter.mpr ⟨List.mem_of_getElem? (i := 269) rfl, rfl⟩
theorem mw_266 : Cond.methodLink "SelfCheckSteps$RowList" 32 y_isLend ∈ lw_ok := List.mem_filter.mpr ⟨List.mem_of_getElem? (i := 266) (by decide +kernel), rfl⟩
theorem mw_267 : Cond.instanceMethod y_isLend ∈ lw_ok := List.mem_filter.mpr ⟨List.mem_of_getElem? (i := 267) (by decide +kernel), rfl⟩
theorem mw_268 : Cond.selects "SelfCheckSteps$RowList" y_isLend y_isLend ∈ lw_ok := List.mem_filter.mpr ⟨List.mem_of_getElem? (i := 268) (by decide +kernel), rfl⟩
theorem mw_137 : Cond.fieldLink "SelfCheckSteps" 44 "SelfCheckSteps" "isOffline" "Z" ∈ lw_ok := List.mem_filter.mpr ⟨List.mem_of_getElem? (i := 137) (by decide +kernel), rfl⟩
theorem mw_133 : Cond.fieldLink "SelfCheckSteps" 21 "SelfCheckSteps" "house" "LSelfCheckSteps$House;" ∈ lw_ok := List.mem_filter.mpr ⟨List.mem_of_getElem? (i := 133) (by decide +kernel), rfl⟩
theorem mw_160 : Cond.methodLink "SelfCheckSteps" 59 y_isBl ∈ lw_ok := List.mem_filter.mpr ⟨List.mem_of_getElem? (i := 160) (by decide +kernel), rfl⟩
theorem mw_183 : Cond.methodLink "SelfCheckSteps" 91 y_isBBC ∈ lw_ok := List.mem_filter.mpr ⟨List.mem_of_getElem? (i := 183) (by decide +kernel), rfl⟩
theorem mw_136 : Cond.fieldLink "SelfCheckSteps" 40 "SelfCheckSteps" "session" "LSelfCheckSteps$Session;" ∈ lw_ok := List.mem_filter.mpr ⟨List.mem_of_getElem? (i := 136) (by decide +kernel), rfl⟩
theorem mw_111 : Cond.fieldLinkNest "SelfCheckSteps" 124 "SelfCheckSteps$Session" "lentCount" "I" "SelfCheckSteps" ∈ lw_ok := List.mem_filter.mpr ⟨List.mem_of_getElem? (i := 111) (by decide +kernel), rfl⟩
theorem mw_134 : Cond.fieldLink "SelfCheckSteps" 30 "SelfCheckSteps" "kept" "LSelfCheckSteps$RowList;" ∈ lw_ok := List.mem_filter.mpr ⟨List.mem_of_getElem? (i := 134) (by decide +kernel), rfl⟩
theorem mw_216 : Cond.methodLink "SelfCheckSteps" 131 y_isFull ∈ lw_ok := List.mem_filter.mpr ⟨List.mem_of_getElem? (i := 216) (by decide +kernel), rfl⟩
set_option maxRecDepth 20000 in
theorem mw_155 : Cond.code y_isPerson prog_1_method_22_code 1 (some .boolean) ∈ lw_ok := List.mem_filter.mpr ⟨List.mem_of_getElem? (i := 155) rfl, rfl⟩
theorem mw_13 : Cond.initialized "SelfCheckSteps" ∈ lw_ok := List.mem_filter.mpr ⟨List.mem_of_getElem? (i := 13) (by decide +kernel), rfl⟩
theorem mw_153 : Cond.methodLink "SelfCheckSteps" 48 y_isPerson ∈ lw_ok := List.mem_filter.mpr ⟨List.mem_of_getElem? (i := 153) (by decide +kernel), rfl⟩
theorem mw_154 : Cond.static y_isPerson ∈ lw_ok := List.mem_filter.mpr ⟨List.mem_of_getElem? (i := 154) (by decide +kernel), rfl⟩
theorem mw_44 : Cond.fieldLinkNest "SelfCheckSteps" 52 "SelfCheckSteps$House" "codes" "[I" "SelfCheckSteps" ∈ lw_ok := List.mem_filter.mpr ⟨List.mem_of_getElem? (i := 44) (by decide +kernel), rfl⟩
theorem mw_46 : Cond.fieldLinkNest "SelfCheckSteps" 56 "SelfCheckSteps$House" "languages" "[I" "SelfCheckSteps" ∈ lw_ok := List.mem_filter.mpr ⟨List.mem_of_getElem? (i := 46) (by decide +kernel), rfl⟩
theorem mw_48 : Cond.fieldLinkNest "SelfCheckSteps" 62 "SelfCheckSteps$House" "barred" "[Z" "SelfCheckSteps" ∈ lw_ok := List.mem_filter.mpr ⟨List.mem_of_getElem? (i := 48) (by decide +kernel), rfl⟩
theorem mw_50 : Cond.fieldLinkNest "SelfCheckSteps" 66 "SelfCheckSteps$House" "wrongCodes" "[I" "SelfCheckSteps" ∈ lw_ok := List.mem_filter.mpr ⟨List.mem_of_getElem? (i := 50) (by decide +kernel), rfl⟩
set_option maxRecDepth 20000 in
theorem mw_174 : Cond.code y_isItem prog_1_method_23_code 1 (some .boolean) ∈ lw_ok := List.mem_filter.mpr ⟨List.mem_of_getElem? (i := 174) rfl, rfl⟩
theorem mw_172 : Cond.methodLink "SelfCheckSteps" 69 y_isItem ∈ lw_ok := List.mem_filter.mpr ⟨List.mem_of_getElem? (i := 172) (by decide +kernel), rfl⟩
theorem mw_173 : Cond.static y_isItem ∈ lw_ok := List.mem_filter.mpr ⟨List.mem_of_getElem? (i := 173) (by decide +kernel), rfl⟩
theorem mw_54 : Cond.fieldLinkNest "SelfCheckSteps" 72 "SelfCheckSteps$House" "reservedFor" "[I" "SelfCheckSteps" ∈ lw_ok := List.mem_filter.mpr ⟨List.mem_of_getElem? (i := 54) (by decide +kernel), rfl⟩
theorem mw_113 : Cond.fieldLinkNest "SelfCheckSteps" 75 "SelfCheckSteps$Session" "state" "I" "SelfCheckSteps" ∈ lw_ok := List.mem_filter.mpr ⟨List.mem_of_getElem? (i := 113) (by decide +kernel), rfl⟩
set_option maxRecDepth 20000 in
theorem mw_182 : Cond.code y_isRef prog_1_method_24_code 2 (some .boolean) ∈ lw_ok := List.mem_filter.mpr ⟨List.mem_of_getElem? (i := 182) rfl, rfl⟩
theorem mw_179 : Cond.methodLink "SelfCheckSteps" 79 y_isRef ∈ lw_ok := List.mem_filter.mpr ⟨List.mem_of_getElem? (i := 179) (by decide +kernel), rfl⟩
theorem mw_181 : Cond.instanceMethod y_isRef ∈ lw_ok := List.mem_filter.mpr ⟨List.mem_of_getElem? (i := 181) (by decide +kernel), rfl⟩
theorem mw_0 : Cond.selects "SelfCheckSteps" y_isRef y_isRef ∈ lw_ok := List.mem_filter.mpr ⟨List.mem_of_getElem? (i := 0) (by decide +kernel), rfl⟩
theorem mw_115 : Cond.fieldLinkNest "SelfCheckSteps" 82 "SelfCheckSteps$Session" "person" "I" "SelfCheckSteps" ∈ lw_ok := List.mem_filter.mpr ⟨List.mem_of_getElem? (i := 115) (by decide +kernel), rfl⟩
set_option maxRecDepth 20000 in
theorem mw_195 : Cond.code y_sClose prog_4_method_3_code 1 none ∈ lw_ok := List.mem_filter.mpr ⟨List.mem_of_getElem? (i := 195) rfl, rfl⟩
theorem mw_18 : Cond.initialized "SelfCheckSteps$Session" ∈ lw_ok := List.mem_filter.mpr ⟨List.mem_of_getElem? (i := 18) (by decide +kernel), rfl⟩
theorem mw_192 : Cond.methodLink "SelfCheckSteps" 88 y_sClose ∈ lw_ok := List.mem_filter.mpr ⟨List.mem_of_getElem? (i := 192) (by decide +kernel), rfl⟩
theorem mw_193 : Cond.instanceMethod y_sClose ∈ lw_ok := List.mem_filter.mpr ⟨List.mem_of_getElem? (i := 193) (by decide +kernel), rfl⟩
theorem mw_194 : Cond.selects "SelfCheckSteps$Session" y_sClose y_sClose ∈ lw_ok := List.mem_filter.mpr ⟨List.mem_of_getElem? (i := 194) (by decide +kernel), rfl⟩
set_option maxRecDepth 20000 in
theorem mw_191 : Cond.code y_sBegin prog_4_method_2_code 1 none ∈ lw_ok := List.mem_filter.mpr ⟨List.mem_of_getElem? (i := 191) rfl, rfl⟩
theorem mw_188 : Cond.methodLink "SelfCheckSteps" 85 y_sBegin ∈ lw_ok := List.mem_filter.mpr ⟨List.mem_of_getElem? (i := 188) (by decide +kernel), rfl⟩
theorem mw_189 : Cond.instanceMethod y_sBegin ∈ lw_ok := List.mem_filter.mpr ⟨List.mem_of_getElem? (i := 189) (by decide +kernel), rfl⟩
theorem mw_190 : Cond.selects "SelfCheckSteps$Session" y_sBegin y_sBegin ∈ lw_ok := List.mem_filter.mpr ⟨List.mem_of_getElem? (i := 190) (by decide +kernel), rfl⟩
theorem mw_117 : Cond.fieldLinkNest "SelfCheckSteps" 94 "SelfCheckSteps$Session" "latest" "I" "SelfCheckSteps" ∈ lw_ok := List.mem_filter.mpr ⟨List.mem_of_getElem? (i := 117) (by decide +kernel), rfl⟩
theorem mw_119 : Cond.fieldLinkNest "SelfCheckSteps" 97 "SelfCheckSteps$Session" "latestIsDone" "Z" "SelfCheckSteps" ∈ lw_ok := List.mem_filter.mpr ⟨List.mem_of_getElem? (i := 119) (by decide +kernel), rfl⟩
set_option maxRecDepth 20000 in
theorem mw_211 : Cond.code y_hasI prog_4_method_4_code 1 (some .boolean) ∈ lw_ok := List.mem_filter.mpr ⟨List.mem_of_getElem? (i := 211) rfl, rfl⟩
theorem mw_208 : Cond.methodLink "SelfCheckSteps" 100 y_hasI ∈ lw_ok := List.mem_filter.mpr ⟨List.mem_of_getElem? (i := 208) (by decide +kernel), rfl⟩
theorem mw_209 : Cond.instanceMethod y_hasI ∈ lw_ok := List.mem_filter.mpr ⟨List.mem_of_getElem? (i := 209) (by decide +kernel), rfl⟩
theorem mw_210 : Cond.selects "SelfCheckSteps$Session" y_hasI y_hasI ∈ lw_ok := List.mem_filter.mpr ⟨List.mem_of_getElem? (i := 210) (by decide +kernel), rfl⟩
set_option maxRecDepth 20000 in
theorem mw_223 : Cond.code y_refu prog_2_method_5_code 3 (some .int) ∈ lw_ok := List.mem_filter.mpr ⟨List.mem_of_getElem? (i := 223) rfl, rfl⟩
theorem mw_220 : Cond.methodLink "SelfCheckSteps" 108 y_refu ∈ lw_ok := List.mem_filter.mpr ⟨List.mem_of_getElem? (i := 220) (by decide +kernel), rfl⟩
theorem mw_221 : Cond.instanceMethod y_refu ∈ lw_ok := List.mem_filter.mpr ⟨List.mem_of_getElem? (i := 221) (by decide +kernel), rfl⟩
theorem mw_222 : Cond.selects "SelfCheckSteps$House" y_refu y_refu ∈ lw_ok := List.mem_filter.mpr ⟨List.mem_of_getElem? (i := 222) (by decide +kernel), rfl⟩
set_option maxRecDepth 20000 in
theorem mw_237 : Cond.code y_giveO prog_2_method_6_code 4 none ∈ lw_ok := List.mem_filter.mpr ⟨List.mem_of_getElem? (i := 237) rfl, rfl⟩
theorem mw_234 : Cond.methodLink "SelfCheckSteps" 118 y_giveO ∈ lw_ok := List.mem_filter.mpr ⟨List.mem_of_getElem? (i := 234) (by decide +kernel), rfl⟩
theorem mw_235 : Cond.instanceMethod y_giveO ∈ lw_ok := List.mem_filter.mpr ⟨List.mem_of_getElem? (i := 235) (by decide +kernel), rfl⟩
theorem mw_236 : Cond.selects "SelfCheckSteps$House" y_giveO y_giveO ∈ lw_ok := List.mem_filter.mpr ⟨List.mem_of_getElem? (i := 236) (by decide +kernel), rfl⟩
set_option maxRecDepth 20000 in
theorem mw_241 : Cond.code y_addL prog_4_method_5_code 1 none ∈ lw_ok := List.mem_filter.mpr ⟨List.mem_of_getElem? (i := 241) rfl, rfl⟩
theorem mw_238 : Cond.methodLink "SelfCheckSteps" 121 y_addL ∈ lw_ok := List.mem_filter.mpr ⟨List.mem_of_getElem? (i := 238) (by decide +kernel), rfl⟩
theorem mw_239 : Cond.instanceMethod y_addL ∈ lw_ok := List.mem_filter.mpr ⟨List.mem_of_getElem? (i := 239) (by decide +kernel), rfl⟩
theorem mw_240 : Cond.selects "SelfCheckSteps$Session" y_addL y_addL ∈ lw_ok := List.mem_filter.mpr ⟨List.mem_of_getElem? (i := 240) (by decide +kernel), rfl⟩
set_option maxRecDepth 20000 in
theorem mw_215 : Cond.code y_refO prog_1_method_25_code 1 (some .int) ∈ lw_ok := List.mem_filter.mpr ⟨List.mem_of_getElem? (i := 215) rfl, rfl⟩
theorem mw_212 : Cond.methodLink "SelfCheckSteps" 104 y_refO ∈ lw_ok := List.mem_filter.mpr ⟨List.mem_of_getElem? (i := 212) (by decide +kernel), rfl⟩
theorem mw_214 : Cond.instanceMethod y_refO ∈ lw_ok := List.mem_filter.mpr ⟨List.mem_of_getElem? (i := 214) (by decide +kernel), rfl⟩
theorem mw_1 : Cond.selects "SelfCheckSteps" y_refO y_refO ∈ lw_ok := List.mem_filter.mpr ⟨List.mem_of_getElem? (i := 1) (by decide +kernel), rfl⟩
set_option maxRecDepth 20000 in
theorem mw_232 : Cond.code y_rAdd prog_3_method_4_code 3 none ∈ lw_ok := List.mem_filter.mpr ⟨List.mem_of_getElem? (i := 232) rfl, rfl⟩
theorem mw_229 : Cond.methodLink "SelfCheckSteps" 111 y_rAdd ∈ lw_ok := List.mem_filter.mpr ⟨List.mem_of_getElem? (i := 229) (by decide +kernel), rfl⟩
theorem mw_230 : Cond.instanceMethod y_rAdd ∈ lw_ok := List.mem_filter.mpr ⟨List.mem_of_getElem? (i := 230) (by decide +kernel), rfl⟩
theorem mw_231 : Cond.selects "SelfCheckSteps$RowList" y_rAdd y_rAdd ∈ lw_ok := List.mem_filter.mpr ⟨List.mem_of_getElem? (i := 231) (by decide +kernel), rfl⟩
theorem mw_56 : Cond.fieldLinkNest "SelfCheckSteps" 115 "SelfCheckSteps$House" "marked" "[Z" "SelfCheckSteps" ∈ lw_ok := List.mem_filter.mpr ⟨List.mem_of_getElem? (i := 56) (by decide +kernel), rfl⟩
set_option maxRecDepth 20000 in
theorem mw_249 : Cond.code y_takeB prog_2_method_7_code 2 (some .int) ∈ lw_ok := List.mem_filter.mpr ⟨List.mem_of_getElem? (i := 249) rfl, rfl⟩
theorem mw_246 : Cond.methodLink "SelfCheckSteps" 127 y_takeB ∈ lw_ok := List.mem_filter.mpr ⟨List.mem_of_getElem? (i := 246) (by decide +kernel), rfl⟩
theorem mw_247 : Cond.instanceMethod y_takeB ∈ lw_ok := List.mem_filter.mpr ⟨List.mem_of_getElem? (i := 247) (by decide +kernel), rfl⟩
theorem mw_248 : Cond.selects "SelfCheckSteps$House" y_takeB y_takeB ∈ lw_ok := List.mem_filter.mpr ⟨List.mem_of_getElem? (i := 248) (by decide +kernel), rfl⟩
set_option maxRecDepth 20000 in
theorem mw_261 : Cond.code y_remLL prog_4_method_6_code 1 (some .int) ∈ lw_ok := List.mem_filter.mpr ⟨List.mem_of_getElem? (i := 261) rfl, rfl⟩
theorem mw_258 : Cond.methodLink "SelfCheckSteps" 173 y_remLL ∈ lw_ok := List.mem_filter.mpr ⟨List.mem_of_getElem? (i := 258) (by decide +kernel), rfl⟩
theorem mw_259 : Cond.instanceMethod y_remLL ∈ lw_ok := List.mem_filter.mpr ⟨List.mem_of_getElem? (i := 259) (by decide +kernel), rfl⟩
theorem mw_260 : Cond.selects "SelfCheckSteps$Session" y_remLL y_remLL ∈ lw_ok := List.mem_filter.mpr ⟨List.mem_of_getElem? (i := 260) (by decide +kernel), rfl⟩
set_option maxRecDepth 20000 in
theorem mw_265 : Cond.code y_rLL prog_3_method_5_code 2 none ∈ lw_ok := List.mem_filter.mpr ⟨List.mem_of_getElem? (i := 265) rfl, rfl⟩
theorem mw_262 : Cond.methodLink "SelfCheckSteps" 176 y_rLL ∈ lw_ok := List.mem_filter.mpr ⟨List.mem_of_getElem? (i := 262) (by decide +kernel), rfl⟩
theorem mw_263 : Cond.instanceMethod y_rLL ∈ lw_ok := List.mem_filter.mpr ⟨List.mem_of_getElem? (i := 263) (by decide +kernel), rfl⟩
theorem mw_264 : Cond.selects "SelfCheckSteps$RowList" y_rLL y_rLL ∈ lw_ok := List.mem_filter.mpr ⟨List.mem_of_getElem? (i := 264) (by decide +kernel), rfl⟩
set_option maxRecDepth 20000 in
theorem mw_257 : Cond.code y_undo prog_1_method_26_code 2 none ∈ lw_ok := List.mem_filter.mpr ⟨List.mem_of_getElem? (i := 257) rfl, rfl⟩
theorem mw_254 : Cond.methodLink "SelfCheckSteps" 134 y_undo ∈ lw_ok := List.mem_filter.mpr ⟨List.mem_of_getElem? (i := 254) (by decide +kernel), rfl⟩
theorem mw_256 : Cond.instanceMethod y_undo ∈ lw_ok := List.mem_filter.mpr ⟨List.mem_of_getElem? (i := 256) (by decide +kernel), rfl⟩
theorem mw_2 : Cond.selects "SelfCheckSteps" y_undo y_undo ∈ lw_ok := List.mem_filter.mpr ⟨List.mem_of_getElem? (i := 2) (by decide +kernel), rfl⟩
theorem mw_135 : Cond.fieldLink "SelfCheckSteps" 34 "SelfCheckSteps" "clashes" "LSelfCheckSteps$RowList;" ∈ lw_ok := List.mem_filter.mpr ⟨List.mem_of_getElem? (i := 135) (by decide +kernel), rfl⟩
theorem mw_94 : Cond.fieldLinkNest "SelfCheckSteps" 137 "SelfCheckSteps$RowList" "count" "I" "SelfCheckSteps" ∈ lw_ok := List.mem_filter.mpr ⟨List.mem_of_getElem? (i := 94) (by decide +kernel), rfl⟩
theorem mw_90 : Cond.fieldLinkNest "SelfCheckSteps" 143 "SelfCheckSteps$RowList" "items" "[I" "SelfCheckSteps" ∈ lw_ok := List.mem_filter.mpr ⟨List.mem_of_getElem? (i := 90) (by decide +kernel), rfl⟩
theorem mw_92 : Cond.fieldLinkNest "SelfCheckSteps" 146 "SelfCheckSteps$RowList" "persons" "[I" "SelfCheckSteps" ∈ lw_ok := List.mem_filter.mpr ⟨List.mem_of_getElem? (i := 92) (by decide +kernel), rfl⟩
theorem mw_294 : Cond.methodLink "SelfCheckSteps" 152 y_isLend ∈ lw_ok := List.mem_filter.mpr ⟨List.mem_of_getElem? (i := 294) (by decide +kernel), rfl⟩
set_option maxRecDepth 20000 in
theorem mw_302 : Cond.code y_mayG prog_2_method_8_code 2 (some .boolean) ∈ lw_ok := List.mem_filter.mpr ⟨List.mem_of_getElem? (i := 302) rfl, rfl⟩
theorem mw_299 : Cond.methodLink "SelfCheckSteps" 155 y_mayG ∈ lw_ok := List.mem_filter.mpr ⟨List.mem_of_getElem? (i := 299) (by decide +kernel), rfl⟩
theorem mw_300 : Cond.instanceMethod y_mayG ∈ lw_ok := List.mem_filter.mpr ⟨List.mem_of_getElem? (i := 300) (by decide +kernel), rfl⟩
theorem mw_301 : Cond.selects "SelfCheckSteps$House" y_mayG y_mayG ∈ lw_ok := List.mem_filter.mpr ⟨List.mem_of_getElem? (i := 301) (by decide +kernel), rfl⟩
set_option maxRecDepth 20000 in
theorem mw_306 : Cond.code y_fel prog_2_method_9_code 2 (some .int) ∈ lw_ok := List.mem_filter.mpr ⟨List.mem_of_getElem? (i := 306) rfl, rfl⟩
theorem mw_303 : Cond.methodLink "SelfCheckSteps" 158 y_fel ∈ lw_ok := List.mem_filter.mpr ⟨List.mem_of_getElem? (i := 303) (by decide +kernel), rfl⟩
theorem mw_304 : Cond.instanceMethod y_fel ∈ lw_ok := List.mem_filter.mpr ⟨List.mem_of_getElem? (i := 304) (by decide +kernel), rfl⟩
theorem mw_305 : Cond.selects "SelfCheckSteps$House" y_fel y_fel ∈ lw_ok := List.mem_filter.mpr ⟨List.mem_of_getElem? (i := 305) (by decide +kernel), rfl⟩
theorem mw_60 : Cond.fieldLinkNest "SelfCheckSteps" 161 "SelfCheckSteps$House" "lockers" "[I" "SelfCheckSteps" ∈ lw_ok := List.mem_filter.mpr ⟨List.mem_of_getElem? (i := 60) (by decide +kernel), rfl⟩
theorem mw_58 : Cond.fieldLinkNest "SelfCheckSteps" 164 "SelfCheckSteps$House" "lockerOf" "[I" "SelfCheckSteps" ∈ lw_ok := List.mem_filter.mpr ⟨List.mem_of_getElem? (i := 58) (by decide +kernel), rfl⟩
theorem mw_109 : Cond.fieldLinkNest "SelfCheckSteps" 167 "SelfCheckSteps$Session" "lent" "[I" "SelfCheckSteps" ∈ lw_ok := List.mem_filter.mpr ⟨List.mem_of_getElem? (i := 109) (by decide +kernel), rfl⟩
theorem mw_52 : Cond.fieldLinkNest "SelfCheckSteps" 170 "SelfCheckSteps$House" "holders" "[I" "SelfCheckSteps" ∈ lw_ok := List.mem_filter.mpr ⟨List.mem_of_getElem? (i := 52) (by decide +kernel), rfl⟩
set_option maxRecDepth 20000 in
theorem mw_289 : Cond.code y_joinR prog_1_method_27_code 4 none ∈ lw_ok := List.mem_filter.mpr ⟨List.mem_of_getElem? (i := 289) rfl, rfl⟩
theorem mw_286 : Cond.methodLink "SelfCheckSteps" 149 y_joinR ∈ lw_ok := List.mem_filter.mpr ⟨List.mem_of_getElem? (i := 286) (by decide +kernel), rfl⟩
theorem mw_288 : Cond.instanceMethod y_joinR ∈ lw_ok := List.mem_filter.mpr ⟨List.mem_of_getElem? (i := 288) (by decide +kernel), rfl⟩
theorem mw_4 : Cond.selects "SelfCheckSteps" y_joinR y_joinR ∈ lw_ok := List.mem_filter.mpr ⟨List.mem_of_getElem? (i := 4) (by decide +kernel), rfl⟩
set_option maxRecDepth 20000 in
theorem mw_285 : Cond.code y_remF prog_3_method_6_code 2 none ∈ lw_ok := List.mem_filter.mpr ⟨List.mem_of_getElem? (i := 285) rfl, rfl⟩
theorem mw_282 : Cond.methodLink "SelfCheckSteps" 140 y_remF ∈ lw_ok := List.mem_filter.mpr ⟨List.mem_of_getElem? (i := 282) (by decide +kernel), rfl⟩
theorem mw_283 : Cond.instanceMethod y_remF ∈ lw_ok := List.mem_filter.mpr ⟨List.mem_of_getElem? (i := 283) (by decide +kernel), rfl⟩
theorem mw_284 : Cond.selects "SelfCheckSteps$RowList" y_remF y_remF ∈ lw_ok := List.mem_filter.mpr ⟨List.mem_of_getElem? (i := 284) (by decide +kernel), rfl⟩
theorem mw_39 : Cond.methodLink "SelfCheckSteps$House" 3 ⟨"java/lang/Object", "<init>", "()V"⟩ ∈ lw_ok := List.mem_filter.mpr ⟨List.mem_of_getElem? (i := 39) (by decide +kernel), rfl⟩
theorem mw_26 : Cond.instanceMethod ⟨"java/lang/Object", "<init>", "()V"⟩ ∈ lw_ok := List.mem_filter.mpr ⟨List.mem_of_getElem? (i := 26) (by decide +kernel), rfl⟩
set_option maxRecDepth 20000 in
theorem mw_27 : Cond.code (⟨"java/lang/Object", "<init>", "()V"⟩ : MethodName) object_method_1_code 1 none ∈ lw_ok := List.mem_filter.mpr ⟨List.mem_of_getElem? (i := 27) rfl, rfl⟩
theorem mw_80 : Cond.arrayClass .int ∈ lw_ok := List.mem_filter.mpr ⟨List.mem_of_getElem? (i := 80) (by decide +kernel), rfl⟩
theorem mw_43 : Cond.fieldLink "SelfCheckSteps$House" 9 "SelfCheckSteps$House" "codes" "[I" ∈ lw_ok := List.mem_filter.mpr ⟨List.mem_of_getElem? (i := 43) (by decide +kernel), rfl⟩
theorem mw_45 : Cond.fieldLink "SelfCheckSteps$House" 15 "SelfCheckSteps$House" "languages" "[I" ∈ lw_ok := List.mem_filter.mpr ⟨List.mem_of_getElem? (i := 45) (by decide +kernel), rfl⟩
theorem mw_81 : Cond.arrayClass .boolean ∈ lw_ok := List.mem_filter.mpr ⟨List.mem_of_getElem? (i := 81) (by decide +kernel), rfl⟩
set_option maxRecDepth 20000 in
theorem mw_42 : Cond.code y_fill prog_8_method_103_code 4 none ∈ lw_ok := List.mem_filter.mpr ⟨List.mem_of_getElem? (i := 42) rfl, rfl⟩
theorem mw_16 : Cond.initialized "java/util/Arrays" ∈ lw_ok := List.mem_filter.mpr ⟨List.mem_of_getElem? (i := 16) (by decide +kernel), rfl⟩
theorem mw_40 : Cond.methodLink "SelfCheckSteps$House" 40 y_fill ∈ lw_ok := List.mem_filter.mpr ⟨List.mem_of_getElem? (i := 40) (by decide +kernel), rfl⟩
theorem mw_41 : Cond.static y_fill ∈ lw_ok := List.mem_filter.mpr ⟨List.mem_of_getElem? (i := 41) (by decide +kernel), rfl⟩
theorem mw_87 : Cond.methodLink "SelfCheckSteps$RowList" 3 ⟨"java/lang/Object", "<init>", "()V"⟩ ∈ lw_ok := List.mem_filter.mpr ⟨List.mem_of_getElem? (i := 87) (by decide +kernel), rfl⟩
theorem mw_88 : Cond.methodLink "SelfCheckSteps$RowList" 9 ⟨"java/lang/Math", "max", "(II)I"⟩ ∈ lw_ok := List.mem_filter.mpr ⟨List.mem_of_getElem? (i := 88) (by decide +kernel), rfl⟩
theorem mw_32 : Cond.static ⟨"java/lang/Math", "max", "(II)I"⟩ ∈ lw_ok := List.mem_filter.mpr ⟨List.mem_of_getElem? (i := 32) (by decide +kernel), rfl⟩
theorem mw_14 : Cond.initialized "java/lang/Math" ∈ lw_ok := List.mem_filter.mpr ⟨List.mem_of_getElem? (i := 14) (by decide +kernel), rfl⟩
set_option maxRecDepth 20000 in
theorem mw_33 : Cond.code (⟨"java/lang/Math", "max", "(II)I"⟩ : MethodName) prog_7_method_65_code 2 (some .int) ∈ lw_ok := List.mem_filter.mpr ⟨List.mem_of_getElem? (i := 33) rfl, rfl⟩
theorem mw_107 : Cond.methodLink "SelfCheckSteps$Session" 3 ⟨"java/lang/Object", "<init>", "()V"⟩ ∈ lw_ok := List.mem_filter.mpr ⟨List.mem_of_getElem? (i := 107) (by decide +kernel), rfl⟩
theorem mw_114 : Cond.fieldLink "SelfCheckSteps$Session" 22 "SelfCheckSteps$Session" "person" "I" ∈ lw_ok := List.mem_filter.mpr ⟨List.mem_of_getElem? (i := 114) (by decide +kernel), rfl⟩
theorem mw_25 : Cond.methodLink "SelfCheckSteps" 1 ⟨"java/lang/Object", "<init>", "()V"⟩ ∈ lw_ok := List.mem_filter.mpr ⟨List.mem_of_getElem? (i := 25) (by decide +kernel), rfl⟩
theorem mw_28 : Cond.methodLink "SelfCheckSteps" 9 ⟨"java/lang/Math", "min", "(II)I"⟩ ∈ lw_ok := List.mem_filter.mpr ⟨List.mem_of_getElem? (i := 28) (by decide +kernel), rfl⟩
theorem mw_29 : Cond.static ⟨"java/lang/Math", "min", "(II)I"⟩ ∈ lw_ok := List.mem_filter.mpr ⟨List.mem_of_getElem? (i := 29) (by decide +kernel), rfl⟩
set_option maxRecDepth 20000 in
theorem mw_30 : Cond.code (⟨"java/lang/Math", "min", "(II)I"⟩ : MethodName) prog_7_method_69_code 2 (some .int) ∈ lw_ok := List.mem_filter.mpr ⟨List.mem_of_getElem? (i := 30) rfl, rfl⟩
theorem mw_31 : Cond.methodLink "SelfCheckSteps" 15 ⟨"java/lang/Math", "max", "(II)I"⟩ ∈ lw_ok := List.mem_filter.mpr ⟨List.mem_of_getElem? (i := 31) (by decide +kernel), rfl⟩
theorem mw_34 : Cond.classLink "SelfCheckSteps" 18 "SelfCheckSteps$House" ∈ lw_ok := List.mem_filter.mpr ⟨List.mem_of_getElem? (i := 34) (by decide +kernel), rfl⟩
theorem mw_35 : Cond.instantiable "SelfCheckSteps$House" 9 ∈ lw_ok := List.mem_filter.mpr ⟨List.mem_of_getElem? (i := 35) (by decide +kernel), rfl⟩
set_option maxRecDepth 20000 in
theorem mw_38 : Cond.code y_HouseI prog_2_method_1_code 2 none ∈ lw_ok := List.mem_filter.mpr ⟨List.mem_of_getElem? (i := 38) rfl, rfl⟩
theorem mw_36 : Cond.methodLink "SelfCheckSteps" 20 y_HouseI ∈ lw_ok := List.mem_filter.mpr ⟨List.mem_of_getElem? (i := 36) (by decide +kernel), rfl⟩
theorem mw_37 : Cond.instanceMethod y_HouseI ∈ lw_ok := List.mem_filter.mpr ⟨List.mem_of_getElem? (i := 37) (by decide +kernel), rfl⟩
theorem mw_82 : Cond.classLink "SelfCheckSteps" 25 "SelfCheckSteps$RowList" ∈ lw_ok := List.mem_filter.mpr ⟨List.mem_of_getElem? (i := 82) (by decide +kernel), rfl⟩
theorem mw_83 : Cond.instantiable "SelfCheckSteps$RowList" 3 ∈ lw_ok := List.mem_filter.mpr ⟨List.mem_of_getElem? (i := 83) (by decide +kernel), rfl⟩
set_option maxRecDepth 20000 in
theorem mw_86 : Cond.code y_RowI prog_3_method_1_code 3 none ∈ lw_ok := List.mem_filter.mpr ⟨List.mem_of_getElem? (i := 86) rfl, rfl⟩
theorem mw_84 : Cond.methodLink "SelfCheckSteps" 27 y_RowI ∈ lw_ok := List.mem_filter.mpr ⟨List.mem_of_getElem? (i := 84) (by decide +kernel), rfl⟩
theorem mw_85 : Cond.instanceMethod y_RowI ∈ lw_ok := List.mem_filter.mpr ⟨List.mem_of_getElem? (i := 85) (by decide +kernel), rfl⟩
theorem mw_102 : Cond.classLink "SelfCheckSteps" 37 "SelfCheckSteps$Session" ∈ lw_ok := List.mem_filter.mpr ⟨List.mem_of_getElem? (i := 102) (by decide +kernel), rfl⟩
theorem mw_103 : Cond.instantiable "SelfCheckSteps$Session" 6 ∈ lw_ok := List.mem_filter.mpr ⟨List.mem_of_getElem? (i := 103) (by decide +kernel), rfl⟩
set_option maxRecDepth 20000 in
theorem mw_106 : Cond.code y_SesI prog_4_method_1_code 1 none ∈ lw_ok := List.mem_filter.mpr ⟨List.mem_of_getElem? (i := 106) rfl, rfl⟩
theorem mw_104 : Cond.methodLinkNest "SelfCheckSteps" 39 y_SesI "SelfCheckSteps" ∈ lw_ok := List.mem_filter.mpr ⟨List.mem_of_getElem? (i := 104) (by decide +kernel), rfl⟩
theorem mw_105 : Cond.instanceMethod y_SesI ∈ lw_ok := List.mem_filter.mpr ⟨List.mem_of_getElem? (i := 105) (by decide +kernel), rfl⟩
theorem mw_344 : Cond.fieldLink "SelfCheckStepsModel" 16 "SelfCheckStepsModel" "blocked" "[Z" ∈ lw_ok := List.mem_filter.mpr ⟨List.mem_of_getElem? (i := 344) (by decide +kernel), rfl⟩
theorem mw_345 : Cond.fieldLink "SelfCheckStepsModel" 20 "SelfCheckStepsModel" "byCodes" "[Z" ∈ lw_ok := List.mem_filter.mpr ⟨List.mem_of_getElem? (i := 345) (by decide +kernel), rfl⟩
theorem mw_347 : Cond.fieldLink "SelfCheckStepsModel" 26 "SelfCheckStepsModel" "holder" "[I" ∈ lw_ok := List.mem_filter.mpr ⟨List.mem_of_getElem? (i := 347) (by decide +kernel), rfl⟩
theorem mw_350 : Cond.fieldLink "SelfCheckStepsModel" 35 "SelfCheckStepsModel" "lockerOf" "[I" ∈ lw_ok := List.mem_filter.mpr ⟨List.mem_of_getElem? (i := 350) (by decide +kernel), rfl⟩
theorem mw_351 : Cond.fieldLink "SelfCheckStepsModel" 38 "SelfCheckStepsModel" "lockers" "[I" ∈ lw_ok := List.mem_filter.mpr ⟨List.mem_of_getElem? (i := 351) (by decide +kernel), rfl⟩
theorem mw_348 : Cond.fieldLink "SelfCheckStepsModel" 29 "SelfCheckStepsModel" "reserved" "[I" ∈ lw_ok := List.mem_filter.mpr ⟨List.mem_of_getElem? (i := 348) (by decide +kernel), rfl⟩
set_option maxRecDepth 20000 in
theorem mw_427 : Cond.code y_mIsB prog_6_method_6_code 2 (some .boolean) ∈ lw_ok := List.mem_filter.mpr ⟨List.mem_of_getElem? (i := 427) rfl, rfl⟩
theorem mw_19 : Cond.initialized "SelfCheckStepsModel" ∈ lw_ok := List.mem_filter.mpr ⟨List.mem_of_getElem? (i := 19) (by decide +kernel), rfl⟩
theorem mw_424 : Cond.methodLink "SelfCheckStepsModel" 67 y_mIsB ∈ lw_ok := List.mem_filter.mpr ⟨List.mem_of_getElem? (i := 424) (by decide +kernel), rfl⟩
theorem mw_426 : Cond.instanceMethod y_mIsB ∈ lw_ok := List.mem_filter.mpr ⟨List.mem_of_getElem? (i := 426) (by decide +kernel), rfl⟩
theorem mw_5 : Cond.selects "SelfCheckStepsModel" y_mIsB y_mIsB ∈ lw_ok := List.mem_filter.mpr ⟨List.mem_of_getElem? (i := 5) (by decide +kernel), rfl⟩
set_option maxRecDepth 20000 in
theorem mw_462 : Cond.code y_mHas prog_6_method_13_code 4 (some .int) ∈ lw_ok := List.mem_filter.mpr ⟨List.mem_of_getElem? (i := 462) rfl, rfl⟩
theorem mw_459 : Cond.methodLink "SelfCheckStepsModel" 89 y_mHas ∈ lw_ok := List.mem_filter.mpr ⟨List.mem_of_getElem? (i := 459) (by decide +kernel), rfl⟩
theorem mw_461 : Cond.instanceMethod y_mHas ∈ lw_ok := List.mem_filter.mpr ⟨List.mem_of_getElem? (i := 461) (by decide +kernel), rfl⟩
theorem mw_7 : Cond.selects "SelfCheckStepsModel" y_mHas y_mHas ∈ lw_ok := List.mem_filter.mpr ⟨List.mem_of_getElem? (i := 7) (by decide +kernel), rfl⟩
theorem mw_349 : Cond.fieldLink "SelfCheckStepsModel" 32 "SelfCheckStepsModel" "off" "[Z" ∈ lw_ok := List.mem_filter.mpr ⟨List.mem_of_getElem? (i := 349) (by decide +kernel), rfl⟩
set_option maxRecDepth 20000 in
theorem mw_470 : Cond.code y_mLeave prog_6_method_14_code 2 none ∈ lw_ok := List.mem_filter.mpr ⟨List.mem_of_getElem? (i := 470) rfl, rfl⟩
theorem mw_467 : Cond.methodLink "SelfCheckStepsModel" 93 y_mLeave ∈ lw_ok := List.mem_filter.mpr ⟨List.mem_of_getElem? (i := 467) (by decide +kernel), rfl⟩
theorem mw_469 : Cond.instanceMethod y_mLeave ∈ lw_ok := List.mem_filter.mpr ⟨List.mem_of_getElem? (i := 469) (by decide +kernel), rfl⟩
theorem mw_9 : Cond.selects "SelfCheckStepsModel" y_mLeave y_mLeave ∈ lw_ok := List.mem_filter.mpr ⟨List.mem_of_getElem? (i := 9) (by decide +kernel), rfl⟩
theorem mw_340 : Cond.fieldLink "SelfCheckStepsModel" 60 "SelfCheckStepsModel" "thrown" "I" ∈ lw_ok := List.mem_filter.mpr ⟨List.mem_of_getElem? (i := 340) (by decide +kernel), rfl⟩
set_option maxRecDepth 20000 in
theorem mw_419 : Cond.code y_mIsP prog_6_method_3_code 1 (some .boolean) ∈ lw_ok := List.mem_filter.mpr ⟨List.mem_of_getElem? (i := 419) rfl, rfl⟩
theorem mw_417 : Cond.methodLink "SelfCheckStepsModel" 63 y_mIsP ∈ lw_ok := List.mem_filter.mpr ⟨List.mem_of_getElem? (i := 417) (by decide +kernel), rfl⟩
theorem mw_418 : Cond.static y_mIsP ∈ lw_ok := List.mem_filter.mpr ⟨List.mem_of_getElem? (i := 418) (by decide +kernel), rfl⟩
theorem mw_342 : Cond.fieldLink "SelfCheckStepsModel" 7 "SelfCheckStepsModel" "codes" "[I" ∈ lw_ok := List.mem_filter.mpr ⟨List.mem_of_getElem? (i := 342) (by decide +kernel), rfl⟩
theorem mw_343 : Cond.fieldLink "SelfCheckStepsModel" 13 "SelfCheckStepsModel" "languages" "[I" ∈ lw_ok := List.mem_filter.mpr ⟨List.mem_of_getElem? (i := 343) (by decide +kernel), rfl⟩
theorem mw_346 : Cond.fieldLink "SelfCheckStepsModel" 23 "SelfCheckStepsModel" "wrong" "[I" ∈ lw_ok := List.mem_filter.mpr ⟨List.mem_of_getElem? (i := 346) (by decide +kernel), rfl⟩
set_option maxRecDepth 20000 in
theorem mw_434 : Cond.code y_mIsI prog_6_method_4_code 1 (some .boolean) ∈ lw_ok := List.mem_filter.mpr ⟨List.mem_of_getElem? (i := 434) rfl, rfl⟩
theorem mw_432 : Cond.methodLink "SelfCheckStepsModel" 70 y_mIsI ∈ lw_ok := List.mem_filter.mpr ⟨List.mem_of_getElem? (i := 432) (by decide +kernel), rfl⟩
theorem mw_433 : Cond.static y_mIsI ∈ lw_ok := List.mem_filter.mpr ⟨List.mem_of_getElem? (i := 433) (by decide +kernel), rfl⟩
theorem mw_352 : Cond.fieldLink "SelfCheckStepsModel" 73 "SelfCheckStepsModel" "state" "I" ∈ lw_ok := List.mem_filter.mpr ⟨List.mem_of_getElem? (i := 352) (by decide +kernel), rfl⟩
theorem mw_354 : Cond.fieldLink "SelfCheckStepsModel" 76 "SelfCheckStepsModel" "offline" "Z" ∈ lw_ok := List.mem_filter.mpr ⟨List.mem_of_getElem? (i := 354) (by decide +kernel), rfl⟩
theorem mw_353 : Cond.fieldLink "SelfCheckStepsModel" 80 "SelfCheckStepsModel" "person" "I" ∈ lw_ok := List.mem_filter.mpr ⟨List.mem_of_getElem? (i := 353) (by decide +kernel), rfl⟩
theorem mw_356 : Cond.fieldLink "SelfCheckStepsModel" 83 "SelfCheckStepsModel" "lent" "I" ∈ lw_ok := List.mem_filter.mpr ⟨List.mem_of_getElem? (i := 356) (by decide +kernel), rfl⟩
theorem mw_357 : Cond.fieldLink "SelfCheckStepsModel" 57 "SelfCheckStepsModel" "scanned" "I" ∈ lw_ok := List.mem_filter.mpr ⟨List.mem_of_getElem? (i := 357) (by decide +kernel), rfl⟩
theorem mw_358 : Cond.fieldLink "SelfCheckStepsModel" 86 "SelfCheckStepsModel" "done" "Z" ∈ lw_ok := List.mem_filter.mpr ⟨List.mem_of_getElem? (i := 358) (by decide +kernel), rfl⟩
set_option maxRecDepth 20000 in
theorem mw_458 : Cond.code y_mAg prog_6_method_15_code 3 (some .int) ∈ lw_ok := List.mem_filter.mpr ⟨List.mem_of_getElem? (i := 458) rfl, rfl⟩
theorem mw_455 : Cond.methodLink "SelfCheckStepsModel" 100 y_mAg ∈ lw_ok := List.mem_filter.mpr ⟨List.mem_of_getElem? (i := 455) (by decide +kernel), rfl⟩
theorem mw_457 : Cond.instanceMethod y_mAg ∈ lw_ok := List.mem_filter.mpr ⟨List.mem_of_getElem? (i := 457) (by decide +kernel), rfl⟩
theorem mw_6 : Cond.selects "SelfCheckStepsModel" y_mAg y_mAg ∈ lw_ok := List.mem_filter.mpr ⟨List.mem_of_getElem? (i := 6) (by decide +kernel), rfl⟩
set_option maxRecDepth 20000 in
theorem mw_466 : Cond.code y_mGo prog_6_method_16_code 3 none ∈ lw_ok := List.mem_filter.mpr ⟨List.mem_of_getElem? (i := 466) rfl, rfl⟩
theorem mw_463 : Cond.methodLink "SelfCheckStepsModel" 104 y_mGo ∈ lw_ok := List.mem_filter.mpr ⟨List.mem_of_getElem? (i := 463) (by decide +kernel), rfl⟩
theorem mw_465 : Cond.instanceMethod y_mGo ∈ lw_ok := List.mem_filter.mpr ⟨List.mem_of_getElem? (i := 465) (by decide +kernel), rfl⟩
theorem mw_8 : Cond.selects "SelfCheckStepsModel" y_mGo y_mGo ∈ lw_ok := List.mem_filter.mpr ⟨List.mem_of_getElem? (i := 8) (by decide +kernel), rfl⟩
theorem mw_355 : Cond.fieldLink "SelfCheckStepsModel" 41 "SelfCheckStepsModel" "receipt" "[I" ∈ lw_ok := List.mem_filter.mpr ⟨List.mem_of_getElem? (i := 355) (by decide +kernel), rfl⟩
theorem mw_361 : Cond.fieldLink "SelfCheckStepsModel" 97 "SelfCheckStepsModel" "rows" "I" ∈ lw_ok := List.mem_filter.mpr ⟨List.mem_of_getElem? (i := 361) (by decide +kernel), rfl⟩
theorem mw_341 : Cond.fieldLink "SelfCheckStepsModel" 53 "SelfCheckStepsModel" "most" "I" ∈ lw_ok := List.mem_filter.mpr ⟨List.mem_of_getElem? (i := 341) (by decide +kernel), rfl⟩
theorem mw_359 : Cond.fieldLink "SelfCheckStepsModel" 44 "SelfCheckStepsModel" "rowItem" "[I" ∈ lw_ok := List.mem_filter.mpr ⟨List.mem_of_getElem? (i := 359) (by decide +kernel), rfl⟩
theorem mw_360 : Cond.fieldLink "SelfCheckStepsModel" 47 "SelfCheckStepsModel" "rowPerson" "[I" ∈ lw_ok := List.mem_filter.mpr ⟨List.mem_of_getElem? (i := 360) (by decide +kernel), rfl⟩
set_option maxRecDepth 20000 in
theorem mw_478 : Cond.code y_mCome prog_6_method_18_code 3 (some .int) ∈ lw_ok := List.mem_filter.mpr ⟨List.mem_of_getElem? (i := 478) rfl, rfl⟩
theorem mw_475 : Cond.methodLink "SelfCheckStepsModel" 108 y_mCome ∈ lw_ok := List.mem_filter.mpr ⟨List.mem_of_getElem? (i := 475) (by decide +kernel), rfl⟩
theorem mw_477 : Cond.instanceMethod y_mCome ∈ lw_ok := List.mem_filter.mpr ⟨List.mem_of_getElem? (i := 477) (by decide +kernel), rfl⟩
theorem mw_10 : Cond.selects "SelfCheckStepsModel" y_mCome y_mCome ∈ lw_ok := List.mem_filter.mpr ⟨List.mem_of_getElem? (i := 10) (by decide +kernel), rfl⟩
set_option maxRecDepth 20000 in
theorem mw_486 : Cond.code y_mDrop prog_6_method_20_code 3 none ∈ lw_ok := List.mem_filter.mpr ⟨List.mem_of_getElem? (i := 486) rfl, rfl⟩
theorem mw_483 : Cond.methodLink "SelfCheckStepsModel" 111 y_mDrop ∈ lw_ok := List.mem_filter.mpr ⟨List.mem_of_getElem? (i := 483) (by decide +kernel), rfl⟩
theorem mw_485 : Cond.instanceMethod y_mDrop ∈ lw_ok := List.mem_filter.mpr ⟨List.mem_of_getElem? (i := 485) (by decide +kernel), rfl⟩
theorem mw_11 : Cond.selects "SelfCheckStepsModel" y_mDrop y_mDrop ∈ lw_ok := List.mem_filter.mpr ⟨List.mem_of_getElem? (i := 11) (by decide +kernel), rfl⟩
theorem mw_362 : Cond.fieldLink "SelfCheckStepsModel" 50 "SelfCheckStepsModel" "clashes" "[I" ∈ lw_ok := List.mem_filter.mpr ⟨List.mem_of_getElem? (i := 362) (by decide +kernel), rfl⟩
theorem mw_363 : Cond.fieldLink "SelfCheckStepsModel" 114 "SelfCheckStepsModel" "clashCount" "I" ∈ lw_ok := List.mem_filter.mpr ⟨List.mem_of_getElem? (i := 363) (by decide +kernel), rfl⟩
theorem mw_339 : Cond.methodLink "SelfCheckStepsModel" 1 ⟨"java/lang/Object", "<init>", "()V"⟩ ∈ lw_ok := List.mem_filter.mpr ⟨List.mem_of_getElem? (i := 339) (by decide +kernel), rfl⟩
set_option maxRecDepth 20000 in
theorem mw_152 : Cond.code y_person prog_1_method_2_code 4 (some .int) ∈ lw_ok := List.mem_filter.mpr ⟨List.mem_of_getElem? (i := 152) rfl, rfl⟩
theorem mw_149 : Cond.methodLink "SelfCheckStepsLaw" 21 y_person ∈ lw_ok := List.mem_filter.mpr ⟨List.mem_of_getElem? (i := 149) (by decide +kernel), rfl⟩
theorem mw_150 : Cond.instanceMethod y_person ∈ lw_ok := List.mem_filter.mpr ⟨List.mem_of_getElem? (i := 150) (by decide +kernel), rfl⟩
theorem mw_151 : Cond.selects "SelfCheckSteps" y_person y_person ∈ lw_ok := List.mem_filter.mpr ⟨List.mem_of_getElem? (i := 151) (by decide +kernel), rfl⟩
set_option maxRecDepth 20000 in
theorem mw_416 : Cond.code y_mPerson prog_6_method_5_code 4 (some .int) ∈ lw_ok := List.mem_filter.mpr ⟨List.mem_of_getElem? (i := 416) rfl, rfl⟩
theorem mw_413 : Cond.methodLink "SelfCheckStepsLaw" 25 y_mPerson ∈ lw_ok := List.mem_filter.mpr ⟨List.mem_of_getElem? (i := 413) (by decide +kernel), rfl⟩
theorem mw_414 : Cond.instanceMethod y_mPerson ∈ lw_ok := List.mem_filter.mpr ⟨List.mem_of_getElem? (i := 414) (by decide +kernel), rfl⟩
theorem mw_415 : Cond.selects "SelfCheckStepsModel" y_mPerson y_mPerson ∈ lw_ok := List.mem_filter.mpr ⟨List.mem_of_getElem? (i := 415) (by decide +kernel), rfl⟩
set_option maxRecDepth 20000 in
theorem mw_159 : Cond.code y_block prog_1_method_3_code 4 (some .boolean) ∈ lw_ok := List.mem_filter.mpr ⟨List.mem_of_getElem? (i := 159) rfl, rfl⟩
theorem mw_156 : Cond.methodLink "SelfCheckStepsLaw" 26 y_block ∈ lw_ok := List.mem_filter.mpr ⟨List.mem_of_getElem? (i := 156) (by decide +kernel), rfl⟩
theorem mw_157 : Cond.instanceMethod y_block ∈ lw_ok := List.mem_filter.mpr ⟨List.mem_of_getElem? (i := 157) (by decide +kernel), rfl⟩
theorem mw_158 : Cond.selects "SelfCheckSteps" y_block y_block ∈ lw_ok := List.mem_filter.mpr ⟨List.mem_of_getElem? (i := 158) (by decide +kernel), rfl⟩
set_option maxRecDepth 20000 in
theorem mw_423 : Cond.code y_mBlock prog_6_method_7_code 4 (some .boolean) ∈ lw_ok := List.mem_filter.mpr ⟨List.mem_of_getElem? (i := 423) rfl, rfl⟩
theorem mw_420 : Cond.methodLink "SelfCheckStepsLaw" 30 y_mBlock ∈ lw_ok := List.mem_filter.mpr ⟨List.mem_of_getElem? (i := 420) (by decide +kernel), rfl⟩
theorem mw_421 : Cond.instanceMethod y_mBlock ∈ lw_ok := List.mem_filter.mpr ⟨List.mem_of_getElem? (i := 421) (by decide +kernel), rfl⟩
theorem mw_422 : Cond.selects "SelfCheckStepsModel" y_mBlock y_mBlock ∈ lw_ok := List.mem_filter.mpr ⟨List.mem_of_getElem? (i := 422) (by decide +kernel), rfl⟩
set_option maxRecDepth 20000 in
theorem mw_171 : Cond.code y_reserve prog_1_method_4_code 3 (some .int) ∈ lw_ok := List.mem_filter.mpr ⟨List.mem_of_getElem? (i := 171) rfl, rfl⟩
theorem mw_168 : Cond.methodLink "SelfCheckStepsLaw" 31 y_reserve ∈ lw_ok := List.mem_filter.mpr ⟨List.mem_of_getElem? (i := 168) (by decide +kernel), rfl⟩
theorem mw_169 : Cond.instanceMethod y_reserve ∈ lw_ok := List.mem_filter.mpr ⟨List.mem_of_getElem? (i := 169) (by decide +kernel), rfl⟩
theorem mw_170 : Cond.selects "SelfCheckSteps" y_reserve y_reserve ∈ lw_ok := List.mem_filter.mpr ⟨List.mem_of_getElem? (i := 170) (by decide +kernel), rfl⟩
set_option maxRecDepth 20000 in
theorem mw_431 : Cond.code y_mReserve prog_6_method_8_code 3 (some .int) ∈ lw_ok := List.mem_filter.mpr ⟨List.mem_of_getElem? (i := 431) rfl, rfl⟩
theorem mw_428 : Cond.methodLink "SelfCheckStepsLaw" 35 y_mReserve ∈ lw_ok := List.mem_filter.mpr ⟨List.mem_of_getElem? (i := 428) (by decide +kernel), rfl⟩
theorem mw_429 : Cond.instanceMethod y_mReserve ∈ lw_ok := List.mem_filter.mpr ⟨List.mem_of_getElem? (i := 429) (by decide +kernel), rfl⟩
theorem mw_430 : Cond.selects "SelfCheckStepsModel" y_mReserve y_mReserve ∈ lw_ok := List.mem_filter.mpr ⟨List.mem_of_getElem? (i := 430) (by decide +kernel), rfl⟩
set_option maxRecDepth 20000 in
theorem mw_178 : Cond.code y_card prog_1_method_5_code 2 (some .int) ∈ lw_ok := List.mem_filter.mpr ⟨List.mem_of_getElem? (i := 178) rfl, rfl⟩
theorem mw_175 : Cond.methodLink "SelfCheckStepsLaw" 36 y_card ∈ lw_ok := List.mem_filter.mpr ⟨List.mem_of_getElem? (i := 175) (by decide +kernel), rfl⟩
theorem mw_176 : Cond.instanceMethod y_card ∈ lw_ok := List.mem_filter.mpr ⟨List.mem_of_getElem? (i := 176) (by decide +kernel), rfl⟩
theorem mw_177 : Cond.selects "SelfCheckSteps" y_card y_card ∈ lw_ok := List.mem_filter.mpr ⟨List.mem_of_getElem? (i := 177) (by decide +kernel), rfl⟩
set_option maxRecDepth 20000 in
theorem mw_438 : Cond.code y_mCard prog_6_method_9_code 2 (some .int) ∈ lw_ok := List.mem_filter.mpr ⟨List.mem_of_getElem? (i := 438) rfl, rfl⟩
theorem mw_435 : Cond.methodLink "SelfCheckStepsLaw" 40 y_mCard ∈ lw_ok := List.mem_filter.mpr ⟨List.mem_of_getElem? (i := 435) (by decide +kernel), rfl⟩
theorem mw_436 : Cond.instanceMethod y_mCard ∈ lw_ok := List.mem_filter.mpr ⟨List.mem_of_getElem? (i := 436) (by decide +kernel), rfl⟩
theorem mw_437 : Cond.selects "SelfCheckStepsModel" y_mCard y_mCard ∈ lw_ok := List.mem_filter.mpr ⟨List.mem_of_getElem? (i := 437) (by decide +kernel), rfl⟩
set_option maxRecDepth 20000 in
theorem mw_187 : Cond.code y_codeM prog_1_method_6_code 3 (some .int) ∈ lw_ok := List.mem_filter.mpr ⟨List.mem_of_getElem? (i := 187) rfl, rfl⟩
theorem mw_184 : Cond.methodLink "SelfCheckStepsLaw" 41 y_codeM ∈ lw_ok := List.mem_filter.mpr ⟨List.mem_of_getElem? (i := 184) (by decide +kernel), rfl⟩
theorem mw_185 : Cond.instanceMethod y_codeM ∈ lw_ok := List.mem_filter.mpr ⟨List.mem_of_getElem? (i := 185) (by decide +kernel), rfl⟩
theorem mw_186 : Cond.selects "SelfCheckSteps" y_codeM y_codeM ∈ lw_ok := List.mem_filter.mpr ⟨List.mem_of_getElem? (i := 186) (by decide +kernel), rfl⟩
set_option maxRecDepth 20000 in
theorem mw_442 : Cond.code y_mCode prog_6_method_10_code 2 (some .int) ∈ lw_ok := List.mem_filter.mpr ⟨List.mem_of_getElem? (i := 442) rfl, rfl⟩
theorem mw_439 : Cond.methodLink "SelfCheckStepsLaw" 44 y_mCode ∈ lw_ok := List.mem_filter.mpr ⟨List.mem_of_getElem? (i := 439) (by decide +kernel), rfl⟩
theorem mw_440 : Cond.instanceMethod y_mCode ∈ lw_ok := List.mem_filter.mpr ⟨List.mem_of_getElem? (i := 440) (by decide +kernel), rfl⟩
theorem mw_441 : Cond.selects "SelfCheckStepsModel" y_mCode y_mCode ∈ lw_ok := List.mem_filter.mpr ⟨List.mem_of_getElem? (i := 441) (by decide +kernel), rfl⟩
set_option maxRecDepth 20000 in
theorem mw_199 : Cond.code y_scan prog_1_method_7_code 2 (some .int) ∈ lw_ok := List.mem_filter.mpr ⟨List.mem_of_getElem? (i := 199) rfl, rfl⟩
theorem mw_196 : Cond.methodLink "SelfCheckStepsLaw" 45 y_scan ∈ lw_ok := List.mem_filter.mpr ⟨List.mem_of_getElem? (i := 196) (by decide +kernel), rfl⟩
theorem mw_197 : Cond.instanceMethod y_scan ∈ lw_ok := List.mem_filter.mpr ⟨List.mem_of_getElem? (i := 197) (by decide +kernel), rfl⟩
theorem mw_198 : Cond.selects "SelfCheckSteps" y_scan y_scan ∈ lw_ok := List.mem_filter.mpr ⟨List.mem_of_getElem? (i := 198) (by decide +kernel), rfl⟩
set_option maxRecDepth 20000 in
theorem mw_446 : Cond.code y_mScan prog_6_method_11_code 2 (some .int) ∈ lw_ok := List.mem_filter.mpr ⟨List.mem_of_getElem? (i := 446) rfl, rfl⟩
theorem mw_443 : Cond.methodLink "SelfCheckStepsLaw" 48 y_mScan ∈ lw_ok := List.mem_filter.mpr ⟨List.mem_of_getElem? (i := 443) (by decide +kernel), rfl⟩
theorem mw_444 : Cond.instanceMethod y_mScan ∈ lw_ok := List.mem_filter.mpr ⟨List.mem_of_getElem? (i := 444) (by decide +kernel), rfl⟩
theorem mw_445 : Cond.selects "SelfCheckStepsModel" y_mScan y_mScan ∈ lw_ok := List.mem_filter.mpr ⟨List.mem_of_getElem? (i := 445) (by decide +kernel), rfl⟩
set_option maxRecDepth 20000 in
theorem mw_203 : Cond.code y_twice prog_1_method_8_code 1 (some .int) ∈ lw_ok := List.mem_filter.mpr ⟨List.mem_of_getElem? (i := 203) rfl, rfl⟩
theorem mw_200 : Cond.methodLink "SelfCheckStepsLaw" 49 y_twice ∈ lw_ok := List.mem_filter.mpr ⟨List.mem_of_getElem? (i := 200) (by decide +kernel), rfl⟩
theorem mw_201 : Cond.instanceMethod y_twice ∈ lw_ok := List.mem_filter.mpr ⟨List.mem_of_getElem? (i := 201) (by decide +kernel), rfl⟩
theorem mw_202 : Cond.selects "SelfCheckSteps" y_twice y_twice ∈ lw_ok := List.mem_filter.mpr ⟨List.mem_of_getElem? (i := 202) (by decide +kernel), rfl⟩
set_option maxRecDepth 20000 in
theorem mw_450 : Cond.code y_mTwice prog_6_method_12_code 1 (some .int) ∈ lw_ok := List.mem_filter.mpr ⟨List.mem_of_getElem? (i := 450) rfl, rfl⟩
theorem mw_447 : Cond.methodLink "SelfCheckStepsLaw" 53 y_mTwice ∈ lw_ok := List.mem_filter.mpr ⟨List.mem_of_getElem? (i := 447) (by decide +kernel), rfl⟩
theorem mw_448 : Cond.instanceMethod y_mTwice ∈ lw_ok := List.mem_filter.mpr ⟨List.mem_of_getElem? (i := 448) (by decide +kernel), rfl⟩
theorem mw_449 : Cond.selects "SelfCheckStepsModel" y_mTwice y_mTwice ∈ lw_ok := List.mem_filter.mpr ⟨List.mem_of_getElem? (i := 449) (by decide +kernel), rfl⟩
set_option maxRecDepth 20000 in
theorem mw_207 : Cond.code y_lend prog_1_method_9_code 2 (some .int) ∈ lw_ok := List.mem_filter.mpr ⟨List.mem_of_getElem? (i := 207) rfl, rfl⟩
theorem mw_204 : Cond.methodLink "SelfCheckStepsLaw" 54 y_lend ∈ lw_ok := List.mem_filter.mpr ⟨List.mem_of_getElem? (i := 204) (by decide +kernel), rfl⟩
theorem mw_205 : Cond.instanceMethod y_lend ∈ lw_ok := List.mem_filter.mpr ⟨List.mem_of_getElem? (i := 205) (by decide +kernel), rfl⟩
theorem mw_206 : Cond.selects "SelfCheckSteps" y_lend y_lend ∈ lw_ok := List.mem_filter.mpr ⟨List.mem_of_getElem? (i := 206) (by decide +kernel), rfl⟩
set_option maxRecDepth 20000 in
theorem mw_454 : Cond.code y_mLend prog_6_method_17_code 2 (some .int) ∈ lw_ok := List.mem_filter.mpr ⟨List.mem_of_getElem? (i := 454) rfl, rfl⟩
theorem mw_451 : Cond.methodLink "SelfCheckStepsLaw" 57 y_mLend ∈ lw_ok := List.mem_filter.mpr ⟨List.mem_of_getElem? (i := 451) (by decide +kernel), rfl⟩
theorem mw_452 : Cond.instanceMethod y_mLend ∈ lw_ok := List.mem_filter.mpr ⟨List.mem_of_getElem? (i := 452) (by decide +kernel), rfl⟩
theorem mw_453 : Cond.selects "SelfCheckStepsModel" y_mLend y_mLend ∈ lw_ok := List.mem_filter.mpr ⟨List.mem_of_getElem? (i := 453) (by decide +kernel), rfl⟩
set_option maxRecDepth 20000 in
theorem mw_245 : Cond.code y_back prog_1_method_10_code 2 (some .int) ∈ lw_ok := List.mem_filter.mpr ⟨List.mem_of_getElem? (i := 245) rfl, rfl⟩
theorem mw_242 : Cond.methodLink "SelfCheckStepsLaw" 58 y_back ∈ lw_ok := List.mem_filter.mpr ⟨List.mem_of_getElem? (i := 242) (by decide +kernel), rfl⟩
theorem mw_243 : Cond.instanceMethod y_back ∈ lw_ok := List.mem_filter.mpr ⟨List.mem_of_getElem? (i := 243) (by decide +kernel), rfl⟩
theorem mw_244 : Cond.selects "SelfCheckSteps" y_back y_back ∈ lw_ok := List.mem_filter.mpr ⟨List.mem_of_getElem? (i := 244) (by decide +kernel), rfl⟩
set_option maxRecDepth 20000 in
theorem mw_474 : Cond.code y_mBack prog_6_method_19_code 2 (some .int) ∈ lw_ok := List.mem_filter.mpr ⟨List.mem_of_getElem? (i := 474) rfl, rfl⟩
theorem mw_471 : Cond.methodLink "SelfCheckStepsLaw" 61 y_mBack ∈ lw_ok := List.mem_filter.mpr ⟨List.mem_of_getElem? (i := 471) (by decide +kernel), rfl⟩
theorem mw_472 : Cond.instanceMethod y_mBack ∈ lw_ok := List.mem_filter.mpr ⟨List.mem_of_getElem? (i := 472) (by decide +kernel), rfl⟩
theorem mw_473 : Cond.selects "SelfCheckStepsModel" y_mBack y_mBack ∈ lw_ok := List.mem_filter.mpr ⟨List.mem_of_getElem? (i := 473) (by decide +kernel), rfl⟩
set_option maxRecDepth 20000 in
theorem mw_253 : Cond.code y_endM prog_1_method_11_code 2 (some .int) ∈ lw_ok := List.mem_filter.mpr ⟨List.mem_of_getElem? (i := 253) rfl, rfl⟩
theorem mw_250 : Cond.methodLink "SelfCheckStepsLaw" 62 y_endM ∈ lw_ok := List.mem_filter.mpr ⟨List.mem_of_getElem? (i := 250) (by decide +kernel), rfl⟩
theorem mw_251 : Cond.instanceMethod y_endM ∈ lw_ok := List.mem_filter.mpr ⟨List.mem_of_getElem? (i := 251) (by decide +kernel), rfl⟩
theorem mw_252 : Cond.selects "SelfCheckSteps" y_endM y_endM ∈ lw_ok := List.mem_filter.mpr ⟨List.mem_of_getElem? (i := 252) (by decide +kernel), rfl⟩
set_option maxRecDepth 20000 in
theorem mw_482 : Cond.code y_mEnd prog_6_method_21_code 4 (some .int) ∈ lw_ok := List.mem_filter.mpr ⟨List.mem_of_getElem? (i := 482) rfl, rfl⟩
theorem mw_479 : Cond.methodLink "SelfCheckStepsLaw" 66 y_mEnd ∈ lw_ok := List.mem_filter.mpr ⟨List.mem_of_getElem? (i := 479) (by decide +kernel), rfl⟩
theorem mw_480 : Cond.instanceMethod y_mEnd ∈ lw_ok := List.mem_filter.mpr ⟨List.mem_of_getElem? (i := 480) (by decide +kernel), rfl⟩
theorem mw_481 : Cond.selects "SelfCheckStepsModel" y_mEnd y_mEnd ∈ lw_ok := List.mem_filter.mpr ⟨List.mem_of_getElem? (i := 481) (by decide +kernel), rfl⟩
set_option maxRecDepth 20000 in
theorem mw_277 : Cond.code y_offl prog_1_method_12_code 3 (some .boolean) ∈ lw_ok := List.mem_filter.mpr ⟨List.mem_of_getElem? (i := 277) rfl, rfl⟩
theorem mw_274 : Cond.methodLink "SelfCheckStepsLaw" 67 y_offl ∈ lw_ok := List.mem_filter.mpr ⟨List.mem_of_getElem? (i := 274) (by decide +kernel), rfl⟩
theorem mw_275 : Cond.instanceMethod y_offl ∈ lw_ok := List.mem_filter.mpr ⟨List.mem_of_getElem? (i := 275) (by decide +kernel), rfl⟩
theorem mw_276 : Cond.selects "SelfCheckSteps" y_offl y_offl ∈ lw_ok := List.mem_filter.mpr ⟨List.mem_of_getElem? (i := 276) (by decide +kernel), rfl⟩
set_option maxRecDepth 20000 in
theorem mw_490 : Cond.code y_mOffl prog_6_method_22_code 3 (some .boolean) ∈ lw_ok := List.mem_filter.mpr ⟨List.mem_of_getElem? (i := 490) rfl, rfl⟩
theorem mw_487 : Cond.methodLink "SelfCheckStepsLaw" 71 y_mOffl ∈ lw_ok := List.mem_filter.mpr ⟨List.mem_of_getElem? (i := 487) (by decide +kernel), rfl⟩
theorem mw_488 : Cond.instanceMethod y_mOffl ∈ lw_ok := List.mem_filter.mpr ⟨List.mem_of_getElem? (i := 488) (by decide +kernel), rfl⟩
theorem mw_489 : Cond.selects "SelfCheckStepsModel" y_mOffl y_mOffl ∈ lw_ok := List.mem_filter.mpr ⟨List.mem_of_getElem? (i := 489) (by decide +kernel), rfl⟩
set_option maxRecDepth 20000 in
theorem mw_281 : Cond.code y_join prog_1_method_13_code 3 (some .int) ∈ lw_ok := List.mem_filter.mpr ⟨List.mem_of_getElem? (i := 281) rfl, rfl⟩
theorem mw_278 : Cond.methodLink "SelfCheckStepsLaw" 72 y_join ∈ lw_ok := List.mem_filter.mpr ⟨List.mem_of_getElem? (i := 278) (by decide +kernel), rfl⟩
theorem mw_279 : Cond.instanceMethod y_join ∈ lw_ok := List.mem_filter.mpr ⟨List.mem_of_getElem? (i := 279) (by decide +kernel), rfl⟩
theorem mw_280 : Cond.selects "SelfCheckSteps" y_join y_join ∈ lw_ok := List.mem_filter.mpr ⟨List.mem_of_getElem? (i := 280) (by decide +kernel), rfl⟩
set_option maxRecDepth 20000 in
theorem mw_494 : Cond.code y_mJoin prog_6_method_23_code 6 (some .int) ∈ lw_ok := List.mem_filter.mpr ⟨List.mem_of_getElem? (i := 494) rfl, rfl⟩
theorem mw_491 : Cond.methodLink "SelfCheckStepsLaw" 75 y_mJoin ∈ lw_ok := List.mem_filter.mpr ⟨List.mem_of_getElem? (i := 491) (by decide +kernel), rfl⟩
theorem mw_492 : Cond.instanceMethod y_mJoin ∈ lw_ok := List.mem_filter.mpr ⟨List.mem_of_getElem? (i := 492) (by decide +kernel), rfl⟩
theorem mw_493 : Cond.selects "SelfCheckStepsModel" y_mJoin y_mJoin ∈ lw_ok := List.mem_filter.mpr ⟨List.mem_of_getElem? (i := 493) (by decide +kernel), rfl⟩
set_option maxRecDepth 20000 in
theorem mw_293 : Cond.code y_clash prog_1_method_14_code 3 (some .int) ∈ lw_ok := List.mem_filter.mpr ⟨List.mem_of_getElem? (i := 293) rfl, rfl⟩
theorem mw_290 : Cond.methodLink "SelfCheckStepsLaw" 76 y_clash ∈ lw_ok := List.mem_filter.mpr ⟨List.mem_of_getElem? (i := 290) (by decide +kernel), rfl⟩
theorem mw_291 : Cond.instanceMethod y_clash ∈ lw_ok := List.mem_filter.mpr ⟨List.mem_of_getElem? (i := 291) (by decide +kernel), rfl⟩
theorem mw_292 : Cond.selects "SelfCheckSteps" y_clash y_clash ∈ lw_ok := List.mem_filter.mpr ⟨List.mem_of_getElem? (i := 292) (by decide +kernel), rfl⟩
set_option maxRecDepth 20000 in
theorem mw_498 : Cond.code y_mClash prog_6_method_24_code 3 (some .int) ∈ lw_ok := List.mem_filter.mpr ⟨List.mem_of_getElem? (i := 498) rfl, rfl⟩
theorem mw_495 : Cond.methodLink "SelfCheckStepsLaw" 79 y_mClash ∈ lw_ok := List.mem_filter.mpr ⟨List.mem_of_getElem? (i := 495) (by decide +kernel), rfl⟩
theorem mw_496 : Cond.instanceMethod y_mClash ∈ lw_ok := List.mem_filter.mpr ⟨List.mem_of_getElem? (i := 496) (by decide +kernel), rfl⟩
theorem mw_497 : Cond.selects "SelfCheckStepsModel" y_mClash y_mClash ∈ lw_ok := List.mem_filter.mpr ⟨List.mem_of_getElem? (i := 497) (by decide +kernel), rfl⟩
set_option maxRecDepth 20000 in
theorem mw_298 : Cond.code y_locker prog_1_method_15_code 3 (some .int) ∈ lw_ok := List.mem_filter.mpr ⟨List.mem_of_getElem? (i := 298) rfl, rfl⟩
theorem mw_295 : Cond.methodLink "SelfCheckStepsLaw" 80 y_locker ∈ lw_ok := List.mem_filter.mpr ⟨List.mem_of_getElem? (i := 295) (by decide +kernel), rfl⟩
theorem mw_296 : Cond.instanceMethod y_locker ∈ lw_ok := List.mem_filter.mpr ⟨List.mem_of_getElem? (i := 296) (by decide +kernel), rfl⟩
theorem mw_297 : Cond.selects "SelfCheckSteps" y_locker y_locker ∈ lw_ok := List.mem_filter.mpr ⟨List.mem_of_getElem? (i := 297) (by decide +kernel), rfl⟩
set_option maxRecDepth 20000 in
theorem mw_502 : Cond.code y_mLocker prog_6_method_25_code 3 (some .int) ∈ lw_ok := List.mem_filter.mpr ⟨List.mem_of_getElem? (i := 502) rfl, rfl⟩
theorem mw_499 : Cond.methodLink "SelfCheckStepsLaw" 83 y_mLocker ∈ lw_ok := List.mem_filter.mpr ⟨List.mem_of_getElem? (i := 499) (by decide +kernel), rfl⟩
theorem mw_500 : Cond.instanceMethod y_mLocker ∈ lw_ok := List.mem_filter.mpr ⟨List.mem_of_getElem? (i := 500) (by decide +kernel), rfl⟩
theorem mw_501 : Cond.selects "SelfCheckStepsModel" y_mLocker y_mLocker ∈ lw_ok := List.mem_filter.mpr ⟨List.mem_of_getElem? (i := 501) (by decide +kernel), rfl⟩
set_option maxRecDepth 20000 in
theorem mw_310 : Cond.code y_opn prog_1_method_16_code 6 (some .int) ∈ lw_ok := List.mem_filter.mpr ⟨List.mem_of_getElem? (i := 310) rfl, rfl⟩
theorem mw_307 : Cond.methodLink "SelfCheckStepsLaw" 84 y_opn ∈ lw_ok := List.mem_filter.mpr ⟨List.mem_of_getElem? (i := 307) (by decide +kernel), rfl⟩
theorem mw_308 : Cond.instanceMethod y_opn ∈ lw_ok := List.mem_filter.mpr ⟨List.mem_of_getElem? (i := 308) (by decide +kernel), rfl⟩
theorem mw_309 : Cond.selects "SelfCheckSteps" y_opn y_opn ∈ lw_ok := List.mem_filter.mpr ⟨List.mem_of_getElem? (i := 309) (by decide +kernel), rfl⟩
set_option maxRecDepth 20000 in
theorem mw_506 : Cond.code y_mOpn prog_6_method_26_code 5 (some .int) ∈ lw_ok := List.mem_filter.mpr ⟨List.mem_of_getElem? (i := 506) rfl, rfl⟩
theorem mw_503 : Cond.methodLink "SelfCheckStepsLaw" 87 y_mOpn ∈ lw_ok := List.mem_filter.mpr ⟨List.mem_of_getElem? (i := 503) (by decide +kernel), rfl⟩
theorem mw_504 : Cond.instanceMethod y_mOpn ∈ lw_ok := List.mem_filter.mpr ⟨List.mem_of_getElem? (i := 504) (by decide +kernel), rfl⟩
theorem mw_505 : Cond.selects "SelfCheckStepsModel" y_mOpn y_mOpn ∈ lw_ok := List.mem_filter.mpr ⟨List.mem_of_getElem? (i := 505) (by decide +kernel), rfl⟩
set_option maxRecDepth 20000 in
theorem mw_314 : Cond.code y_door prog_1_method_17_code 2 (some .boolean) ∈ lw_ok := List.mem_filter.mpr ⟨List.mem_of_getElem? (i := 314) rfl, rfl⟩
theorem mw_311 : Cond.methodLink "SelfCheckStepsLaw" 88 y_door ∈ lw_ok := List.mem_filter.mpr ⟨List.mem_of_getElem? (i := 311) (by decide +kernel), rfl⟩
theorem mw_312 : Cond.instanceMethod y_door ∈ lw_ok := List.mem_filter.mpr ⟨List.mem_of_getElem? (i := 312) (by decide +kernel), rfl⟩
theorem mw_313 : Cond.selects "SelfCheckSteps" y_door y_door ∈ lw_ok := List.mem_filter.mpr ⟨List.mem_of_getElem? (i := 313) (by decide +kernel), rfl⟩
set_option maxRecDepth 20000 in
theorem mw_510 : Cond.code y_mDoor prog_6_method_27_code 2 (some .boolean) ∈ lw_ok := List.mem_filter.mpr ⟨List.mem_of_getElem? (i := 510) rfl, rfl⟩
theorem mw_507 : Cond.methodLink "SelfCheckStepsLaw" 92 y_mDoor ∈ lw_ok := List.mem_filter.mpr ⟨List.mem_of_getElem? (i := 507) (by decide +kernel), rfl⟩
theorem mw_508 : Cond.instanceMethod y_mDoor ∈ lw_ok := List.mem_filter.mpr ⟨List.mem_of_getElem? (i := 508) (by decide +kernel), rfl⟩
theorem mw_509 : Cond.selects "SelfCheckStepsModel" y_mDoor y_mDoor ∈ lw_ok := List.mem_filter.mpr ⟨List.mem_of_getElem? (i := 509) (by decide +kernel), rfl⟩
set_option maxRecDepth 20000 in
theorem mw_318 : Cond.code y_receipt prog_1_method_18_code 2 (some .int) ∈ lw_ok := List.mem_filter.mpr ⟨List.mem_of_getElem? (i := 318) rfl, rfl⟩
theorem mw_315 : Cond.methodLink "SelfCheckStepsLaw" 93 y_receipt ∈ lw_ok := List.mem_filter.mpr ⟨List.mem_of_getElem? (i := 315) (by decide +kernel), rfl⟩
theorem mw_316 : Cond.instanceMethod y_receipt ∈ lw_ok := List.mem_filter.mpr ⟨List.mem_of_getElem? (i := 316) (by decide +kernel), rfl⟩
theorem mw_317 : Cond.selects "SelfCheckSteps" y_receipt y_receipt ∈ lw_ok := List.mem_filter.mpr ⟨List.mem_of_getElem? (i := 317) (by decide +kernel), rfl⟩
set_option maxRecDepth 20000 in
theorem mw_514 : Cond.code y_mReceipt prog_6_method_28_code 2 (some .int) ∈ lw_ok := List.mem_filter.mpr ⟨List.mem_of_getElem? (i := 514) rfl, rfl⟩
theorem mw_511 : Cond.methodLink "SelfCheckStepsLaw" 96 y_mReceipt ∈ lw_ok := List.mem_filter.mpr ⟨List.mem_of_getElem? (i := 511) (by decide +kernel), rfl⟩
theorem mw_512 : Cond.instanceMethod y_mReceipt ∈ lw_ok := List.mem_filter.mpr ⟨List.mem_of_getElem? (i := 512) (by decide +kernel), rfl⟩
theorem mw_513 : Cond.selects "SelfCheckStepsModel" y_mReceipt y_mReceipt ∈ lw_ok := List.mem_filter.mpr ⟨List.mem_of_getElem? (i := 513) (by decide +kernel), rfl⟩
set_option maxRecDepth 20000 in
theorem mw_322 : Cond.code y_screen prog_1_method_19_code 2 (some .int) ∈ lw_ok := List.mem_filter.mpr ⟨List.mem_of_getElem? (i := 322) rfl, rfl⟩
theorem mw_319 : Cond.methodLink "SelfCheckStepsLaw" 97 y_screen ∈ lw_ok := List.mem_filter.mpr ⟨List.mem_of_getElem? (i := 319) (by decide +kernel), rfl⟩
theorem mw_320 : Cond.instanceMethod y_screen ∈ lw_ok := List.mem_filter.mpr ⟨List.mem_of_getElem? (i := 320) (by decide +kernel), rfl⟩
theorem mw_321 : Cond.selects "SelfCheckSteps" y_screen y_screen ∈ lw_ok := List.mem_filter.mpr ⟨List.mem_of_getElem? (i := 321) (by decide +kernel), rfl⟩
set_option maxRecDepth 20000 in
theorem mw_518 : Cond.code y_mScreen prog_6_method_29_code 1 (some .int) ∈ lw_ok := List.mem_filter.mpr ⟨List.mem_of_getElem? (i := 518) rfl, rfl⟩
theorem mw_515 : Cond.methodLink "SelfCheckStepsLaw" 100 y_mScreen ∈ lw_ok := List.mem_filter.mpr ⟨List.mem_of_getElem? (i := 515) (by decide +kernel), rfl⟩
theorem mw_516 : Cond.instanceMethod y_mScreen ∈ lw_ok := List.mem_filter.mpr ⟨List.mem_of_getElem? (i := 516) (by decide +kernel), rfl⟩
theorem mw_517 : Cond.selects "SelfCheckStepsModel" y_mScreen y_mScreen ∈ lw_ok := List.mem_filter.mpr ⟨List.mem_of_getElem? (i := 517) (by decide +kernel), rfl⟩
set_option maxRecDepth 20000 in
theorem mw_326 : Cond.code y_itemM prog_1_method_20_code 3 (some .int) ∈ lw_ok := List.mem_filter.mpr ⟨List.mem_of_getElem? (i := 326) rfl, rfl⟩
theorem mw_323 : Cond.methodLink "SelfCheckStepsLaw" 101 y_itemM ∈ lw_ok := List.mem_filter.mpr ⟨List.mem_of_getElem? (i := 323) (by decide +kernel), rfl⟩
theorem mw_324 : Cond.instanceMethod y_itemM ∈ lw_ok := List.mem_filter.mpr ⟨List.mem_of_getElem? (i := 324) (by decide +kernel), rfl⟩
theorem mw_325 : Cond.selects "SelfCheckSteps" y_itemM y_itemM ∈ lw_ok := List.mem_filter.mpr ⟨List.mem_of_getElem? (i := 325) (by decide +kernel), rfl⟩
set_option maxRecDepth 20000 in
theorem mw_522 : Cond.code y_mItem prog_6_method_30_code 3 (some .int) ∈ lw_ok := List.mem_filter.mpr ⟨List.mem_of_getElem? (i := 522) rfl, rfl⟩
theorem mw_519 : Cond.methodLink "SelfCheckStepsLaw" 104 y_mItem ∈ lw_ok := List.mem_filter.mpr ⟨List.mem_of_getElem? (i := 519) (by decide +kernel), rfl⟩
theorem mw_520 : Cond.instanceMethod y_mItem ∈ lw_ok := List.mem_filter.mpr ⟨List.mem_of_getElem? (i := 520) (by decide +kernel), rfl⟩
theorem mw_521 : Cond.selects "SelfCheckStepsModel" y_mItem y_mItem ∈ lw_ok := List.mem_filter.mpr ⟨List.mem_of_getElem? (i := 521) (by decide +kernel), rfl⟩
set_option maxRecDepth 20000 in
theorem mw_330 : Cond.code y_rowsM prog_1_method_21_code 1 (some .int) ∈ lw_ok := List.mem_filter.mpr ⟨List.mem_of_getElem? (i := 330) rfl, rfl⟩
theorem mw_327 : Cond.methodLink "SelfCheckStepsLaw" 105 y_rowsM ∈ lw_ok := List.mem_filter.mpr ⟨List.mem_of_getElem? (i := 327) (by decide +kernel), rfl⟩
theorem mw_328 : Cond.instanceMethod y_rowsM ∈ lw_ok := List.mem_filter.mpr ⟨List.mem_of_getElem? (i := 328) (by decide +kernel), rfl⟩
theorem mw_329 : Cond.selects "SelfCheckSteps" y_rowsM y_rowsM ∈ lw_ok := List.mem_filter.mpr ⟨List.mem_of_getElem? (i := 329) (by decide +kernel), rfl⟩
set_option maxRecDepth 20000 in
theorem mw_526 : Cond.code y_mRows prog_6_method_31_code 1 (some .int) ∈ lw_ok := List.mem_filter.mpr ⟨List.mem_of_getElem? (i := 526) rfl, rfl⟩
theorem mw_523 : Cond.methodLink "SelfCheckStepsLaw" 108 y_mRows ∈ lw_ok := List.mem_filter.mpr ⟨List.mem_of_getElem? (i := 523) (by decide +kernel), rfl⟩
theorem mw_524 : Cond.instanceMethod y_mRows ∈ lw_ok := List.mem_filter.mpr ⟨List.mem_of_getElem? (i := 524) (by decide +kernel), rfl⟩
theorem mw_525 : Cond.selects "SelfCheckStepsModel" y_mRows y_mRows ∈ lw_ok := List.mem_filter.mpr ⟨List.mem_of_getElem? (i := 525) (by decide +kernel), rfl⟩
theorem mw_21 : Cond.instantiable "SelfCheckSteps" 5 ∈ lw_ok := List.mem_filter.mpr ⟨List.mem_of_getElem? (i := 21) (by decide +kernel), rfl⟩
theorem mw_335 : Cond.instantiable "SelfCheckStepsModel" 24 ∈ lw_ok := List.mem_filter.mpr ⟨List.mem_of_getElem? (i := 335) (by decide +kernel), rfl⟩
set_option maxRecDepth 20000 in
theorem mw_333 : Cond.code y_cell method_2_code 2 (some .int) ∈ lw_ok := List.mem_filter.mpr ⟨List.mem_of_getElem? (i := 333) rfl, rfl⟩
theorem mw_12 : Cond.initialized "SelfCheckStepsLaw" ∈ lw_ok := List.mem_filter.mpr ⟨List.mem_of_getElem? (i := 12) (by decide +kernel), rfl⟩
theorem mw_331 : Cond.methodLink "SelfCheckStepsLaw" 9 y_cell ∈ lw_ok := List.mem_filter.mpr ⟨List.mem_of_getElem? (i := 331) (by decide +kernel), rfl⟩
theorem mw_332 : Cond.static y_cell ∈ lw_ok := List.mem_filter.mpr ⟨List.mem_of_getElem? (i := 332) (by decide +kernel), rfl⟩
theorem mw_20 : Cond.classLink "SelfCheckStepsLaw" 7 "SelfCheckSteps" ∈ lw_ok := List.mem_filter.mpr ⟨List.mem_of_getElem? (i := 20) (by decide +kernel), rfl⟩
set_option maxRecDepth 20000 in
theorem mw_24 : Cond.code y_MainI prog_1_method_1_code 3 none ∈ lw_ok := List.mem_filter.mpr ⟨List.mem_of_getElem? (i := 24) rfl, rfl⟩
theorem mw_22 : Cond.methodLink "SelfCheckStepsLaw" 15 y_MainI ∈ lw_ok := List.mem_filter.mpr ⟨List.mem_of_getElem? (i := 22) (by decide +kernel), rfl⟩
theorem mw_23 : Cond.instanceMethod y_MainI ∈ lw_ok := List.mem_filter.mpr ⟨List.mem_of_getElem? (i := 23) (by decide +kernel), rfl⟩
theorem mw_334 : Cond.classLink "SelfCheckStepsLaw" 18 "SelfCheckStepsModel" ∈ lw_ok := List.mem_filter.mpr ⟨List.mem_of_getElem? (i := 334) (by decide +kernel), rfl⟩
set_option maxRecDepth 20000 in
theorem mw_338 : Cond.code y_ModI prog_6_method_1_code 3 none ∈ lw_ok := List.mem_filter.mpr ⟨List.mem_of_getElem? (i := 338) rfl, rfl⟩
theorem mw_336 : Cond.methodLink "SelfCheckStepsLaw" 20 y_ModI ∈ lw_ok := List.mem_filter.mpr ⟨List.mem_of_getElem? (i := 336) (by decide +kernel), rfl⟩
theorem mw_337 : Cond.instanceMethod y_ModI ∈ lw_ok := List.mem_filter.mpr ⟨List.mem_of_getElem? (i := 337) (by decide +kernel), rfl⟩
