theorem wd_1 : Cond.initialized R_X ∈ lw_ok := List.mem_filter.mpr ⟨List.mem_append_right _ (List.mem_of_getElem? (i := 1) (by decide +kernel)), by decide +kernel⟩
theorem wd_2 : Cond.initialized "java/lang/Math" ∈ lw_ok := List.mem_filter.mpr ⟨List.mem_append_right _ (List.mem_of_getElem? (i := 2) (by decide +kernel)), by decide +kernel⟩
theorem wd_3 : Cond.initialized R_S ∈ lw_ok := List.mem_filter.mpr ⟨List.mem_append_right _ (List.mem_of_getElem? (i := 3) (by decide +kernel)), by decide +kernel⟩
theorem wd_4 : Cond.initialized R_U ∈ lw_ok := List.mem_filter.mpr ⟨List.mem_append_right _ (List.mem_of_getElem? (i := 4) (by decide +kernel)), by decide +kernel⟩
theorem wd_5 : Cond.initialized R_R ∈ lw_ok := List.mem_filter.mpr ⟨List.mem_append_right _ (List.mem_of_getElem? (i := 5) (by decide +kernel)), by decide +kernel⟩
theorem wd_6 : Cond.initialized R_C ∈ lw_ok := List.mem_filter.mpr ⟨List.mem_append_right _ (List.mem_of_getElem? (i := 6) (by decide +kernel)), by decide +kernel⟩
theorem wd_7 : Cond.initialized R_P ∈ lw_ok := List.mem_filter.mpr ⟨List.mem_append_right _ (List.mem_of_getElem? (i := 7) (by decide +kernel)), by decide +kernel⟩
theorem wd_8 : Cond.initialized R_M ∈ lw_ok := List.mem_filter.mpr ⟨List.mem_append_right _ (List.mem_of_getElem? (i := 8) (by decide +kernel)), by decide +kernel⟩
theorem wd_18 : Cond.static Lib.Math.min.name ∈ lw_ok := List.mem_filter.mpr ⟨List.mem_append_right _ (List.mem_of_getElem? (i := 18) (by decide +kernel)), by decide +kernel⟩
theorem wd_19 : Cond.code Lib.Math.min.name Lib.Math.min.code 2 (some .int) ∈ lw_ok := List.mem_filter.mpr ⟨List.mem_append_right _ (List.mem_of_getElem? (i := 19) (by decide +kernel)), by decide +kernel⟩
theorem wd_21 : Cond.static Lib.Math.max.name ∈ lw_ok := List.mem_filter.mpr ⟨List.mem_append_right _ (List.mem_of_getElem? (i := 21) (by decide +kernel)), by decide +kernel⟩
theorem wd_22 : Cond.code Lib.Math.max.name Lib.Math.max.code 2 (some .int) ∈ lw_ok := List.mem_filter.mpr ⟨List.mem_append_right _ (List.mem_of_getElem? (i := 22) (by decide +kernel)), by decide +kernel⟩
theorem wd_36 : Cond.fieldLink R_U 9 R_U "sizes" "[I" ∈ lw_ok := List.mem_filter.mpr ⟨List.mem_append_right _ (List.mem_of_getElem? (i := 36) (by decide +kernel)), by decide +kernel⟩
theorem wd_37 : Cond.fieldLink R_U 15 R_U "dues" "[I" ∈ lw_ok := List.mem_filter.mpr ⟨List.mem_append_right _ (List.mem_of_getElem? (i := 37) (by decide +kernel)), by decide +kernel⟩
theorem wd_38 : Cond.fieldLink R_U 18 R_U "seeds" "[I" ∈ lw_ok := List.mem_filter.mpr ⟨List.mem_append_right _ (List.mem_of_getElem? (i := 38) (by decide +kernel)), by decide +kernel⟩
theorem wd_39 : Cond.fieldLink R_U 21 R_U "length" "I" ∈ lw_ok := List.mem_filter.mpr ⟨List.mem_append_right _ (List.mem_of_getElem? (i := 39) (by decide +kernel)), by decide +kernel⟩
theorem wd_51 : Cond.fieldLink R_S 12 R_S "queue" "LPacedMux$UnitRow;" ∈ lw_ok := List.mem_filter.mpr ⟨List.mem_append_right _ (List.mem_of_getElem? (i := 51) (by decide +kernel)), by decide +kernel⟩
theorem wd_53 : Cond.fieldLink R_S 18 R_S "store" "LPacedMux$UnitRow;" ∈ lw_ok := List.mem_filter.mpr ⟨List.mem_append_right _ (List.mem_of_getElem? (i := 53) (by decide +kernel)), by decide +kernel⟩
theorem wd_55 : Cond.fieldLink R_S 45 R_S "sentBytes" "I" ∈ lw_ok := List.mem_filter.mpr ⟨List.mem_append_right _ (List.mem_of_getElem? (i := 55) (by decide +kernel)), by decide +kernel⟩
theorem wd_56 : Cond.fieldLink R_S 21 R_S "low" "I" ∈ lw_ok := List.mem_filter.mpr ⟨List.mem_append_right _ (List.mem_of_getElem? (i := 56) (by decide +kernel)), by decide +kernel⟩
theorem wd_58 : Cond.fieldLink R_S 35 R_S "high" "I" ∈ lw_ok := List.mem_filter.mpr ⟨List.mem_append_right _ (List.mem_of_getElem? (i := 58) (by decide +kernel)), by decide +kernel⟩
theorem wd_60 : Cond.fieldLink R_S 71 R_S "nextCounter" "I" ∈ lw_ok := List.mem_filter.mpr ⟨List.mem_append_right _ (List.mem_of_getElem? (i := 60) (by decide +kernel)), by decide +kernel⟩
theorem wd_61 : Cond.fieldLink R_S 48 R_S "lateUnits" "I" ∈ lw_ok := List.mem_filter.mpr ⟨List.mem_append_right _ (List.mem_of_getElem? (i := 61) (by decide +kernel)), by decide +kernel⟩
theorem wd_94 : Cond.fieldLink R_C 18 R_C "hasCounter" "Z" ∈ lw_ok := List.mem_filter.mpr ⟨List.mem_append_right _ (List.mem_of_getElem? (i := 94) (by decide +kernel)), by decide +kernel⟩
theorem wd_95 : Cond.fieldLink R_C 29 R_C "lastCounter" "I" ∈ lw_ok := List.mem_filter.mpr ⟨List.mem_append_right _ (List.mem_of_getElem? (i := 95) (by decide +kernel)), by decide +kernel⟩
theorem wd_96 : Cond.fieldLink R_C 22 R_C "collecting" "Z" ∈ lw_ok := List.mem_filter.mpr ⟨List.mem_append_right _ (List.mem_of_getElem? (i := 96) (by decide +kernel)), by decide +kernel⟩
theorem wd_98 : Cond.fieldLink R_C 32 R_C "size" "I" ∈ lw_ok := List.mem_filter.mpr ⟨List.mem_append_right _ (List.mem_of_getElem? (i := 98) (by decide +kernel)), by decide +kernel⟩
theorem wd_99 : Cond.fieldLink R_C 35 R_C "due" "I" ∈ lw_ok := List.mem_filter.mpr ⟨List.mem_append_right _ (List.mem_of_getElem? (i := 99) (by decide +kernel)), by decide +kernel⟩
theorem wd_100 : Cond.fieldLink R_C 38 R_C "filled" "I" ∈ lw_ok := List.mem_filter.mpr ⟨List.mem_append_right _ (List.mem_of_getElem? (i := 100) (by decide +kernel)), by decide +kernel⟩
theorem wd_101 : Cond.fieldLink R_C 9 R_C "bytes" "[I" ∈ lw_ok := List.mem_filter.mpr ⟨List.mem_append_right _ (List.mem_of_getElem? (i := 101) (by decide +kernel)), by decide +kernel⟩
theorem wd_102 : Cond.fieldLink R_C 47 R_C "latestSize" "I" ∈ lw_ok := List.mem_filter.mpr ⟨List.mem_append_right _ (List.mem_of_getElem? (i := 102) (by decide +kernel)), by decide +kernel⟩
theorem wd_104 : Cond.fieldLink R_C 50 R_C "latestDue" "I" ∈ lw_ok := List.mem_filter.mpr ⟨List.mem_append_right _ (List.mem_of_getElem? (i := 104) (by decide +kernel)), by decide +kernel⟩
theorem wd_107 : Cond.fieldLink R_C 15 R_C "latestBytes" "[I" ∈ lw_ok := List.mem_filter.mpr ⟨List.mem_append_right _ (List.mem_of_getElem? (i := 107) (by decide +kernel)), by decide +kernel⟩
theorem wd_109 : Cond.fieldLink R_C 25 R_C "arrivals" "I" ∈ lw_ok := List.mem_filter.mpr ⟨List.mem_append_right _ (List.mem_of_getElem? (i := 109) (by decide +kernel)), by decide +kernel⟩
theorem wd_134 : Cond.fieldLink R_R 11 R_R "collectors" "[LPacedMux$Collector;" ∈ lw_ok := List.mem_filter.mpr ⟨List.mem_append_right _ (List.mem_of_getElem? (i := 134) (by decide +kernel)), by decide +kernel⟩
theorem wd_136 : Cond.fieldLink R_R 17 R_R "tallies" "[I" ∈ lw_ok := List.mem_filter.mpr ⟨List.mem_append_right _ (List.mem_of_getElem? (i := 136) (by decide +kernel)), by decide +kernel⟩
theorem wd_138 : Cond.fieldLink R_R 22 R_R "clockKnown" "Z" ∈ lw_ok := List.mem_filter.mpr ⟨List.mem_append_right _ (List.mem_of_getElem? (i := 138) (by decide +kernel)), by decide +kernel⟩
theorem wd_140 : Cond.fieldLink R_R 26 R_R "clockTime" "I" ∈ lw_ok := List.mem_filter.mpr ⟨List.mem_append_right _ (List.mem_of_getElem? (i := 140) (by decide +kernel)), by decide +kernel⟩
theorem wd_157 : Cond.fieldLink R_P 9 R_P "bytes" "[I" ∈ lw_ok := List.mem_filter.mpr ⟨List.mem_append_right _ (List.mem_of_getElem? (i := 157) (by decide +kernel)), by decide +kernel⟩
theorem wd_158 : Cond.fieldLink R_P 15 R_P "used" "I" ∈ lw_ok := List.mem_filter.mpr ⟨List.mem_append_right _ (List.mem_of_getElem? (i := 158) (by decide +kernel)), by decide +kernel⟩
theorem wd_164 : Cond.fieldLink R_X 18 R_X "leak" "I" ∈ lw_ok := List.mem_filter.mpr ⟨List.mem_append_right _ (List.mem_of_getElem? (i := 164) (by decide +kernel)), by decide +kernel⟩
theorem wd_165 : Cond.fieldLink R_X 22 R_X "capacity" "I" ∈ lw_ok := List.mem_filter.mpr ⟨List.mem_append_right _ (List.mem_of_getElem? (i := 165) (by decide +kernel)), by decide +kernel⟩
theorem wd_166 : Cond.fieldLink R_X 27 R_X "senders" "[LPacedMux$Sender;" ∈ lw_ok := List.mem_filter.mpr ⟨List.mem_append_right _ (List.mem_of_getElem? (i := 166) (by decide +kernel)), by decide +kernel⟩
theorem wd_167 : Cond.fieldLink R_X 35 R_X "receiver" "LPacedMux$Receiver;" ∈ lw_ok := List.mem_filter.mpr ⟨List.mem_append_right _ (List.mem_of_getElem? (i := 167) (by decide +kernel)), by decide +kernel⟩
theorem wd_168 : Cond.fieldLink R_X 42 R_X "sentPacket" "LPacedMux$Packet;" ∈ lw_ok := List.mem_filter.mpr ⟨List.mem_append_right _ (List.mem_of_getElem? (i := 168) (by decide +kernel)), by decide +kernel⟩
theorem wd_169 : Cond.fieldLink R_X 46 R_X "arrivingPacket" "LPacedMux$Packet;" ∈ lw_ok := List.mem_filter.mpr ⟨List.mem_append_right _ (List.mem_of_getElem? (i := 169) (by decide +kernel)), by decide +kernel⟩
theorem wd_170 : Cond.fieldLink R_X 53 R_X "time" "I" ∈ lw_ok := List.mem_filter.mpr ⟨List.mem_append_right _ (List.mem_of_getElem? (i := 170) (by decide +kernel)), by decide +kernel⟩
theorem wd_171 : Cond.fieldLink R_X 93 R_X "ticked" "Z" ∈ lw_ok := List.mem_filter.mpr ⟨List.mem_append_right _ (List.mem_of_getElem? (i := 171) (by decide +kernel)), by decide +kernel⟩
theorem wd_193 : Cond.methodLink R_X 49 y_X_isStream ∈ lw_ok := List.mem_filter.mpr ⟨List.mem_append_right _ (List.mem_of_getElem? (i := 193) (by decide +kernel)), by decide +kernel⟩
theorem wd_194 : Cond.static y_X_isStream ∈ lw_ok := List.mem_filter.mpr ⟨List.mem_append_right _ (List.mem_of_getElem? (i := 194) (by decide +kernel)), by decide +kernel⟩
theorem wd_195 : Cond.code y_X_isStream b_X_isStream 1 (some .boolean) ∈ lw_ok := List.mem_filter.mpr ⟨List.mem_append_right _ (List.mem_of_getElem? (i := 195) (by decide +kernel)), by decide +kernel⟩
theorem wd_196 : Cond.methodLink R_X 63 y_U_isFull ∈ lw_ok := List.mem_filter.mpr ⟨List.mem_append_right _ (List.mem_of_getElem? (i := 196) (by decide +kernel)), by decide +kernel⟩
theorem wd_197 : Cond.instanceMethod y_U_isFull ∈ lw_ok := List.mem_filter.mpr ⟨List.mem_append_right _ (List.mem_of_getElem? (i := 197) (by decide +kernel)), by decide +kernel⟩
theorem wd_198 : Cond.selects R_U y_U_isFull y_U_isFull ∈ lw_ok := List.mem_filter.mpr ⟨List.mem_append_right _ (List.mem_of_getElem? (i := 198) (by decide +kernel)), by decide +kernel⟩
theorem wd_199 : Cond.code y_U_isFull b_U_isFull 1 (some .boolean) ∈ lw_ok := List.mem_filter.mpr ⟨List.mem_append_right _ (List.mem_of_getElem? (i := 199) (by decide +kernel)), by decide +kernel⟩
theorem wd_200 : Cond.methodLink R_X 69 y_U_append ∈ lw_ok := List.mem_filter.mpr ⟨List.mem_append_right _ (List.mem_of_getElem? (i := 200) (by decide +kernel)), by decide +kernel⟩
theorem wd_201 : Cond.instanceMethod y_U_append ∈ lw_ok := List.mem_filter.mpr ⟨List.mem_append_right _ (List.mem_of_getElem? (i := 201) (by decide +kernel)), by decide +kernel⟩
theorem wd_202 : Cond.selects R_U y_U_append y_U_append ∈ lw_ok := List.mem_filter.mpr ⟨List.mem_append_right _ (List.mem_of_getElem? (i := 202) (by decide +kernel)), by decide +kernel⟩
theorem wd_203 : Cond.code y_U_append b_U_append 4 none ∈ lw_ok := List.mem_filter.mpr ⟨List.mem_append_right _ (List.mem_of_getElem? (i := 203) (by decide +kernel)), by decide +kernel⟩
theorem wd_204 : Cond.methodLink R_U 25 y_U_isFull ∈ lw_ok := List.mem_filter.mpr ⟨List.mem_append_right _ (List.mem_of_getElem? (i := 204) (by decide +kernel)), by decide +kernel⟩
theorem wd_209 : Cond.methodLink R_X 76 y_X_sendPacket ∈ lw_ok := List.mem_filter.mpr ⟨List.mem_append_right _ (List.mem_of_getElem? (i := 209) (by decide +kernel)), by decide +kernel⟩
theorem wd_211 : Cond.instanceMethod y_X_sendPacket ∈ lw_ok := List.mem_filter.mpr ⟨List.mem_append_right _ (List.mem_of_getElem? (i := 211) (by decide +kernel)), by decide +kernel⟩
theorem wd_212 : Cond.code y_X_sendPacket b_X_sendPacket 3 none ∈ lw_ok := List.mem_filter.mpr ⟨List.mem_append_right _ (List.mem_of_getElem? (i := 212) (by decide +kernel)), by decide +kernel⟩
theorem wd_213 : Cond.methodLink R_X 144 y_S_beginTick ∈ lw_ok := List.mem_filter.mpr ⟨List.mem_append_right _ (List.mem_of_getElem? (i := 213) (by decide +kernel)), by decide +kernel⟩
theorem wd_214 : Cond.instanceMethod y_S_beginTick ∈ lw_ok := List.mem_filter.mpr ⟨List.mem_append_right _ (List.mem_of_getElem? (i := 214) (by decide +kernel)), by decide +kernel⟩
theorem wd_215 : Cond.selects R_S y_S_beginTick y_S_beginTick ∈ lw_ok := List.mem_filter.mpr ⟨List.mem_append_right _ (List.mem_of_getElem? (i := 215) (by decide +kernel)), by decide +kernel⟩
theorem wd_216 : Cond.code y_S_beginTick b_S_beginTick 3 none ∈ lw_ok := List.mem_filter.mpr ⟨List.mem_append_right _ (List.mem_of_getElem? (i := 216) (by decide +kernel)), by decide +kernel⟩
theorem wd_217 : Cond.methodLink R_S 25 Lib.Math.max.name ∈ lw_ok := List.mem_filter.mpr ⟨List.mem_append_right _ (List.mem_of_getElem? (i := 217) (by decide +kernel)), by decide +kernel⟩
theorem wd_218 : Cond.methodLink R_S 31 y_U_isFirstDueAt ∈ lw_ok := List.mem_filter.mpr ⟨List.mem_append_right _ (List.mem_of_getElem? (i := 218) (by decide +kernel)), by decide +kernel⟩
theorem wd_219 : Cond.instanceMethod y_U_isFirstDueAt ∈ lw_ok := List.mem_filter.mpr ⟨List.mem_append_right _ (List.mem_of_getElem? (i := 219) (by decide +kernel)), by decide +kernel⟩
theorem wd_220 : Cond.selects R_U y_U_isFirstDueAt y_U_isFirstDueAt ∈ lw_ok := List.mem_filter.mpr ⟨List.mem_append_right _ (List.mem_of_getElem? (i := 220) (by decide +kernel)), by decide +kernel⟩
theorem wd_221 : Cond.code y_U_isFirstDueAt b_U_isFirstDueAt 2 (some .boolean) ∈ lw_ok := List.mem_filter.mpr ⟨List.mem_append_right _ (List.mem_of_getElem? (i := 221) (by decide +kernel)), by decide +kernel⟩
theorem wd_222 : Cond.methodLink R_U 29 y_U_isEmpty ∈ lw_ok := List.mem_filter.mpr ⟨List.mem_append_right _ (List.mem_of_getElem? (i := 222) (by decide +kernel)), by decide +kernel⟩
theorem wd_223 : Cond.instanceMethod y_U_isEmpty ∈ lw_ok := List.mem_filter.mpr ⟨List.mem_append_right _ (List.mem_of_getElem? (i := 223) (by decide +kernel)), by decide +kernel⟩
theorem wd_224 : Cond.selects R_U y_U_isEmpty y_U_isEmpty ∈ lw_ok := List.mem_filter.mpr ⟨List.mem_append_right _ (List.mem_of_getElem? (i := 224) (by decide +kernel)), by decide +kernel⟩
theorem wd_225 : Cond.code y_U_isEmpty b_U_isEmpty 1 (some .boolean) ∈ lw_ok := List.mem_filter.mpr ⟨List.mem_append_right _ (List.mem_of_getElem? (i := 225) (by decide +kernel)), by decide +kernel⟩
theorem wd_226 : Cond.methodLink R_S 38 y_U_firstSize ∈ lw_ok := List.mem_filter.mpr ⟨List.mem_append_right _ (List.mem_of_getElem? (i := 226) (by decide +kernel)), by decide +kernel⟩
theorem wd_227 : Cond.instanceMethod y_U_firstSize ∈ lw_ok := List.mem_filter.mpr ⟨List.mem_append_right _ (List.mem_of_getElem? (i := 227) (by decide +kernel)), by decide +kernel⟩
theorem wd_228 : Cond.selects R_U y_U_firstSize y_U_firstSize ∈ lw_ok := List.mem_filter.mpr ⟨List.mem_append_right _ (List.mem_of_getElem? (i := 228) (by decide +kernel)), by decide +kernel⟩
theorem wd_229 : Cond.code y_U_firstSize b_U_firstSize 1 (some .int) ∈ lw_ok := List.mem_filter.mpr ⟨List.mem_append_right _ (List.mem_of_getElem? (i := 229) (by decide +kernel)), by decide +kernel⟩
theorem wd_230 : Cond.methodLink R_S 42 y_U_dropFirst ∈ lw_ok := List.mem_filter.mpr ⟨List.mem_append_right _ (List.mem_of_getElem? (i := 230) (by decide +kernel)), by decide +kernel⟩
theorem wd_231 : Cond.instanceMethod y_U_dropFirst ∈ lw_ok := List.mem_filter.mpr ⟨List.mem_append_right _ (List.mem_of_getElem? (i := 231) (by decide +kernel)), by decide +kernel⟩
theorem wd_232 : Cond.selects R_U y_U_dropFirst y_U_dropFirst ∈ lw_ok := List.mem_filter.mpr ⟨List.mem_append_right _ (List.mem_of_getElem? (i := 232) (by decide +kernel)), by decide +kernel⟩
theorem wd_233 : Cond.code y_U_dropFirst b_U_dropFirst 2 none ∈ lw_ok := List.mem_filter.mpr ⟨List.mem_append_right _ (List.mem_of_getElem? (i := 233) (by decide +kernel)), by decide +kernel⟩
theorem wd_234 : Cond.methodLink R_S 51 y_S_dropCurrent ∈ lw_ok := List.mem_filter.mpr ⟨List.mem_append_right _ (List.mem_of_getElem? (i := 234) (by decide +kernel)), by decide +kernel⟩
theorem wd_236 : Cond.instanceMethod y_S_dropCurrent ∈ lw_ok := List.mem_filter.mpr ⟨List.mem_append_right _ (List.mem_of_getElem? (i := 236) (by decide +kernel)), by decide +kernel⟩
theorem wd_237 : Cond.code y_S_dropCurrent b_S_dropCurrent 1 none ∈ lw_ok := List.mem_filter.mpr ⟨List.mem_append_right _ (List.mem_of_getElem? (i := 237) (by decide +kernel)), by decide +kernel⟩
theorem wd_238 : Cond.methodLink R_X 147 y_X_chooseStream ∈ lw_ok := List.mem_filter.mpr ⟨List.mem_append_right _ (List.mem_of_getElem? (i := 238) (by decide +kernel)), by decide +kernel⟩
theorem wd_240 : Cond.instanceMethod y_X_chooseStream ∈ lw_ok := List.mem_filter.mpr ⟨List.mem_append_right _ (List.mem_of_getElem? (i := 240) (by decide +kernel)), by decide +kernel⟩
theorem wd_241 : Cond.code y_X_chooseStream b_X_chooseStream 6 (some .int) ∈ lw_ok := List.mem_filter.mpr ⟨List.mem_append_right _ (List.mem_of_getElem? (i := 241) (by decide +kernel)), by decide +kernel⟩
theorem wd_242 : Cond.methodLink R_X 162 y_S_isReady ∈ lw_ok := List.mem_filter.mpr ⟨List.mem_append_right _ (List.mem_of_getElem? (i := 242) (by decide +kernel)), by decide +kernel⟩
theorem wd_243 : Cond.instanceMethod y_S_isReady ∈ lw_ok := List.mem_filter.mpr ⟨List.mem_append_right _ (List.mem_of_getElem? (i := 243) (by decide +kernel)), by decide +kernel⟩
theorem wd_244 : Cond.selects R_S y_S_isReady y_S_isReady ∈ lw_ok := List.mem_filter.mpr ⟨List.mem_append_right _ (List.mem_of_getElem? (i := 244) (by decide +kernel)), by decide +kernel⟩
theorem wd_245 : Cond.code y_S_isReady b_S_isReady 4 (some .boolean) ∈ lw_ok := List.mem_filter.mpr ⟨List.mem_append_right _ (List.mem_of_getElem? (i := 245) (by decide +kernel)), by decide +kernel⟩
theorem wd_246 : Cond.methodLink R_S 61 y_U_isEmpty ∈ lw_ok := List.mem_filter.mpr ⟨List.mem_append_right _ (List.mem_of_getElem? (i := 246) (by decide +kernel)), by decide +kernel⟩
theorem wd_247 : Cond.methodLink R_S 54 y_S_isAtStart ∈ lw_ok := List.mem_filter.mpr ⟨List.mem_append_right _ (List.mem_of_getElem? (i := 247) (by decide +kernel)), by decide +kernel⟩
theorem wd_248 : Cond.instanceMethod y_S_isAtStart ∈ lw_ok := List.mem_filter.mpr ⟨List.mem_append_right _ (List.mem_of_getElem? (i := 248) (by decide +kernel)), by decide +kernel⟩
theorem wd_249 : Cond.selects R_S y_S_isAtStart y_S_isAtStart ∈ lw_ok := List.mem_filter.mpr ⟨List.mem_append_right _ (List.mem_of_getElem? (i := 249) (by decide +kernel)), by decide +kernel⟩
theorem wd_250 : Cond.code y_S_isAtStart b_S_isAtStart 1 (some .boolean) ∈ lw_ok := List.mem_filter.mpr ⟨List.mem_append_right _ (List.mem_of_getElem? (i := 250) (by decide +kernel)), by decide +kernel⟩
theorem wd_251 : Cond.methodLink R_S 64 y_U_isFull ∈ lw_ok := List.mem_filter.mpr ⟨List.mem_append_right _ (List.mem_of_getElem? (i := 251) (by decide +kernel)), by decide +kernel⟩
theorem wd_252 : Cond.methodLink R_S 67 y_S_portion ∈ lw_ok := List.mem_filter.mpr ⟨List.mem_append_right _ (List.mem_of_getElem? (i := 252) (by decide +kernel)), by decide +kernel⟩
theorem wd_253 : Cond.instanceMethod y_S_portion ∈ lw_ok := List.mem_filter.mpr ⟨List.mem_append_right _ (List.mem_of_getElem? (i := 253) (by decide +kernel)), by decide +kernel⟩
theorem wd_254 : Cond.selects R_S y_S_portion y_S_portion ∈ lw_ok := List.mem_filter.mpr ⟨List.mem_append_right _ (List.mem_of_getElem? (i := 254) (by decide +kernel)), by decide +kernel⟩
theorem wd_255 : Cond.code y_S_portion b_S_portion 3 (some .int) ∈ lw_ok := List.mem_filter.mpr ⟨List.mem_append_right _ (List.mem_of_getElem? (i := 255) (by decide +kernel)), by decide +kernel⟩
theorem wd_256 : Cond.methodLink R_S 58 Lib.Math.min.name ∈ lw_ok := List.mem_filter.mpr ⟨List.mem_append_right _ (List.mem_of_getElem? (i := 256) (by decide +kernel)), by decide +kernel⟩
theorem wd_257 : Cond.methodLink R_X 166 y_U_firstDue ∈ lw_ok := List.mem_filter.mpr ⟨List.mem_append_right _ (List.mem_of_getElem? (i := 257) (by decide +kernel)), by decide +kernel⟩
theorem wd_258 : Cond.instanceMethod y_U_firstDue ∈ lw_ok := List.mem_filter.mpr ⟨List.mem_append_right _ (List.mem_of_getElem? (i := 258) (by decide +kernel)), by decide +kernel⟩
theorem wd_259 : Cond.selects R_U y_U_firstDue y_U_firstDue ∈ lw_ok := List.mem_filter.mpr ⟨List.mem_append_right _ (List.mem_of_getElem? (i := 259) (by decide +kernel)), by decide +kernel⟩
theorem wd_260 : Cond.code y_U_firstDue b_U_firstDue 1 (some .int) ∈ lw_ok := List.mem_filter.mpr ⟨List.mem_append_right _ (List.mem_of_getElem? (i := 260) (by decide +kernel)), by decide +kernel⟩
theorem wd_261 : Cond.methodLink R_X 151 y_P_clear ∈ lw_ok := List.mem_filter.mpr ⟨List.mem_append_right _ (List.mem_of_getElem? (i := 261) (by decide +kernel)), by decide +kernel⟩
theorem wd_262 : Cond.instanceMethod y_P_clear ∈ lw_ok := List.mem_filter.mpr ⟨List.mem_append_right _ (List.mem_of_getElem? (i := 262) (by decide +kernel)), by decide +kernel⟩
theorem wd_263 : Cond.selects R_P y_P_clear y_P_clear ∈ lw_ok := List.mem_filter.mpr ⟨List.mem_append_right _ (List.mem_of_getElem? (i := 263) (by decide +kernel)), by decide +kernel⟩
theorem wd_264 : Cond.code y_P_clear b_P_clear 2 none ∈ lw_ok := List.mem_filter.mpr ⟨List.mem_append_right _ (List.mem_of_getElem? (i := 264) (by decide +kernel)), by decide +kernel⟩
theorem wd_265 : Cond.methodLink R_X 154 y_X_fillPacket ∈ lw_ok := List.mem_filter.mpr ⟨List.mem_append_right _ (List.mem_of_getElem? (i := 265) (by decide +kernel)), by decide +kernel⟩
theorem wd_267 : Cond.instanceMethod y_X_fillPacket ∈ lw_ok := List.mem_filter.mpr ⟨List.mem_append_right _ (List.mem_of_getElem? (i := 267) (by decide +kernel)), by decide +kernel⟩
theorem wd_268 : Cond.code y_X_fillPacket b_X_fillPacket 4 none ∈ lw_ok := List.mem_filter.mpr ⟨List.mem_append_right _ (List.mem_of_getElem? (i := 268) (by decide +kernel)), by decide +kernel⟩
theorem wd_269 : Cond.methodLink R_X 170 y_S_isAtStart ∈ lw_ok := List.mem_filter.mpr ⟨List.mem_append_right _ (List.mem_of_getElem? (i := 269) (by decide +kernel)), by decide +kernel⟩
theorem wd_270 : Cond.methodLink R_X 173 y_S_takeCounter ∈ lw_ok := List.mem_filter.mpr ⟨List.mem_append_right _ (List.mem_of_getElem? (i := 270) (by decide +kernel)), by decide +kernel⟩
theorem wd_271 : Cond.instanceMethod y_S_takeCounter ∈ lw_ok := List.mem_filter.mpr ⟨List.mem_append_right _ (List.mem_of_getElem? (i := 271) (by decide +kernel)), by decide +kernel⟩
theorem wd_272 : Cond.selects R_S y_S_takeCounter y_S_takeCounter ∈ lw_ok := List.mem_filter.mpr ⟨List.mem_append_right _ (List.mem_of_getElem? (i := 272) (by decide +kernel)), by decide +kernel⟩
theorem wd_273 : Cond.code y_S_takeCounter b_S_takeCounter 2 (some .int) ∈ lw_ok := List.mem_filter.mpr ⟨List.mem_append_right _ (List.mem_of_getElem? (i := 273) (by decide +kernel)), by decide +kernel⟩
theorem wd_274 : Cond.methodLink R_X 158 y_X_putHead ∈ lw_ok := List.mem_filter.mpr ⟨List.mem_append_right _ (List.mem_of_getElem? (i := 274) (by decide +kernel)), by decide +kernel⟩
theorem wd_276 : Cond.instanceMethod y_X_putHead ∈ lw_ok := List.mem_filter.mpr ⟨List.mem_append_right _ (List.mem_of_getElem? (i := 276) (by decide +kernel)), by decide +kernel⟩
theorem wd_277 : Cond.code y_X_putHead b_X_putHead 5 none ∈ lw_ok := List.mem_filter.mpr ⟨List.mem_append_right _ (List.mem_of_getElem? (i := 277) (by decide +kernel)), by decide +kernel⟩
theorem wd_278 : Cond.methodLink R_X 179 y_P_put ∈ lw_ok := List.mem_filter.mpr ⟨List.mem_append_right _ (List.mem_of_getElem? (i := 278) (by decide +kernel)), by decide +kernel⟩
theorem wd_279 : Cond.instanceMethod y_P_put ∈ lw_ok := List.mem_filter.mpr ⟨List.mem_append_right _ (List.mem_of_getElem? (i := 279) (by decide +kernel)), by decide +kernel⟩
theorem wd_280 : Cond.selects R_P y_P_put y_P_put ∈ lw_ok := List.mem_filter.mpr ⟨List.mem_append_right _ (List.mem_of_getElem? (i := 280) (by decide +kernel)), by decide +kernel⟩
theorem wd_281 : Cond.code y_P_put b_P_put 2 none ∈ lw_ok := List.mem_filter.mpr ⟨List.mem_append_right _ (List.mem_of_getElem? (i := 281) (by decide +kernel)), by decide +kernel⟩
theorem wd_282 : Cond.methodLink R_X 183 y_P_putTime ∈ lw_ok := List.mem_filter.mpr ⟨List.mem_append_right _ (List.mem_of_getElem? (i := 282) (by decide +kernel)), by decide +kernel⟩
theorem wd_283 : Cond.instanceMethod y_P_putTime ∈ lw_ok := List.mem_filter.mpr ⟨List.mem_append_right _ (List.mem_of_getElem? (i := 283) (by decide +kernel)), by decide +kernel⟩
theorem wd_284 : Cond.selects R_P y_P_putTime y_P_putTime ∈ lw_ok := List.mem_filter.mpr ⟨List.mem_append_right _ (List.mem_of_getElem? (i := 284) (by decide +kernel)), by decide +kernel⟩
theorem wd_285 : Cond.code y_P_putTime b_P_putTime 2 none ∈ lw_ok := List.mem_filter.mpr ⟨List.mem_append_right _ (List.mem_of_getElem? (i := 285) (by decide +kernel)), by decide +kernel⟩
theorem wd_286 : Cond.methodLink R_P 19 y_P_put ∈ lw_ok := List.mem_filter.mpr ⟨List.mem_append_right _ (List.mem_of_getElem? (i := 286) (by decide +kernel)), by decide +kernel⟩
theorem wd_287 : Cond.methodLink R_X 176 y_U_firstSize ∈ lw_ok := List.mem_filter.mpr ⟨List.mem_append_right _ (List.mem_of_getElem? (i := 287) (by decide +kernel)), by decide +kernel⟩
theorem wd_288 : Cond.methodLink R_X 186 y_S_portion ∈ lw_ok := List.mem_filter.mpr ⟨List.mem_append_right _ (List.mem_of_getElem? (i := 288) (by decide +kernel)), by decide +kernel⟩
theorem wd_289 : Cond.methodLink R_X 189 y_S_sendBytes ∈ lw_ok := List.mem_filter.mpr ⟨List.mem_append_right _ (List.mem_of_getElem? (i := 289) (by decide +kernel)), by decide +kernel⟩
theorem wd_290 : Cond.instanceMethod y_S_sendBytes ∈ lw_ok := List.mem_filter.mpr ⟨List.mem_append_right _ (List.mem_of_getElem? (i := 290) (by decide +kernel)), by decide +kernel⟩
theorem wd_291 : Cond.selects R_S y_S_sendBytes y_S_sendBytes ∈ lw_ok := List.mem_filter.mpr ⟨List.mem_append_right _ (List.mem_of_getElem? (i := 291) (by decide +kernel)), by decide +kernel⟩
theorem wd_292 : Cond.code y_S_sendBytes b_S_sendBytes 4 none ∈ lw_ok := List.mem_filter.mpr ⟨List.mem_append_right _ (List.mem_of_getElem? (i := 292) (by decide +kernel)), by decide +kernel⟩
theorem wd_293 : Cond.methodLink R_S 74 y_U_firstSeed ∈ lw_ok := List.mem_filter.mpr ⟨List.mem_append_right _ (List.mem_of_getElem? (i := 293) (by decide +kernel)), by decide +kernel⟩
theorem wd_294 : Cond.instanceMethod y_U_firstSeed ∈ lw_ok := List.mem_filter.mpr ⟨List.mem_append_right _ (List.mem_of_getElem? (i := 294) (by decide +kernel)), by decide +kernel⟩
theorem wd_295 : Cond.selects R_U y_U_firstSeed y_U_firstSeed ∈ lw_ok := List.mem_filter.mpr ⟨List.mem_append_right _ (List.mem_of_getElem? (i := 295) (by decide +kernel)), by decide +kernel⟩
theorem wd_296 : Cond.code y_U_firstSeed b_U_firstSeed 1 (some .int) ∈ lw_ok := List.mem_filter.mpr ⟨List.mem_append_right _ (List.mem_of_getElem? (i := 296) (by decide +kernel)), by decide +kernel⟩
theorem wd_297 : Cond.methodLink R_S 77 y_P_put ∈ lw_ok := List.mem_filter.mpr ⟨List.mem_append_right _ (List.mem_of_getElem? (i := 297) (by decide +kernel)), by decide +kernel⟩
theorem wd_298 : Cond.methodLink R_S 83 y_U_firstDue ∈ lw_ok := List.mem_filter.mpr ⟨List.mem_append_right _ (List.mem_of_getElem? (i := 298) (by decide +kernel)), by decide +kernel⟩
theorem wd_299 : Cond.methodLink R_S 86 y_U_append ∈ lw_ok := List.mem_filter.mpr ⟨List.mem_append_right _ (List.mem_of_getElem? (i := 299) (by decide +kernel)), by decide +kernel⟩
theorem wd_300 : Cond.methodLink R_X 79 y_R_take ∈ lw_ok := List.mem_filter.mpr ⟨List.mem_append_right _ (List.mem_of_getElem? (i := 300) (by decide +kernel)), by decide +kernel⟩
theorem wd_301 : Cond.instanceMethod y_R_take ∈ lw_ok := List.mem_filter.mpr ⟨List.mem_append_right _ (List.mem_of_getElem? (i := 301) (by decide +kernel)), by decide +kernel⟩
theorem wd_302 : Cond.selects R_R y_R_take y_R_take ∈ lw_ok := List.mem_filter.mpr ⟨List.mem_append_right _ (List.mem_of_getElem? (i := 302) (by decide +kernel)), by decide +kernel⟩
theorem wd_303 : Cond.code y_R_take b_R_take 5 none ∈ lw_ok := List.mem_filter.mpr ⟨List.mem_append_right _ (List.mem_of_getElem? (i := 303) (by decide +kernel)), by decide +kernel⟩
theorem wd_304 : Cond.methodLink R_R 33 y_P_byteAt ∈ lw_ok := List.mem_filter.mpr ⟨List.mem_append_right _ (List.mem_of_getElem? (i := 304) (by decide +kernel)), by decide +kernel⟩
theorem wd_305 : Cond.instanceMethod y_P_byteAt ∈ lw_ok := List.mem_filter.mpr ⟨List.mem_append_right _ (List.mem_of_getElem? (i := 305) (by decide +kernel)), by decide +kernel⟩
theorem wd_306 : Cond.selects R_P y_P_byteAt y_P_byteAt ∈ lw_ok := List.mem_filter.mpr ⟨List.mem_append_right _ (List.mem_of_getElem? (i := 306) (by decide +kernel)), by decide +kernel⟩
theorem wd_307 : Cond.code y_P_byteAt b_P_byteAt 2 (some .int) ∈ lw_ok := List.mem_filter.mpr ⟨List.mem_append_right _ (List.mem_of_getElem? (i := 307) (by decide +kernel)), by decide +kernel⟩
theorem wd_309 : Cond.static y_X_isPacketIndex ∈ lw_ok := List.mem_filter.mpr ⟨List.mem_append_right _ (List.mem_of_getElem? (i := 309) (by decide +kernel)), by decide +kernel⟩
theorem wd_310 : Cond.code y_X_isPacketIndex b_X_isPacketIndex 1 (some .boolean) ∈ lw_ok := List.mem_filter.mpr ⟨List.mem_append_right _ (List.mem_of_getElem? (i := 310) (by decide +kernel)), by decide +kernel⟩
theorem wd_311 : Cond.methodLink R_R 39 y_R_advanceClock ∈ lw_ok := List.mem_filter.mpr ⟨List.mem_append_right _ (List.mem_of_getElem? (i := 311) (by decide +kernel)), by decide +kernel⟩
theorem wd_313 : Cond.instanceMethod y_R_advanceClock ∈ lw_ok := List.mem_filter.mpr ⟨List.mem_append_right _ (List.mem_of_getElem? (i := 313) (by decide +kernel)), by decide +kernel⟩
theorem wd_314 : Cond.code y_R_advanceClock b_R_advanceClock 1 none ∈ lw_ok := List.mem_filter.mpr ⟨List.mem_append_right _ (List.mem_of_getElem? (i := 314) (by decide +kernel)), by decide +kernel⟩
theorem wd_315 : Cond.constant R_R 83 65536 ∈ lw_ok := List.mem_filter.mpr ⟨List.mem_append_right _ (List.mem_of_getElem? (i := 315) (by decide +kernel)), by decide +kernel⟩
theorem wd_316 : Cond.methodLink R_R 42 y_P_timeAt ∈ lw_ok := List.mem_filter.mpr ⟨List.mem_append_right _ (List.mem_of_getElem? (i := 316) (by decide +kernel)), by decide +kernel⟩
theorem wd_317 : Cond.instanceMethod y_P_timeAt ∈ lw_ok := List.mem_filter.mpr ⟨List.mem_append_right _ (List.mem_of_getElem? (i := 317) (by decide +kernel)), by decide +kernel⟩
theorem wd_318 : Cond.selects R_P y_P_timeAt y_P_timeAt ∈ lw_ok := List.mem_filter.mpr ⟨List.mem_append_right _ (List.mem_of_getElem? (i := 318) (by decide +kernel)), by decide +kernel⟩
theorem wd_319 : Cond.code y_P_timeAt b_P_timeAt 2 (some .int) ∈ lw_ok := List.mem_filter.mpr ⟨List.mem_append_right _ (List.mem_of_getElem? (i := 319) (by decide +kernel)), by decide +kernel⟩
theorem wd_320 : Cond.methodLink R_P 27 y_P_byteAt ∈ lw_ok := List.mem_filter.mpr ⟨List.mem_append_right _ (List.mem_of_getElem? (i := 320) (by decide +kernel)), by decide +kernel⟩
theorem wd_322 : Cond.methodLink R_R 49 y_R_takeOfStream ∈ lw_ok := List.mem_filter.mpr ⟨List.mem_append_right _ (List.mem_of_getElem? (i := 322) (by decide +kernel)), by decide +kernel⟩
theorem wd_324 : Cond.instanceMethod y_R_takeOfStream ∈ lw_ok := List.mem_filter.mpr ⟨List.mem_append_right _ (List.mem_of_getElem? (i := 324) (by decide +kernel)), by decide +kernel⟩
theorem wd_325 : Cond.code y_R_takeOfStream b_R_takeOfStream 6 none ∈ lw_ok := List.mem_filter.mpr ⟨List.mem_append_right _ (List.mem_of_getElem? (i := 325) (by decide +kernel)), by decide +kernel⟩
theorem wd_326 : Cond.methodLink R_R 53 y_C_noteCounter ∈ lw_ok := List.mem_filter.mpr ⟨List.mem_append_right _ (List.mem_of_getElem? (i := 326) (by decide +kernel)), by decide +kernel⟩
theorem wd_327 : Cond.instanceMethod y_C_noteCounter ∈ lw_ok := List.mem_filter.mpr ⟨List.mem_append_right _ (List.mem_of_getElem? (i := 327) (by decide +kernel)), by decide +kernel⟩
theorem wd_328 : Cond.selects R_C y_C_noteCounter y_C_noteCounter ∈ lw_ok := List.mem_filter.mpr ⟨List.mem_append_right _ (List.mem_of_getElem? (i := 328) (by decide +kernel)), by decide +kernel⟩
theorem wd_329 : Cond.code y_C_noteCounter b_C_noteCounter 3 (some .boolean) ∈ lw_ok := List.mem_filter.mpr ⟨List.mem_append_right _ (List.mem_of_getElem? (i := 329) (by decide +kernel)), by decide +kernel⟩
theorem wd_330 : Cond.methodLink R_R 56 y_R_breakUnit ∈ lw_ok := List.mem_filter.mpr ⟨List.mem_append_right _ (List.mem_of_getElem? (i := 330) (by decide +kernel)), by decide +kernel⟩
theorem wd_332 : Cond.instanceMethod y_R_breakUnit ∈ lw_ok := List.mem_filter.mpr ⟨List.mem_append_right _ (List.mem_of_getElem? (i := 332) (by decide +kernel)), by decide +kernel⟩
theorem wd_333 : Cond.code y_R_breakUnit b_R_breakUnit 2 none ∈ lw_ok := List.mem_filter.mpr ⟨List.mem_append_right _ (List.mem_of_getElem? (i := 333) (by decide +kernel)), by decide +kernel⟩
theorem wd_334 : Cond.methodLink R_R 60 y_R_beginUnit ∈ lw_ok := List.mem_filter.mpr ⟨List.mem_append_right _ (List.mem_of_getElem? (i := 334) (by decide +kernel)), by decide +kernel⟩
theorem wd_336 : Cond.instanceMethod y_R_beginUnit ∈ lw_ok := List.mem_filter.mpr ⟨List.mem_append_right _ (List.mem_of_getElem? (i := 336) (by decide +kernel)), by decide +kernel⟩
theorem wd_337 : Cond.code y_R_beginUnit b_R_beginUnit 5 none ∈ lw_ok := List.mem_filter.mpr ⟨List.mem_append_right _ (List.mem_of_getElem? (i := 337) (by decide +kernel)), by decide +kernel⟩
theorem wd_338 : Cond.methodLink R_R 73 y_C_begin ∈ lw_ok := List.mem_filter.mpr ⟨List.mem_append_right _ (List.mem_of_getElem? (i := 338) (by decide +kernel)), by decide +kernel⟩
theorem wd_339 : Cond.instanceMethod y_C_begin ∈ lw_ok := List.mem_filter.mpr ⟨List.mem_append_right _ (List.mem_of_getElem? (i := 339) (by decide +kernel)), by decide +kernel⟩
theorem wd_340 : Cond.selects R_C y_C_begin y_C_begin ∈ lw_ok := List.mem_filter.mpr ⟨List.mem_append_right _ (List.mem_of_getElem? (i := 340) (by decide +kernel)), by decide +kernel⟩
theorem wd_341 : Cond.code y_C_begin b_C_begin 3 none ∈ lw_ok := List.mem_filter.mpr ⟨List.mem_append_right _ (List.mem_of_getElem? (i := 341) (by decide +kernel)), by decide +kernel⟩
theorem wd_342 : Cond.methodLink R_R 66 y_C_fill ∈ lw_ok := List.mem_filter.mpr ⟨List.mem_append_right _ (List.mem_of_getElem? (i := 342) (by decide +kernel)), by decide +kernel⟩
theorem wd_343 : Cond.instanceMethod y_C_fill ∈ lw_ok := List.mem_filter.mpr ⟨List.mem_append_right _ (List.mem_of_getElem? (i := 343) (by decide +kernel)), by decide +kernel⟩
theorem wd_344 : Cond.selects R_C y_C_fill y_C_fill ∈ lw_ok := List.mem_filter.mpr ⟨List.mem_append_right _ (List.mem_of_getElem? (i := 344) (by decide +kernel)), by decide +kernel⟩
theorem wd_345 : Cond.code y_C_fill b_C_fill 4 (some .boolean) ∈ lw_ok := List.mem_filter.mpr ⟨List.mem_append_right _ (List.mem_of_getElem? (i := 345) (by decide +kernel)), by decide +kernel⟩
theorem wd_346 : Cond.methodLink R_C 41 y_P_byteAt ∈ lw_ok := List.mem_filter.mpr ⟨List.mem_append_right _ (List.mem_of_getElem? (i := 346) (by decide +kernel)), by decide +kernel⟩
theorem wd_347 : Cond.methodLink R_R 70 y_R_finishUnit ∈ lw_ok := List.mem_filter.mpr ⟨List.mem_append_right _ (List.mem_of_getElem? (i := 347) (by decide +kernel)), by decide +kernel⟩
theorem wd_349 : Cond.instanceMethod y_R_finishUnit ∈ lw_ok := List.mem_filter.mpr ⟨List.mem_append_right _ (List.mem_of_getElem? (i := 349) (by decide +kernel)), by decide +kernel⟩
theorem wd_350 : Cond.code y_R_finishUnit b_R_finishUnit 3 none ∈ lw_ok := List.mem_filter.mpr ⟨List.mem_append_right _ (List.mem_of_getElem? (i := 350) (by decide +kernel)), by decide +kernel⟩
theorem wd_351 : Cond.methodLink R_R 77 y_C_keepAsLatest ∈ lw_ok := List.mem_filter.mpr ⟨List.mem_append_right _ (List.mem_of_getElem? (i := 351) (by decide +kernel)), by decide +kernel⟩
theorem wd_352 : Cond.instanceMethod y_C_keepAsLatest ∈ lw_ok := List.mem_filter.mpr ⟨List.mem_append_right _ (List.mem_of_getElem? (i := 352) (by decide +kernel)), by decide +kernel⟩
theorem wd_353 : Cond.selects R_C y_C_keepAsLatest y_C_keepAsLatest ∈ lw_ok := List.mem_filter.mpr ⟨List.mem_append_right _ (List.mem_of_getElem? (i := 353) (by decide +kernel)), by decide +kernel⟩
theorem wd_354 : Cond.code y_C_keepAsLatest b_C_keepAsLatest 2 none ∈ lw_ok := List.mem_filter.mpr ⟨List.mem_append_right _ (List.mem_of_getElem? (i := 354) (by decide +kernel)), by decide +kernel⟩
theorem wd_355 : Cond.methodLink R_R 84 y_J_floorMod ∈ lw_ok := List.mem_filter.mpr ⟨List.mem_append_right _ (List.mem_of_getElem? (i := 355) (by decide +kernel)), by decide +kernel⟩
theorem wd_356 : Cond.static y_J_floorMod ∈ lw_ok := List.mem_filter.mpr ⟨List.mem_append_right _ (List.mem_of_getElem? (i := 356) (by decide +kernel)), by decide +kernel⟩
theorem wd_357 : Cond.code y_J_floorMod b_J_floorMod 3 (some .int) ∈ lw_ok := List.mem_filter.mpr ⟨List.mem_append_right _ (List.mem_of_getElem? (i := 357) (by decide +kernel)), by decide +kernel⟩
theorem wd_366 : Cond.methodLink R_X 83 y_X_isPacketIndex ∈ lw_ok := List.mem_filter.mpr ⟨List.mem_append_right _ (List.mem_of_getElem? (i := 366) (by decide +kernel)), by decide +kernel⟩
theorem wd_367 : Cond.methodLink R_X 86 y_P_copyFrom ∈ lw_ok := List.mem_filter.mpr ⟨List.mem_append_right _ (List.mem_of_getElem? (i := 367) (by decide +kernel)), by decide +kernel⟩
theorem wd_368 : Cond.instanceMethod y_P_copyFrom ∈ lw_ok := List.mem_filter.mpr ⟨List.mem_append_right _ (List.mem_of_getElem? (i := 368) (by decide +kernel)), by decide +kernel⟩
theorem wd_369 : Cond.selects R_P y_P_copyFrom y_P_copyFrom ∈ lw_ok := List.mem_filter.mpr ⟨List.mem_append_right _ (List.mem_of_getElem? (i := 369) (by decide +kernel)), by decide +kernel⟩
theorem wd_370 : Cond.code y_P_copyFrom b_P_copyFrom 3 none ∈ lw_ok := List.mem_filter.mpr ⟨List.mem_append_right _ (List.mem_of_getElem? (i := 370) (by decide +kernel)), by decide +kernel⟩
theorem wd_371 : Cond.methodLink R_X 89 y_P_flip ∈ lw_ok := List.mem_filter.mpr ⟨List.mem_append_right _ (List.mem_of_getElem? (i := 371) (by decide +kernel)), by decide +kernel⟩
theorem wd_372 : Cond.instanceMethod y_P_flip ∈ lw_ok := List.mem_filter.mpr ⟨List.mem_append_right _ (List.mem_of_getElem? (i := 372) (by decide +kernel)), by decide +kernel⟩
theorem wd_373 : Cond.selects R_P y_P_flip y_P_flip ∈ lw_ok := List.mem_filter.mpr ⟨List.mem_append_right _ (List.mem_of_getElem? (i := 373) (by decide +kernel)), by decide +kernel⟩
theorem wd_374 : Cond.code y_P_flip b_P_flip 3 none ∈ lw_ok := List.mem_filter.mpr ⟨List.mem_append_right _ (List.mem_of_getElem? (i := 374) (by decide +kernel)), by decide +kernel⟩
theorem wd_379 : Cond.methodLink R_X 97 y_P_byteAt ∈ lw_ok := List.mem_filter.mpr ⟨List.mem_append_right _ (List.mem_of_getElem? (i := 379) (by decide +kernel)), by decide +kernel⟩
theorem wd_404 : Cond.methodLink R_X 119 y_R_reset ∈ lw_ok := List.mem_filter.mpr ⟨List.mem_append_right _ (List.mem_of_getElem? (i := 404) (by decide +kernel)), by decide +kernel⟩
theorem wd_405 : Cond.instanceMethod y_R_reset ∈ lw_ok := List.mem_filter.mpr ⟨List.mem_append_right _ (List.mem_of_getElem? (i := 405) (by decide +kernel)), by decide +kernel⟩
theorem wd_406 : Cond.selects R_R y_R_reset y_R_reset ∈ lw_ok := List.mem_filter.mpr ⟨List.mem_append_right _ (List.mem_of_getElem? (i := 406) (by decide +kernel)), by decide +kernel⟩
theorem wd_407 : Cond.code y_R_reset b_R_reset 2 none ∈ lw_ok := List.mem_filter.mpr ⟨List.mem_append_right _ (List.mem_of_getElem? (i := 407) (by decide +kernel)), by decide +kernel⟩
theorem wd_408 : Cond.methodLink R_R 30 y_C_reset ∈ lw_ok := List.mem_filter.mpr ⟨List.mem_append_right _ (List.mem_of_getElem? (i := 408) (by decide +kernel)), by decide +kernel⟩
theorem wd_409 : Cond.instanceMethod y_C_reset ∈ lw_ok := List.mem_filter.mpr ⟨List.mem_append_right _ (List.mem_of_getElem? (i := 409) (by decide +kernel)), by decide +kernel⟩
theorem wd_410 : Cond.selects R_C y_C_reset y_C_reset ∈ lw_ok := List.mem_filter.mpr ⟨List.mem_append_right _ (List.mem_of_getElem? (i := 410) (by decide +kernel)), by decide +kernel⟩
theorem wd_411 : Cond.code y_C_reset b_C_reset 1 none ∈ lw_ok := List.mem_filter.mpr ⟨List.mem_append_right _ (List.mem_of_getElem? (i := 411) (by decide +kernel)), by decide +kernel⟩
theorem wd_433 : Cond.fieldLink R_M 83 R_M "leak" "I" ∈ lw_ok := List.mem_filter.mpr ⟨List.mem_append_right _ (List.mem_of_getElem? (i := 433) (by decide +kernel)), by decide +kernel⟩
theorem wd_434 : Cond.fieldLink R_M 87 R_M "capacity" "I" ∈ lw_ok := List.mem_filter.mpr ⟨List.mem_append_right _ (List.mem_of_getElem? (i := 434) (by decide +kernel)), by decide +kernel⟩
theorem wd_435 : Cond.fieldLink R_M 94 R_M "time" "I" ∈ lw_ok := List.mem_filter.mpr ⟨List.mem_append_right _ (List.mem_of_getElem? (i := 435) (by decide +kernel)), by decide +kernel⟩
theorem wd_436 : Cond.fieldLink R_M 7 R_M "low" "[I" ∈ lw_ok := List.mem_filter.mpr ⟨List.mem_append_right _ (List.mem_of_getElem? (i := 436) (by decide +kernel)), by decide +kernel⟩
theorem wd_437 : Cond.fieldLink R_M 13 R_M "sizes" "[I" ∈ lw_ok := List.mem_filter.mpr ⟨List.mem_append_right _ (List.mem_of_getElem? (i := 437) (by decide +kernel)), by decide +kernel⟩
theorem wd_438 : Cond.fieldLink R_M 16 R_M "dues" "[I" ∈ lw_ok := List.mem_filter.mpr ⟨List.mem_append_right _ (List.mem_of_getElem? (i := 438) (by decide +kernel)), by decide +kernel⟩
theorem wd_439 : Cond.fieldLink R_M 19 R_M "seeds" "[I" ∈ lw_ok := List.mem_filter.mpr ⟨List.mem_append_right _ (List.mem_of_getElem? (i := 439) (by decide +kernel)), by decide +kernel⟩
theorem wd_440 : Cond.fieldLink R_M 22 R_M "added" "[I" ∈ lw_ok := List.mem_filter.mpr ⟨List.mem_append_right _ (List.mem_of_getElem? (i := 440) (by decide +kernel)), by decide +kernel⟩
theorem wd_441 : Cond.fieldLink R_M 25 R_M "alive" "[I" ∈ lw_ok := List.mem_filter.mpr ⟨List.mem_append_right _ (List.mem_of_getElem? (i := 441) (by decide +kernel)), by decide +kernel⟩
theorem wd_442 : Cond.fieldLink R_M 28 R_M "current" "[I" ∈ lw_ok := List.mem_filter.mpr ⟨List.mem_append_right _ (List.mem_of_getElem? (i := 442) (by decide +kernel)), by decide +kernel⟩
theorem wd_443 : Cond.fieldLink R_M 31 R_M "sent" "[I" ∈ lw_ok := List.mem_filter.mpr ⟨List.mem_append_right _ (List.mem_of_getElem? (i := 443) (by decide +kernel)), by decide +kernel⟩
theorem wd_444 : Cond.fieldLink R_M 34 R_M "lates" "[I" ∈ lw_ok := List.mem_filter.mpr ⟨List.mem_append_right _ (List.mem_of_getElem? (i := 444) (by decide +kernel)), by decide +kernel⟩
theorem wd_445 : Cond.fieldLink R_M 37 R_M "next" "[I" ∈ lw_ok := List.mem_filter.mpr ⟨List.mem_append_right _ (List.mem_of_getElem? (i := 445) (by decide +kernel)), by decide +kernel⟩
theorem wd_446 : Cond.fieldLink R_M 119 R_M "any" "Z" ∈ lw_ok := List.mem_filter.mpr ⟨List.mem_append_right _ (List.mem_of_getElem? (i := 446) (by decide +kernel)), by decide +kernel⟩
theorem wd_447 : Cond.fieldLink R_M 40 R_M "packet" "[I" ∈ lw_ok := List.mem_filter.mpr ⟨List.mem_append_right _ (List.mem_of_getElem? (i := 447) (by decide +kernel)), by decide +kernel⟩
theorem wd_448 : Cond.fieldLink R_M 43 R_M "heard" "[I" ∈ lw_ok := List.mem_filter.mpr ⟨List.mem_append_right _ (List.mem_of_getElem? (i := 448) (by decide +kernel)), by decide +kernel⟩
theorem wd_449 : Cond.fieldLink R_M 137 R_M "known" "Z" ∈ lw_ok := List.mem_filter.mpr ⟨List.mem_append_right _ (List.mem_of_getElem? (i := 449) (by decide +kernel)), by decide +kernel⟩
theorem wd_450 : Cond.fieldLink R_M 134 R_M "clock" "I" ∈ lw_ok := List.mem_filter.mpr ⟨List.mem_append_right _ (List.mem_of_getElem? (i := 450) (by decide +kernel)), by decide +kernel⟩
theorem wd_451 : Cond.fieldLink R_M 46 R_M "came" "[Z" ∈ lw_ok := List.mem_filter.mpr ⟨List.mem_append_right _ (List.mem_of_getElem? (i := 451) (by decide +kernel)), by decide +kernel⟩
theorem wd_452 : Cond.fieldLink R_M 50 R_M "counter" "[I" ∈ lw_ok := List.mem_filter.mpr ⟨List.mem_append_right _ (List.mem_of_getElem? (i := 452) (by decide +kernel)), by decide +kernel⟩
theorem wd_453 : Cond.fieldLink R_M 53 R_M "collects" "[Z" ∈ lw_ok := List.mem_filter.mpr ⟨List.mem_append_right _ (List.mem_of_getElem? (i := 453) (by decide +kernel)), by decide +kernel⟩
theorem wd_454 : Cond.fieldLink R_M 56 R_M "have" "[I" ∈ lw_ok := List.mem_filter.mpr ⟨List.mem_append_right _ (List.mem_of_getElem? (i := 454) (by decide +kernel)), by decide +kernel⟩
theorem wd_455 : Cond.fieldLink R_M 59 R_M "want" "[I" ∈ lw_ok := List.mem_filter.mpr ⟨List.mem_append_right _ (List.mem_of_getElem? (i := 455) (by decide +kernel)), by decide +kernel⟩
theorem wd_456 : Cond.fieldLink R_M 62 R_M "wantDue" "[I" ∈ lw_ok := List.mem_filter.mpr ⟨List.mem_append_right _ (List.mem_of_getElem? (i := 456) (by decide +kernel)), by decide +kernel⟩
theorem wd_457 : Cond.fieldLink R_M 65 R_M "bytes" "[I" ∈ lw_ok := List.mem_filter.mpr ⟨List.mem_append_right _ (List.mem_of_getElem? (i := 457) (by decide +kernel)), by decide +kernel⟩
theorem wd_458 : Cond.fieldLink R_M 68 R_M "last" "[I" ∈ lw_ok := List.mem_filter.mpr ⟨List.mem_append_right _ (List.mem_of_getElem? (i := 458) (by decide +kernel)), by decide +kernel⟩
theorem wd_459 : Cond.fieldLink R_M 71 R_M "lastSize" "[I" ∈ lw_ok := List.mem_filter.mpr ⟨List.mem_append_right _ (List.mem_of_getElem? (i := 459) (by decide +kernel)), by decide +kernel⟩
theorem wd_460 : Cond.fieldLink R_M 74 R_M "lastDue" "[I" ∈ lw_ok := List.mem_filter.mpr ⟨List.mem_append_right _ (List.mem_of_getElem? (i := 460) (by decide +kernel)), by decide +kernel⟩
theorem wd_461 : Cond.fieldLink R_M 77 R_M "arrived" "[I" ∈ lw_ok := List.mem_filter.mpr ⟨List.mem_append_right _ (List.mem_of_getElem? (i := 461) (by decide +kernel)), by decide +kernel⟩
theorem wd_462 : Cond.fieldLink R_M 80 R_M "counts" "[I" ∈ lw_ok := List.mem_filter.mpr ⟨List.mem_append_right _ (List.mem_of_getElem? (i := 462) (by decide +kernel)), by decide +kernel⟩
theorem wd_529 : Cond.methodLink R_M 90 y_M_within ∈ lw_ok := List.mem_filter.mpr ⟨List.mem_append_right _ (List.mem_of_getElem? (i := 529) (by decide +kernel)), by decide +kernel⟩
theorem wd_530 : Cond.static y_M_within ∈ lw_ok := List.mem_filter.mpr ⟨List.mem_append_right _ (List.mem_of_getElem? (i := 530) (by decide +kernel)), by decide +kernel⟩
theorem wd_531 : Cond.code y_M_within b_M_within 3 (some .boolean) ∈ lw_ok := List.mem_filter.mpr ⟨List.mem_append_right _ (List.mem_of_getElem? (i := 531) (by decide +kernel)), by decide +kernel⟩
theorem wd_536 : Cond.methodLink R_M 130 y_M_ticks ∈ lw_ok := List.mem_filter.mpr ⟨List.mem_append_right _ (List.mem_of_getElem? (i := 536) (by decide +kernel)), by decide +kernel⟩
theorem wd_538 : Cond.instanceMethod y_M_ticks ∈ lw_ok := List.mem_filter.mpr ⟨List.mem_append_right _ (List.mem_of_getElem? (i := 538) (by decide +kernel)), by decide +kernel⟩
theorem wd_539 : Cond.code y_M_ticks b_M_ticks 4 (some .int) ∈ lw_ok := List.mem_filter.mpr ⟨List.mem_append_right _ (List.mem_of_getElem? (i := 539) (by decide +kernel)), by decide +kernel⟩
theorem wd_540 : Cond.methodLink R_M 123 y_M_oneTick ∈ lw_ok := List.mem_filter.mpr ⟨List.mem_append_right _ (List.mem_of_getElem? (i := 540) (by decide +kernel)), by decide +kernel⟩
theorem wd_542 : Cond.instanceMethod y_M_oneTick ∈ lw_ok := List.mem_filter.mpr ⟨List.mem_append_right _ (List.mem_of_getElem? (i := 542) (by decide +kernel)), by decide +kernel⟩
theorem wd_543 : Cond.code y_M_oneTick b_M_oneTick 2 none ∈ lw_ok := List.mem_filter.mpr ⟨List.mem_append_right _ (List.mem_of_getElem? (i := 543) (by decide +kernel)), by decide +kernel⟩
theorem wd_544 : Cond.methodLink R_M 112 y_M_goOn ∈ lw_ok := List.mem_filter.mpr ⟨List.mem_append_right _ (List.mem_of_getElem? (i := 544) (by decide +kernel)), by decide +kernel⟩
theorem wd_546 : Cond.instanceMethod y_M_goOn ∈ lw_ok := List.mem_filter.mpr ⟨List.mem_append_right _ (List.mem_of_getElem? (i := 546) (by decide +kernel)), by decide +kernel⟩
theorem wd_547 : Cond.code y_M_goOn b_M_goOn 3 none ∈ lw_ok := List.mem_filter.mpr ⟨List.mem_append_right _ (List.mem_of_getElem? (i := 547) (by decide +kernel)), by decide +kernel⟩
theorem wd_548 : Cond.methodLink R_M 116 y_M_make ∈ lw_ok := List.mem_filter.mpr ⟨List.mem_append_right _ (List.mem_of_getElem? (i := 548) (by decide +kernel)), by decide +kernel⟩
theorem wd_550 : Cond.instanceMethod y_M_make ∈ lw_ok := List.mem_filter.mpr ⟨List.mem_append_right _ (List.mem_of_getElem? (i := 550) (by decide +kernel)), by decide +kernel⟩
theorem wd_551 : Cond.code y_M_make b_M_make 8 none ∈ lw_ok := List.mem_filter.mpr ⟨List.mem_append_right _ (List.mem_of_getElem? (i := 551) (by decide +kernel)), by decide +kernel⟩
theorem wd_552 : Cond.methodLink R_M 108 y_M_chosen ∈ lw_ok := List.mem_filter.mpr ⟨List.mem_append_right _ (List.mem_of_getElem? (i := 552) (by decide +kernel)), by decide +kernel⟩
theorem wd_554 : Cond.instanceMethod y_M_chosen ∈ lw_ok := List.mem_filter.mpr ⟨List.mem_append_right _ (List.mem_of_getElem? (i := 554) (by decide +kernel)), by decide +kernel⟩
theorem wd_555 : Cond.code y_M_chosen b_M_chosen 6 (some .int) ∈ lw_ok := List.mem_filter.mpr ⟨List.mem_append_right _ (List.mem_of_getElem? (i := 555) (by decide +kernel)), by decide +kernel⟩
theorem wd_556 : Cond.methodLink R_M 104 y_M_ready ∈ lw_ok := List.mem_filter.mpr ⟨List.mem_append_right _ (List.mem_of_getElem? (i := 556) (by decide +kernel)), by decide +kernel⟩
theorem wd_558 : Cond.instanceMethod y_M_ready ∈ lw_ok := List.mem_filter.mpr ⟨List.mem_append_right _ (List.mem_of_getElem? (i := 558) (by decide +kernel)), by decide +kernel⟩
theorem wd_559 : Cond.code y_M_ready b_M_ready 4 (some .boolean) ∈ lw_ok := List.mem_filter.mpr ⟨List.mem_append_right _ (List.mem_of_getElem? (i := 559) (by decide +kernel)), by decide +kernel⟩
theorem wd_560 : Cond.methodLink R_M 97 y_M_takes ∈ lw_ok := List.mem_filter.mpr ⟨List.mem_append_right _ (List.mem_of_getElem? (i := 560) (by decide +kernel)), by decide +kernel⟩
theorem wd_562 : Cond.instanceMethod y_M_takes ∈ lw_ok := List.mem_filter.mpr ⟨List.mem_append_right _ (List.mem_of_getElem? (i := 562) (by decide +kernel)), by decide +kernel⟩
theorem wd_563 : Cond.code y_M_takes b_M_takes 4 (some .int) ∈ lw_ok := List.mem_filter.mpr ⟨List.mem_append_right _ (List.mem_of_getElem? (i := 563) (by decide +kernel)), by decide +kernel⟩
theorem wd_564 : Cond.methodLink R_M 101 y_M_high ∈ lw_ok := List.mem_filter.mpr ⟨List.mem_append_right _ (List.mem_of_getElem? (i := 564) (by decide +kernel)), by decide +kernel⟩
theorem wd_566 : Cond.instanceMethod y_M_high ∈ lw_ok := List.mem_filter.mpr ⟨List.mem_append_right _ (List.mem_of_getElem? (i := 566) (by decide +kernel)), by decide +kernel⟩
theorem wd_567 : Cond.code y_M_high b_M_high 4 (some .int) ∈ lw_ok := List.mem_filter.mpr ⟨List.mem_append_right _ (List.mem_of_getElem? (i := 567) (by decide +kernel)), by decide +kernel⟩
theorem wd_568 : Cond.methodLink R_M 126 y_M_hear ∈ lw_ok := List.mem_filter.mpr ⟨List.mem_append_right _ (List.mem_of_getElem? (i := 568) (by decide +kernel)), by decide +kernel⟩
theorem wd_570 : Cond.instanceMethod y_M_hear ∈ lw_ok := List.mem_filter.mpr ⟨List.mem_append_right _ (List.mem_of_getElem? (i := 570) (by decide +kernel)), by decide +kernel⟩
theorem wd_571 : Cond.code y_M_hear b_M_hear 8 none ∈ lw_ok := List.mem_filter.mpr ⟨List.mem_append_right _ (List.mem_of_getElem? (i := 571) (by decide +kernel)), by decide +kernel⟩
theorem wd_572 : Cond.constant R_M 140 65536 ∈ lw_ok := List.mem_filter.mpr ⟨List.mem_append_right _ (List.mem_of_getElem? (i := 572) (by decide +kernel)), by decide +kernel⟩
theorem wd_573 : Cond.methodLink R_M 141 y_M_note ∈ lw_ok := List.mem_filter.mpr ⟨List.mem_append_right _ (List.mem_of_getElem? (i := 573) (by decide +kernel)), by decide +kernel⟩
theorem wd_575 : Cond.instanceMethod y_M_note ∈ lw_ok := List.mem_filter.mpr ⟨List.mem_append_right _ (List.mem_of_getElem? (i := 575) (by decide +kernel)), by decide +kernel⟩
theorem wd_576 : Cond.code y_M_note b_M_note 3 none ∈ lw_ok := List.mem_filter.mpr ⟨List.mem_append_right _ (List.mem_of_getElem? (i := 576) (by decide +kernel)), by decide +kernel⟩
theorem wd_577 : Cond.methodLink R_M 151 y_M_goBroken ∈ lw_ok := List.mem_filter.mpr ⟨List.mem_append_right _ (List.mem_of_getElem? (i := 577) (by decide +kernel)), by decide +kernel⟩
theorem wd_579 : Cond.instanceMethod y_M_goBroken ∈ lw_ok := List.mem_filter.mpr ⟨List.mem_append_right _ (List.mem_of_getElem? (i := 579) (by decide +kernel)), by decide +kernel⟩
theorem wd_580 : Cond.code y_M_goBroken b_M_goBroken 2 none ∈ lw_ok := List.mem_filter.mpr ⟨List.mem_append_right _ (List.mem_of_getElem? (i := 580) (by decide +kernel)), by decide +kernel⟩
theorem wd_581 : Cond.methodLink R_M 144 y_M_begin ∈ lw_ok := List.mem_filter.mpr ⟨List.mem_append_right _ (List.mem_of_getElem? (i := 581) (by decide +kernel)), by decide +kernel⟩
theorem wd_583 : Cond.instanceMethod y_M_begin ∈ lw_ok := List.mem_filter.mpr ⟨List.mem_append_right _ (List.mem_of_getElem? (i := 583) (by decide +kernel)), by decide +kernel⟩
theorem wd_584 : Cond.code y_M_begin b_M_begin 4 (some .int) ∈ lw_ok := List.mem_filter.mpr ⟨List.mem_append_right _ (List.mem_of_getElem? (i := 584) (by decide +kernel)), by decide +kernel⟩
theorem wd_585 : Cond.methodLink R_M 148 y_M_collect ∈ lw_ok := List.mem_filter.mpr ⟨List.mem_append_right _ (List.mem_of_getElem? (i := 585) (by decide +kernel)), by decide +kernel⟩
theorem wd_587 : Cond.instanceMethod y_M_collect ∈ lw_ok := List.mem_filter.mpr ⟨List.mem_append_right _ (List.mem_of_getElem? (i := 587) (by decide +kernel)), by decide +kernel⟩
theorem wd_588 : Cond.code y_M_collect b_M_collect 4 none ∈ lw_ok := List.mem_filter.mpr ⟨List.mem_append_right _ (List.mem_of_getElem? (i := 588) (by decide +kernel)), by decide +kernel⟩
theorem wd_589 : Cond.methodLink R_M 154 y_M_arrive ∈ lw_ok := List.mem_filter.mpr ⟨List.mem_append_right _ (List.mem_of_getElem? (i := 589) (by decide +kernel)), by decide +kernel⟩
theorem wd_591 : Cond.instanceMethod y_M_arrive ∈ lw_ok := List.mem_filter.mpr ⟨List.mem_append_right _ (List.mem_of_getElem? (i := 591) (by decide +kernel)), by decide +kernel⟩
theorem wd_592 : Cond.code y_M_arrive b_M_arrive 4 none ∈ lw_ok := List.mem_filter.mpr ⟨List.mem_append_right _ (List.mem_of_getElem? (i := 592) (by decide +kernel)), by decide +kernel⟩
theorem ws_S_dropCurrent : Cond.selects R_S y_S_dropCurrent y_S_dropCurrent ∈ lw_ok := List.mem_filter.mpr ⟨List.mem_append_left _ (by decide +kernel), by decide +kernel⟩
theorem ws_R_breakUnit : Cond.selects R_R y_R_breakUnit y_R_breakUnit ∈ lw_ok := List.mem_filter.mpr ⟨List.mem_append_left _ (by decide +kernel), by decide +kernel⟩
theorem ws_R_beginUnit : Cond.selects R_R y_R_beginUnit y_R_beginUnit ∈ lw_ok := List.mem_filter.mpr ⟨List.mem_append_left _ (by decide +kernel), by decide +kernel⟩
theorem ws_R_finishUnit : Cond.selects R_R y_R_finishUnit y_R_finishUnit ∈ lw_ok := List.mem_filter.mpr ⟨List.mem_append_left _ (by decide +kernel), by decide +kernel⟩
theorem ws_R_advanceClock : Cond.selects R_R y_R_advanceClock y_R_advanceClock ∈ lw_ok := List.mem_filter.mpr ⟨List.mem_append_left _ (by decide +kernel), by decide +kernel⟩
theorem ws_R_takeOfStream : Cond.selects R_R y_R_takeOfStream y_R_takeOfStream ∈ lw_ok := List.mem_filter.mpr ⟨List.mem_append_left _ (by decide +kernel), by decide +kernel⟩
theorem ws_X_putHead : Cond.selects R_X y_X_putHead y_X_putHead ∈ lw_ok := List.mem_filter.mpr ⟨List.mem_append_left _ (by decide +kernel), by decide +kernel⟩
theorem ws_X_chooseStream : Cond.selects R_X y_X_chooseStream y_X_chooseStream ∈ lw_ok := List.mem_filter.mpr ⟨List.mem_append_left _ (by decide +kernel), by decide +kernel⟩
theorem ws_X_fillPacket : Cond.selects R_X y_X_fillPacket y_X_fillPacket ∈ lw_ok := List.mem_filter.mpr ⟨List.mem_append_left _ (by decide +kernel), by decide +kernel⟩
theorem ws_X_sendPacket : Cond.selects R_X y_X_sendPacket y_X_sendPacket ∈ lw_ok := List.mem_filter.mpr ⟨List.mem_append_left _ (by decide +kernel), by decide +kernel⟩
theorem ws_M_takes : Cond.selects R_M y_M_takes y_M_takes ∈ lw_ok := List.mem_filter.mpr ⟨List.mem_append_left _ (by decide +kernel), by decide +kernel⟩
theorem ws_M_high : Cond.selects R_M y_M_high y_M_high ∈ lw_ok := List.mem_filter.mpr ⟨List.mem_append_left _ (by decide +kernel), by decide +kernel⟩
theorem ws_M_ready : Cond.selects R_M y_M_ready y_M_ready ∈ lw_ok := List.mem_filter.mpr ⟨List.mem_append_left _ (by decide +kernel), by decide +kernel⟩
theorem ws_M_chosen : Cond.selects R_M y_M_chosen y_M_chosen ∈ lw_ok := List.mem_filter.mpr ⟨List.mem_append_left _ (by decide +kernel), by decide +kernel⟩
theorem ws_M_goOn : Cond.selects R_M y_M_goOn y_M_goOn ∈ lw_ok := List.mem_filter.mpr ⟨List.mem_append_left _ (by decide +kernel), by decide +kernel⟩
theorem ws_M_make : Cond.selects R_M y_M_make y_M_make ∈ lw_ok := List.mem_filter.mpr ⟨List.mem_append_left _ (by decide +kernel), by decide +kernel⟩
theorem ws_M_goBroken : Cond.selects R_M y_M_goBroken y_M_goBroken ∈ lw_ok := List.mem_filter.mpr ⟨List.mem_append_left _ (by decide +kernel), by decide +kernel⟩
theorem ws_M_arrive : Cond.selects R_M y_M_arrive y_M_arrive ∈ lw_ok := List.mem_filter.mpr ⟨List.mem_append_left _ (by decide +kernel), by decide +kernel⟩
theorem ws_M_note : Cond.selects R_M y_M_note y_M_note ∈ lw_ok := List.mem_filter.mpr ⟨List.mem_append_left _ (by decide +kernel), by decide +kernel⟩
theorem ws_M_begin : Cond.selects R_M y_M_begin y_M_begin ∈ lw_ok := List.mem_filter.mpr ⟨List.mem_append_left _ (by decide +kernel), by decide +kernel⟩
theorem ws_M_collect : Cond.selects R_M y_M_collect y_M_collect ∈ lw_ok := List.mem_filter.mpr ⟨List.mem_append_left _ (by decide +kernel), by decide +kernel⟩
theorem ws_M_oneTick : Cond.selects R_M y_M_oneTick y_M_oneTick ∈ lw_ok := List.mem_filter.mpr ⟨List.mem_append_left _ (by decide +kernel), by decide +kernel⟩
theorem ws_M_hear : Cond.selects R_M y_M_hear y_M_hear ∈ lw_ok := List.mem_filter.mpr ⟨List.mem_append_left _ (by decide +kernel), by decide +kernel⟩
theorem ws_M_ticks : Cond.selects R_M y_M_ticks y_M_ticks ∈ lw_ok := List.mem_filter.mpr ⟨List.mem_append_left _ (by decide +kernel), by decide +kernel⟩
def nfL : List (String × Nat × String × String × String × String) := [(R_X, 73, R_U, "length", "I", "PacedMux"), (R_X, 59, R_S, "queue", "LPacedMux$UnitRow;", "PacedMux"), (R_X, 101, R_S, "store", "LPacedMux$UnitRow;", "PacedMux"), (R_X, 107, R_S, "low", "I", "PacedMux"), (R_X, 104, R_S, "high", "I", "PacedMux"), (R_X, 110, R_S, "lateUnits", "I", "PacedMux"), (R_X, 56, R_S, "newestDue", "I", "PacedMux"), (R_R, 63, R_C, "collecting", "Z", "PacedMux"), (R_X, 135, R_C, "latestSize", "I", "PacedMux"), (R_R, 80, R_C, "latestDue", "I", "PacedMux"), (R_X, 138, R_C, "latestDue", "I", "PacedMux"), (R_X, 141, R_C, "latestBytes", "[I", "PacedMux"), (R_X, 130, R_C, "arrivals", "I", "PacedMux"), (R_X, 126, R_R, "collectors", "[LPacedMux$Collector;", "PacedMux"), (R_X, 122, R_R, "tallies", "[I", "PacedMux"), (R_X, 113, R_R, "clockKnown", "Z", "PacedMux"), (R_X, 116, R_R, "clockTime", "I", "PacedMux")]
def nmL : List (String × Nat × MethodName × String) := [(R_P, 23, y_X_isPacketIndex, "PacedMux"), (R_R, 45, y_X_isStream, "PacedMux")]
theorem nf_103 : (R_X, 135, R_C, "latestSize", "I", "PacedMux") ∈ nfL := by decide +kernel
theorem nf_105 : (R_R, 80, R_C, "latestDue", "I", "PacedMux") ∈ nfL := by decide +kernel
theorem nf_106 : (R_X, 138, R_C, "latestDue", "I", "PacedMux") ∈ nfL := by decide +kernel
theorem nf_108 : (R_X, 141, R_C, "latestBytes", "[I", "PacedMux") ∈ nfL := by decide +kernel
theorem nf_110 : (R_X, 130, R_C, "arrivals", "I", "PacedMux") ∈ nfL := by decide +kernel
theorem nf_135 : (R_X, 126, R_R, "collectors", "[LPacedMux$Collector;", "PacedMux") ∈ nfL := by decide +kernel
theorem nf_137 : (R_X, 122, R_R, "tallies", "[I", "PacedMux") ∈ nfL := by decide +kernel
theorem nf_139 : (R_X, 113, R_R, "clockKnown", "Z", "PacedMux") ∈ nfL := by decide +kernel
theorem nf_141 : (R_X, 116, R_R, "clockTime", "I", "PacedMux") ∈ nfL := by decide +kernel
theorem nf_40 : (R_X, 73, R_U, "length", "I", "PacedMux") ∈ nfL := by decide +kernel
theorem nf_52 : (R_X, 59, R_S, "queue", "LPacedMux$UnitRow;", "PacedMux") ∈ nfL := by decide +kernel
theorem nf_54 : (R_X, 101, R_S, "store", "LPacedMux$UnitRow;", "PacedMux") ∈ nfL := by decide +kernel
theorem nf_57 : (R_X, 107, R_S, "low", "I", "PacedMux") ∈ nfL := by decide +kernel
theorem nf_59 : (R_X, 104, R_S, "high", "I", "PacedMux") ∈ nfL := by decide +kernel
theorem nf_62 : (R_X, 110, R_S, "lateUnits", "I", "PacedMux") ∈ nfL := by decide +kernel
theorem nf_63 : (R_X, 56, R_S, "newestDue", "I", "PacedMux") ∈ nfL := by decide +kernel
theorem nf_97 : (R_R, 63, R_C, "collecting", "Z", "PacedMux") ∈ nfL := by decide +kernel
theorem nn_308 : (R_P, 23, y_X_isPacketIndex, "PacedMux") ∈ nmL := by decide +kernel
theorem nn_321 : (R_R, 45, y_X_isStream, "PacedMux") ∈ nmL := by decide +kernel
