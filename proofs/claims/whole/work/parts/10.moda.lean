theorem m_184 : (Cond.fieldLink R_Mo 94 "InspectRowsModel" "thrown" "I") ∈ w_all := List.mem_filter.mpr ⟨List.mem_of_getElem? (i := 723) (by decide +kernel), by decide +kernel⟩
theorem m_185 : (Cond.instanceMethod y_Mo_thrown) ∈ w_all := List.mem_filter.mpr ⟨List.mem_of_getElem? (i := 827) (by decide +kernel), by decide +kernel⟩
theorem m_186 : (Cond.selects R_Mo y_Mo_thrown y_Mo_thrown) ∈ w_all := List.mem_filter.mpr ⟨List.mem_of_getElem? (i := 828) (by decide +kernel), by decide +kernel⟩
theorem m_187 : (Cond.initialized R_Mo) ∈ w_all := List.mem_filter.mpr ⟨List.mem_of_getElem? (i := 39) (by decide +kernel), by decide +kernel⟩
theorem m_188 : (Cond.code y_Mo_thrown b_Mo_thrown 1 (some .int)) ∈ w_all := List.mem_filter.mpr ⟨List.mem_of_getElem? (i := 829) (by decide +kernel), by decide +kernel⟩
theorem m_189 : (Cond.instanceMethod y_Mo_throwing) ∈ w_all := List.mem_filter.mpr ⟨List.mem_of_getElem? (i := 839) (by decide +kernel), by decide +kernel⟩
theorem m_190 : (Cond.selects R_Mo y_Mo_throwing y_Mo_throwing) ∈ w_all := List.mem_filter.mpr ⟨List.mem_of_getElem? (i := 17) (by decide +kernel), by decide +kernel⟩
theorem m_191 : (Cond.code y_Mo_throwing b_Mo_throwing 4 (some .boolean)) ∈ w_all := List.mem_filter.mpr ⟨List.mem_of_getElem? (i := 840) (by decide +kernel), by decide +kernel⟩
theorem m_192 : (Cond.static y_Mo_in) ∈ w_all := List.mem_filter.mpr ⟨List.mem_of_getElem? (i := 835) (by decide +kernel), by decide +kernel⟩
theorem m_193 : (Cond.code y_Mo_in b_Mo_in 3 (some .boolean)) ∈ w_all := List.mem_filter.mpr ⟨List.mem_of_getElem? (i := 836) (by decide +kernel), by decide +kernel⟩
theorem m_194 : (Cond.fieldLink R_Mo 97 "InspectRowsModel" "points" "I") ∈ w_all := List.mem_filter.mpr ⟨List.mem_of_getElem? (i := 729) (by decide +kernel), by decide +kernel⟩
theorem m_195 : (Cond.methodLink R_Mo 100 y_Mo_in) ∈ w_all := List.mem_filter.mpr ⟨List.mem_of_getElem? (i := 834) (by decide +kernel), by decide +kernel⟩
theorem m_196 : (Cond.instanceMethod y_Mo_isPoint) ∈ w_all := List.mem_filter.mpr ⟨List.mem_of_getElem? (i := 865) (by decide +kernel), by decide +kernel⟩
theorem m_197 : (Cond.selects R_Mo y_Mo_isPoint y_Mo_isPoint) ∈ w_all := List.mem_filter.mpr ⟨List.mem_of_getElem? (i := 18) (by decide +kernel), by decide +kernel⟩
theorem m_198 : (Cond.code y_Mo_isPoint b_Mo_isPoint 2 (some .boolean)) ∈ w_all := List.mem_filter.mpr ⟨List.mem_of_getElem? (i := 866) (by decide +kernel), by decide +kernel⟩
theorem m_199 : (Cond.fieldLink R_Mo 49 "InspectRowsModel" "proof" "[I") ∈ w_all := List.mem_filter.mpr ⟨List.mem_of_getElem? (i := 740) (by decide +kernel), by decide +kernel⟩
theorem m_200 : (Cond.fieldLink R_Mo 109 "InspectRowsModel" "day" "I") ∈ w_all := List.mem_filter.mpr ⟨List.mem_of_getElem? (i := 724) (by decide +kernel), by decide +kernel⟩
theorem m_201 : (Cond.fieldLink R_Mo 46 "InspectRowsModel" "until" "[I") ∈ w_all := List.mem_filter.mpr ⟨List.mem_of_getElem? (i := 739) (by decide +kernel), by decide +kernel⟩
theorem m_202 : (Cond.instanceMethod y_Mo_isMissed) ∈ w_all := List.mem_filter.mpr ⟨List.mem_of_getElem? (i := 881) (by decide +kernel), by decide +kernel⟩
theorem m_203 : (Cond.selects R_Mo y_Mo_isMissed y_Mo_isMissed) ∈ w_all := List.mem_filter.mpr ⟨List.mem_of_getElem? (i := 21) (by decide +kernel), by decide +kernel⟩
theorem m_204 : (Cond.code y_Mo_isMissed b_Mo_isMissed 2 (some .boolean)) ∈ w_all := List.mem_filter.mpr ⟨List.mem_of_getElem? (i := 882) (by decide +kernel), by decide +kernel⟩
theorem m_205 : (Cond.fieldLink R_Mo 117 "InspectRowsModel" "findings" "I") ∈ w_all := List.mem_filter.mpr ⟨List.mem_of_getElem? (i := 736) (by decide +kernel), by decide +kernel⟩
theorem m_206 : (Cond.fieldLink R_Mo 40 "InspectRowsModel" "of" "[I") ∈ w_all := List.mem_filter.mpr ⟨List.mem_of_getElem? (i := 737) (by decide +kernel), by decide +kernel⟩
theorem m_207 : (Cond.methodLink R_Mo 120 y_Mo_isMissed) ∈ w_all := List.mem_filter.mpr ⟨List.mem_of_getElem? (i := 879) (by decide +kernel), by decide +kernel⟩
theorem m_208 : (Cond.fieldLink R_Mo 43 "InspectRowsModel" "heavy" "[I") ∈ w_all := List.mem_filter.mpr ⟨List.mem_of_getElem? (i := 738) (by decide +kernel), by decide +kernel⟩
theorem m_209 : (Cond.fieldLink R_Mo 7 "InspectRowsModel" "weight" "[I") ∈ w_all := List.mem_filter.mpr ⟨List.mem_of_getElem? (i := 725) (by decide +kernel), by decide +kernel⟩
theorem m_210 : (Cond.fieldLink R_Mo 22 "InspectRowsModel" "kind" "[I") ∈ w_all := List.mem_filter.mpr ⟨List.mem_of_getElem? (i := 730) (by decide +kernel), by decide +kernel⟩
theorem m_211 : (Cond.fieldLink R_Mo 25 "InspectRowsModel" "height" "[I") ∈ w_all := List.mem_filter.mpr ⟨List.mem_of_getElem? (i := 731) (by decide +kernel), by decide +kernel⟩
theorem m_212 : (Cond.fieldLink R_Mo 28 "InspectRowsModel" "people" "[I") ∈ w_all := List.mem_filter.mpr ⟨List.mem_of_getElem? (i := 732) (by decide +kernel), by decide +kernel⟩
theorem m_213 : (Cond.instanceMethod y_Mo_riskOf) ∈ w_all := List.mem_filter.mpr ⟨List.mem_of_getElem? (i := 877) (by decide +kernel), by decide +kernel⟩
theorem m_214 : (Cond.selects R_Mo y_Mo_riskOf y_Mo_riskOf) ∈ w_all := List.mem_filter.mpr ⟨List.mem_of_getElem? (i := 20) (by decide +kernel), by decide +kernel⟩
theorem m_215 : (Cond.code y_Mo_riskOf b_Mo_riskOf 4 (some .int)) ∈ w_all := List.mem_filter.mpr ⟨List.mem_of_getElem? (i := 878) (by decide +kernel), by decide +kernel⟩
theorem m_216 : (Cond.fieldLink R_Mo 13 "InspectRowsModel" "step" "[I") ∈ w_all := List.mem_filter.mpr ⟨List.mem_of_getElem? (i := 726) (by decide +kernel), by decide +kernel⟩
theorem m_217 : (Cond.methodLink R_Mo 123 y_Mo_riskOf) ∈ w_all := List.mem_filter.mpr ⟨List.mem_of_getElem? (i := 875) (by decide +kernel), by decide +kernel⟩
theorem m_218 : (Cond.instanceMethod y_Mo_classOf) ∈ w_all := List.mem_filter.mpr ⟨List.mem_of_getElem? (i := 873) (by decide +kernel), by decide +kernel⟩
theorem m_219 : (Cond.selects R_Mo y_Mo_classOf y_Mo_classOf) ∈ w_all := List.mem_filter.mpr ⟨List.mem_of_getElem? (i := 19) (by decide +kernel), by decide +kernel⟩
theorem m_220 : (Cond.code y_Mo_classOf b_Mo_classOf 5 (some .int)) ∈ w_all := List.mem_filter.mpr ⟨List.mem_of_getElem? (i := 874) (by decide +kernel), by decide +kernel⟩
theorem m_221 : (Cond.instanceMethod y_Mo_add) ∈ w_all := List.mem_filter.mpr ⟨List.mem_of_getElem? (i := 885) (by decide +kernel), by decide +kernel⟩
theorem m_222 : (Cond.selects R_Mo y_Mo_add y_Mo_add) ∈ w_all := List.mem_filter.mpr ⟨List.mem_of_getElem? (i := 22) (by decide +kernel), by decide +kernel⟩
theorem m_223 : (Cond.code y_Mo_add b_Mo_add 4 none) ∈ w_all := List.mem_filter.mpr ⟨List.mem_of_getElem? (i := 886) (by decide +kernel), by decide +kernel⟩
theorem m_224 : (Cond.fieldLink R_Mo 37 "InspectRowsModel" "visited" "[I") ∈ w_all := List.mem_filter.mpr ⟨List.mem_of_getElem? (i := 735) (by decide +kernel), by decide +kernel⟩
theorem m_225 : (Cond.fieldLink R_Mo 16 "InspectRowsModel" "interval" "[I") ∈ w_all := List.mem_filter.mpr ⟨List.mem_of_getElem? (i := 727) (by decide +kernel), by decide +kernel⟩
theorem m_226 : (Cond.methodLink R_Mo 127 y_Mo_classOf) ∈ w_all := List.mem_filter.mpr ⟨List.mem_of_getElem? (i := 871) (by decide +kernel), by decide +kernel⟩
theorem m_227 : (Cond.instanceMethod y_Mo_dueFrom) ∈ w_all := List.mem_filter.mpr ⟨List.mem_of_getElem? (i := 901) (by decide +kernel), by decide +kernel⟩
theorem m_228 : (Cond.selects R_Mo y_Mo_dueFrom y_Mo_dueFrom) ∈ w_all := List.mem_filter.mpr ⟨List.mem_of_getElem? (i := 23) (by decide +kernel), by decide +kernel⟩
theorem m_229 : (Cond.code y_Mo_dueFrom b_Mo_dueFrom 2 (some .int)) ∈ w_all := List.mem_filter.mpr ⟨List.mem_of_getElem? (i := 902) (by decide +kernel), by decide +kernel⟩
theorem m_230 : (Cond.instanceMethod y_Mo_isAhead) ∈ w_all := List.mem_filter.mpr ⟨List.mem_of_getElem? (i := 909) (by decide +kernel), by decide +kernel⟩
theorem m_231 : (Cond.selects R_Mo y_Mo_isAhead y_Mo_isAhead) ∈ w_all := List.mem_filter.mpr ⟨List.mem_of_getElem? (i := 24) (by decide +kernel), by decide +kernel⟩
theorem m_232 : (Cond.code y_Mo_isAhead b_Mo_isAhead 5 (some .boolean)) ∈ w_all := List.mem_filter.mpr ⟨List.mem_of_getElem? (i := 910) (by decide +kernel), by decide +kernel⟩
theorem m_233 : (Cond.fieldLink R_Mo 52 "InspectRowsModel" "told" "[Z") ∈ w_all := List.mem_filter.mpr ⟨List.mem_of_getElem? (i := 741) (by decide +kernel), by decide +kernel⟩
theorem m_234 : (Cond.fieldLink R_Mo 62 "InspectRowsModel" "bad" "[I") ∈ w_all := List.mem_filter.mpr ⟨List.mem_of_getElem? (i := 744) (by decide +kernel), by decide +kernel⟩
theorem m_235 : (Cond.fieldLink R_Mo 59 "InspectRowsModel" "no" "[I") ∈ w_all := List.mem_filter.mpr ⟨List.mem_of_getElem? (i := 743) (by decide +kernel), by decide +kernel⟩
theorem m_236 : (Cond.methodLink R_Mo 130 y_Mo_add) ∈ w_all := List.mem_filter.mpr ⟨List.mem_of_getElem? (i := 883) (by decide +kernel), by decide +kernel⟩
theorem m_237 : (Cond.fieldLink R_Mo 56 "InspectRowsModel" "yes" "[I") ∈ w_all := List.mem_filter.mpr ⟨List.mem_of_getElem? (i := 742) (by decide +kernel), by decide +kernel⟩
theorem m_238 : (Cond.instanceMethod y_Mo_go) ∈ w_all := List.mem_filter.mpr ⟨List.mem_of_getElem? (i := 921) (by decide +kernel), by decide +kernel⟩
theorem m_239 : (Cond.selects R_Mo y_Mo_go y_Mo_go) ∈ w_all := List.mem_filter.mpr ⟨List.mem_of_getElem? (i := 25) (by decide +kernel), by decide +kernel⟩
theorem m_240 : (Cond.code y_Mo_go b_Mo_go 8 (some .int)) ∈ w_all := List.mem_filter.mpr ⟨List.mem_of_getElem? (i := 922) (by decide +kernel), by decide +kernel⟩
theorem m_241 : (Cond.static y_Mo_size) ∈ w_all := List.mem_filter.mpr ⟨List.mem_of_getElem? (i := 939) (by decide +kernel), by decide +kernel⟩
theorem m_242 : (Cond.code y_Mo_size b_Mo_size 1 (some .int)) ∈ w_all := List.mem_filter.mpr ⟨List.mem_of_getElem? (i := 940) (by decide +kernel), by decide +kernel⟩
theorem m_243 : (Cond.fieldLink R_Mo 31 "InspectRowsModel" "px" "[I") ∈ w_all := List.mem_filter.mpr ⟨List.mem_of_getElem? (i := 733) (by decide +kernel), by decide +kernel⟩
theorem m_244 : (Cond.methodLink R_Mo 145 y_Mo_size) ∈ w_all := List.mem_filter.mpr ⟨List.mem_of_getElem? (i := 938) (by decide +kernel), by decide +kernel⟩
theorem m_245 : (Cond.fieldLink R_Mo 34 "InspectRowsModel" "py" "[I") ∈ w_all := List.mem_filter.mpr ⟨List.mem_of_getElem? (i := 734) (by decide +kernel), by decide +kernel⟩
theorem m_246 : (Cond.instanceMethod y_Mo_between) ∈ w_all := List.mem_filter.mpr ⟨List.mem_of_getElem? (i := 944) (by decide +kernel), by decide +kernel⟩
theorem m_247 : (Cond.selects R_Mo y_Mo_between y_Mo_between) ∈ w_all := List.mem_filter.mpr ⟨List.mem_of_getElem? (i := 28) (by decide +kernel), by decide +kernel⟩
theorem m_248 : (Cond.code y_Mo_between b_Mo_between 3 (some .int)) ∈ w_all := List.mem_filter.mpr ⟨List.mem_of_getElem? (i := 945) (by decide +kernel), by decide +kernel⟩
theorem m_249 : (Cond.instanceMethod y_Mo_home) ∈ w_all := List.mem_filter.mpr ⟨List.mem_of_getElem? (i := 936) (by decide +kernel), by decide +kernel⟩
theorem m_250 : (Cond.selects R_Mo y_Mo_home y_Mo_home) ∈ w_all := List.mem_filter.mpr ⟨List.mem_of_getElem? (i := 27) (by decide +kernel), by decide +kernel⟩
theorem m_251 : (Cond.code y_Mo_home b_Mo_home 2 (some .int)) ∈ w_all := List.mem_filter.mpr ⟨List.mem_of_getElem? (i := 937) (by decide +kernel), by decide +kernel⟩
theorem m_252 : (Cond.static y_Mo_placeOf) ∈ w_all := List.mem_filter.mpr ⟨List.mem_of_getElem? (i := 928) (by decide +kernel), by decide +kernel⟩
theorem m_253 : (Cond.code y_Mo_placeOf b_Mo_placeOf 3 (some .int)) ∈ w_all := List.mem_filter.mpr ⟨List.mem_of_getElem? (i := 929) (by decide +kernel), by decide +kernel⟩
theorem m_254 : (Cond.fieldLink R_Mo 68 "InspectRowsModel" "list" "[I") ∈ w_all := List.mem_filter.mpr ⟨List.mem_of_getElem? (i := 747) (by decide +kernel), by decide +kernel⟩
theorem m_255 : (Cond.methodLink R_Mo 152 y_Mo_between) ∈ w_all := List.mem_filter.mpr ⟨List.mem_of_getElem? (i := 942) (by decide +kernel), by decide +kernel⟩
theorem m_256 : (Cond.fieldLink R_Mo 71 "InspectRowsModel" "least" "[I") ∈ w_all := List.mem_filter.mpr ⟨List.mem_of_getElem? (i := 748) (by decide +kernel), by decide +kernel⟩
theorem m_257 : (Cond.constant R_Mo 151 1000000000) ∈ w_all := List.mem_filter.mpr ⟨List.mem_of_getElem? (i := 941) (by decide +kernel), by decide +kernel⟩
theorem m_258 : (Cond.methodLink R_Mo 148 y_Mo_home) ∈ w_all := List.mem_filter.mpr ⟨List.mem_of_getElem? (i := 934) (by decide +kernel), by decide +kernel⟩
theorem m_259 : (Cond.instanceMethod y_Mo_reckon) ∈ w_all := List.mem_filter.mpr ⟨List.mem_of_getElem? (i := 932) (by decide +kernel), by decide +kernel⟩
theorem m_260 : (Cond.selects R_Mo y_Mo_reckon y_Mo_reckon) ∈ w_all := List.mem_filter.mpr ⟨List.mem_of_getElem? (i := 26) (by decide +kernel), by decide +kernel⟩
theorem m_261 : (Cond.code y_Mo_reckon b_Mo_reckon 8 none) ∈ w_all := List.mem_filter.mpr ⟨List.mem_of_getElem? (i := 933) (by decide +kernel), by decide +kernel⟩
theorem m_262 : (Cond.constant R_Mo 169 (-10000000)) ∈ w_all := List.mem_filter.mpr ⟨List.mem_of_getElem? (i := 963) (by decide +kernel), by decide +kernel⟩
theorem m_263 : (Cond.constant R_Mo 167 10000000) ∈ w_all := List.mem_filter.mpr ⟨List.mem_of_getElem? (i := 954) (by decide +kernel), by decide +kernel⟩
theorem m_264 : (Cond.static y_Mo_isPlace) ∈ w_all := List.mem_filter.mpr ⟨List.mem_of_getElem? (i := 961) (by decide +kernel), by decide +kernel⟩
theorem m_265 : (Cond.code y_Mo_isPlace b_Mo_isPlace 1 (some .boolean)) ∈ w_all := List.mem_filter.mpr ⟨List.mem_of_getElem? (i := 962) (by decide +kernel), by decide +kernel⟩
theorem m_266 : (Cond.static y_Mo_apart) ∈ w_all := List.mem_filter.mpr ⟨List.mem_of_getElem? (i := 978) (by decide +kernel), by decide +kernel⟩
theorem m_267 : (Cond.code y_Mo_apart b_Mo_apart 4 (some .long)) ∈ w_all := List.mem_filter.mpr ⟨List.mem_of_getElem? (i := 979) (by decide +kernel), by decide +kernel⟩
theorem m_268 : (Cond.fieldLink R_Mo 82 "InspectRowsModel" "grounds" "[I") ∈ w_all := List.mem_filter.mpr ⟨List.mem_of_getElem? (i := 752) (by decide +kernel), by decide +kernel⟩
theorem m_269 : (Cond.methodLink R_Mo 177 y_Mo_apart) ∈ w_all := List.mem_filter.mpr ⟨List.mem_of_getElem? (i := 977) (by decide +kernel), by decide +kernel⟩
theorem m_270 : (Cond.fieldLink R_Mo 79 "InspectRowsModel" "distance" "I") ∈ w_all := List.mem_filter.mpr ⟨List.mem_of_getElem? (i := 750) (by decide +kernel), by decide +kernel⟩
theorem m_271 : (Cond.instanceMethod y_Mo_isNear) ∈ w_all := List.mem_filter.mpr ⟨List.mem_of_getElem? (i := 975) (by decide +kernel), by decide +kernel⟩
theorem m_272 : (Cond.selects R_Mo y_Mo_isNear y_Mo_isNear) ∈ w_all := List.mem_filter.mpr ⟨List.mem_of_getElem? (i := 30) (by decide +kernel), by decide +kernel⟩
theorem m_273 : (Cond.code y_Mo_isNear b_Mo_isNear 6 (some .boolean)) ∈ w_all := List.mem_filter.mpr ⟨List.mem_of_getElem? (i := 976) (by decide +kernel), by decide +kernel⟩
theorem m_274 : (Cond.fieldLink R_Mo 181 "InspectRowsModel" "permits" "I") ∈ w_all := List.mem_filter.mpr ⟨List.mem_of_getElem? (i := 753) (by decide +kernel), by decide +kernel⟩
theorem m_275 : (Cond.fieldLink R_Mo 85 "InspectRowsModel" "from" "[I") ∈ w_all := List.mem_filter.mpr ⟨List.mem_of_getElem? (i := 754) (by decide +kernel), by decide +kernel⟩
theorem m_276 : (Cond.fieldLink R_Mo 88 "InspectRowsModel" "to" "[I") ∈ w_all := List.mem_filter.mpr ⟨List.mem_of_getElem? (i := 755) (by decide +kernel), by decide +kernel⟩
theorem m_277 : (Cond.methodLink R_Mo 184 y_Mo_isNear) ∈ w_all := List.mem_filter.mpr ⟨List.mem_of_getElem? (i := 973) (by decide +kernel), by decide +kernel⟩
theorem m_278 : (Cond.fieldLink R_Mo 173 "InspectRowsModel" "ground" "Z") ∈ w_all := List.mem_filter.mpr ⟨List.mem_of_getElem? (i := 751) (by decide +kernel), by decide +kernel⟩
theorem m_279 : (Cond.fieldLink R_Mo 75 "InspectRowsModel" "space" "I") ∈ w_all := List.mem_filter.mpr ⟨List.mem_of_getElem? (i := 749) (by decide +kernel), by decide +kernel⟩
theorem m_280 : (Cond.instanceMethod y_Mo_refusal) ∈ w_all := List.mem_filter.mpr ⟨List.mem_of_getElem? (i := 971) (by decide +kernel), by decide +kernel⟩
theorem m_281 : (Cond.selects R_Mo y_Mo_refusal y_Mo_refusal) ∈ w_all := List.mem_filter.mpr ⟨List.mem_of_getElem? (i := 29) (by decide +kernel), by decide +kernel⟩
theorem m_282 : (Cond.code y_Mo_refusal b_Mo_refusal 7 (some .int)) ∈ w_all := List.mem_filter.mpr ⟨List.mem_of_getElem? (i := 972) (by decide +kernel), by decide +kernel⟩
theorem d_Mo_thrown_0 : decode b_Mo_thrown 0 = .ok (.aload_n 0, 1) := by decide +kernel
theorem d_Mo_thrown_1 : decode b_Mo_thrown 1 = .ok (.getfield 94, 3) := by decide +kernel
theorem d_Mo_thrown_4 : decode b_Mo_thrown 4 = .ok (.ireturn, 1) := by decide +kernel
set_option maxHeartbeats 4000000 in
set_option maxRecDepth 100000 in
theorem c_Mo_thrown (l : Launch) (dC : Nat → ClassId) (dI : Nat → Nat → Nat) (L : Nat → Nat) (cA : Nat → ClassId) (ar : Nat → Nat → Int32) (sc : Nat → Int32) : Met l y_Mo_thrown z_Mo_thrown (rmD 0) (va_Pc [.ref (L 0)] (fun U => xw_M dC dI L cA ar sc U)) (QcRead (f_Mo_thrown ar sc )) 0 0 (fun _ => False) := by
  refine Met.ofW (cc := b_Mo_thrown) (maxL := 1) (ret := (some .int)) (by decide) rfl ?_
  intro p e s m args below meth c s₁ B hml hv
  obtain ⟨rfl, ⟨hP, hK⟩⟩ := hv
  have hx := B.exec
  have hb := B.bytes
  have hr := B.returns
  have hts : ∀ w ∈ w_all, w.before _ s = true := fun w hw => atoms_spec (ws := z_Mo_thrown) B.pre w (List.mem_cons_of_mem _ hw)
  have hown : s.vm.findClass R_Mo = some m.cls := findClass_of_methodNamed B.named
  have hlocks := B.notSynchronized
  have hF : CallFix p m c b_Mo_thrown 1 s _ w_all R_Mo := ⟨hx, hb, hml, hown, hts⟩
  have hl := lv_entry ([.ref (L 0)]) (n := 1) (Nat.le_of_ble_eq_true rfl)
  rw [lg_entry_eq]
  generalize (lg_sl ([.ref (L 0)]) ++ List.replicate (1 - (lg_sl ([.ref (L 0)])).length) Slot.unset).toArray = ls at hl ⊢
  have hl : lv_has ls 1 [(0, .ref (L 0))] := hl
  refine lv_aload_n hx hb d_Mo_thrown_0 rfl (lv_at hl 0 rfl) ?_
  refine gf_Mo_thrown hF hK hP m_184 d_Mo_thrown_1 ?_
  have hv : (sc 0 : Int32) = f_Mo_thrown ar sc  := by rw [f_Mo_thrown]
  exact W.iret (v := sc 0) hx hb hr (fun t ht hW => ⟨congrArg (fun z => Outcome.returned (some (Value.int z))) hv, ht⟩) (fun _ h9 => nomatch h9) d_Mo_thrown_4
set_option maxHeartbeats 1000000 in
theorem r_Mo_thrown {p : Program} {l : Launch} {e : Env} {R : Room} {s : State} {m : MethodId} {args : Array Value} {below : List Frame} {meth : Method} {c : Code} {H : Heap} {locs : List Loc} {cells slots : Nat} {Q : State → Prop} {cc : ByteArray} {nL pc idx : Nat} {ls : Array Slot} {rest : List Value} {own : String} {dC : Nat → ClassId} {dI : Nat → Nat → Nat} {L : Nat → Nat} {cA : Nat → ClassId} {ar : Nat → Nat → Int32} {sc : Nat → Int32}  (hF : CallFix p m c cc nL s args w_all own) (hK : kW_M dC dI cA s) (hP : va_P (dC, dI) classes (wM L cA ar sc) H) (hlk : Cond.methodLink own idx y_Mo_thrown ∈ w_all) (hsz : ls.size = nL) (hR : (rmD 0).frames + 1 ≤ R.frames ∧ 8 + (1 + 11) + (rmD 0).locals ≤ R.locals) (hc : cells ≤ R.cells ∧ slots ≤ R.slots) (hrs : (rest.map fun v => v.category).sum ≤ 8) (hdg : decode cc pc = .ok (.invokevirtual idx, 3)) (kk : W p l e R s m args below meth c H locs cells slots Q (F0 m (pc + 3) ls (.int (f_Mo_thrown ar sc ) :: rest))) : W p l e R s m args below meth c H locs cells slots Q (F0 m pc ls (.ref (L 0) :: rest)) :=
  W.callR (W.runV (As := []) (rest := rest) hF (c_Mo_thrown l dC dI L cA ar sc ) (cwV 0 hF.2.2.2.2 (gV hlk m_185 m_186 m_187 m_188) rfl rfl rfl (by decide +kernel) hR) ⟨xb_M, va_recv hK.1 hP (ci := 7) (q0 := 0) rfl rfl, fun U hU hW => ⟨rfl, by rw [hU]; exact hP, kW_M_warm hW hK⟩⟩ rfl rfl hsz rfl (lv_room hrs) hdg hc) kk
theorem d_Mo_throwing_0 : decode b_Mo_throwing 0 = .ok (.aload_n 0, 1) := by decide +kernel
theorem d_Mo_throwing_1 : decode b_Mo_throwing 1 = .ok (.iload_n 1, 1) := by decide +kernel
theorem d_Mo_throwing_2 : decode b_Mo_throwing 2 = .ok (.ifCond .eq 7, 3) := by decide +kernel
theorem d_Mo_throwing_5 : decode b_Mo_throwing 5 = .ok (.iconst 1, 1) := by decide +kernel
theorem d_Mo_throwing_6 : decode b_Mo_throwing 6 = .ok (.goto 20, 3) := by decide +kernel
theorem d_Mo_throwing_9 : decode b_Mo_throwing 9 = .ok (.iload_n 2, 1) := by decide +kernel
theorem d_Mo_throwing_10 : decode b_Mo_throwing 10 = .ok (.ifCond .eq 7, 3) := by decide +kernel
theorem d_Mo_throwing_13 : decode b_Mo_throwing 13 = .ok (.iconst 2, 1) := by decide +kernel
theorem d_Mo_throwing_14 : decode b_Mo_throwing 14 = .ok (.goto 12, 3) := by decide +kernel
theorem d_Mo_throwing_17 : decode b_Mo_throwing 17 = .ok (.iload_n 3, 1) := by decide +kernel
theorem d_Mo_throwing_18 : decode b_Mo_throwing 18 = .ok (.ifCond .eq 7, 3) := by decide +kernel
theorem d_Mo_throwing_21 : decode b_Mo_throwing 21 = .ok (.iconst 3, 1) := by decide +kernel
theorem d_Mo_throwing_22 : decode b_Mo_throwing 22 = .ok (.goto 4, 3) := by decide +kernel
theorem d_Mo_throwing_25 : decode b_Mo_throwing 25 = .ok (.iconst 0, 1) := by decide +kernel
theorem d_Mo_throwing_26 : decode b_Mo_throwing 26 = .ok (.putfield 94, 3) := by decide +kernel
theorem d_Mo_throwing_29 : decode b_Mo_throwing 29 = .ok (.aload_n 0, 1) := by decide +kernel
theorem d_Mo_throwing_30 : decode b_Mo_throwing 30 = .ok (.getfield 94, 3) := by decide +kernel
theorem d_Mo_throwing_33 : decode b_Mo_throwing 33 = .ok (.ifCond .le 7, 3) := by decide +kernel
theorem d_Mo_throwing_36 : decode b_Mo_throwing 36 = .ok (.iconst 1, 1) := by decide +kernel
theorem d_Mo_throwing_37 : decode b_Mo_throwing 37 = .ok (.goto 4, 3) := by decide +kernel
theorem d_Mo_throwing_40 : decode b_Mo_throwing 40 = .ok (.iconst 0, 1) := by decide +kernel
theorem d_Mo_throwing_41 : decode b_Mo_throwing 41 = .ok (.ireturn, 1) := by decide +kernel
set_option maxHeartbeats 4000000 in
set_option maxRecDepth 100000 in
theorem c_Mo_throwing (l : Launch) (dC : Nat → ClassId) (dI : Nat → Nat → Nat) (L : Nat → Nat) (cA : Nat → ClassId) (ar : Nat → Nat → Int32) (sc : Nat → Int32) (a0 : Int32) (a1 : Int32) (a2 : Int32) (hL : ij 25 L) : Met l y_Mo_throwing z_Mo_throwing (rmD 0) (va_Pc [.ref (L 0), .int a0, .int a1, .int a2] (fun U => xw_M dC dI L cA ar sc U)) (va_Qi (fun (r : Int32) (u : oS) => (r, u.1, u.2) = f_Mo_throwing ar sc a0 a1 a2) (fun u t => va_P (dC, dI) classes (wM L cA u.1 u.2) t.heap) (aM L)) 0 0 (aM L) := by
  refine Met.ofW (cc := b_Mo_throwing) (maxL := 4) (ret := (some .boolean)) (by decide) rfl ?_
  intro p e s m args below meth c s₁ B hml hv
  obtain ⟨rfl, ⟨hP, hK⟩⟩ := hv
  have hx := B.exec
  have hb := B.bytes
  have hr := B.returns
  have hts : ∀ w ∈ w_all, w.before _ s = true := fun w hw => atoms_spec (ws := z_Mo_throwing) B.pre w (List.mem_cons_of_mem _ hw)
  have hown : s.vm.findClass R_Mo = some m.cls := findClass_of_methodNamed B.named
  have hlocks := B.notSynchronized
  have hF : CallFix p m c b_Mo_throwing 4 s _ w_all R_Mo := ⟨hx, hb, hml, hown, hts⟩
  have hS : va_S (aM L) s.heap s.heap [] := va_S.rf
  have hl := lv_entry ([.ref (L 0), .int a0, .int a1, .int a2]) (n := 4) (Nat.le_of_ble_eq_true rfl)
  rw [lg_entry_eq]
  generalize (lg_sl ([.ref (L 0), .int a0, .int a1, .int a2]) ++ List.replicate (4 - (lg_sl ([.ref (L 0), .int a0, .int a1, .int a2])).length) Slot.unset).toArray = ls at hl ⊢
  have hl : lv_has ls 4 [(0, .ref (L 0)), (1, .int a0), (2, .int a1), (3, .int a2)] := hl
  refine lv_aload_n hx hb d_Mo_throwing_0 rfl (lv_at hl 0 rfl) ?_
  refine lv_iload_n hx hb d_Mo_throwing_1 rfl (lv_at hl 1 rfl) ?_
  refine lv_if_eq (tgt := 9) hx hb d_Mo_throwing_2 (by decide) (fun c2 => ?_) (fun c2 => ?_)
  · refine lv_iload_n hx hb d_Mo_throwing_9 rfl (lv_at hl 2 rfl) ?_
    refine lv_if_eq (tgt := 17) hx hb d_Mo_throwing_10 (by decide) (fun c10 => ?_) (fun c10 => ?_)
    · refine lv_iload_n hx hb d_Mo_throwing_17 rfl (lv_at hl 3 rfl) ?_
      refine lv_if_eq (tgt := 25) hx hb d_Mo_throwing_18 (by decide) (fun c18 => ?_) (fun c18 => ?_)
      · refine lv_iconst (v := 0) hx hb d_Mo_throwing_25 (by decide) ?_
        refine pf_Mo_thrown hF hK hP hL hS m_184 d_Mo_throwing_26 (fun H locs hP hS => ?_)
        refine lv_aload_n hx hb d_Mo_throwing_29 rfl (lv_at hl 0 rfl) ?_
        refine gf_Mo_thrown hF hK hP m_184 d_Mo_throwing_30 ?_
        refine lv_if_le (tgt := 40) hx hb d_Mo_throwing_33 (by decide) (fun c33 => ?_) (fun c33 => ?_)
        · refine lv_iconst (v := 0) hx hb d_Mo_throwing_40 (by decide) ?_
          have hv : ((0, ar, sg sc 0 0) : Int32 × (Nat → Nat → Int32) × (Nat → Int32)) = f_Mo_throwing ar sc a0 a1 a2 := by rw [f_Mo_throwing, if_pos c2, if_pos c10, if_pos c18, if_pos c33]
          exact W.zret (ty := .boolean) (v := 0) hx hb hr rfl (fun t ht hW => ⟨⟨0, (ar, sg sc 0 0), rfl, hv, by dsimp only; rw [ht]; exact hP⟩, hS.F ht⟩) hS.2.2 d_Mo_throwing_41
        · refine lv_iconst (v := 1) hx hb d_Mo_throwing_36 (by decide) ?_
          refine lv_goto (tgt := 41) hx hb d_Mo_throwing_37 (by decide) ?_
          have hv : ((1, ar, sg sc 0 0) : Int32 × (Nat → Nat → Int32) × (Nat → Int32)) = f_Mo_throwing ar sc a0 a1 a2 := by rw [f_Mo_throwing, if_pos c2, if_pos c10, if_pos c18, if_neg c33]
          exact W.zret (ty := .boolean) (v := 1) hx hb hr rfl (fun t ht hW => ⟨⟨1, (ar, sg sc 0 0), rfl, hv, by dsimp only; rw [ht]; exact hP⟩, hS.F ht⟩) hS.2.2 d_Mo_throwing_41
      · refine lv_iconst (v := 3) hx hb d_Mo_throwing_21 (by decide) ?_
        refine lv_goto (tgt := 26) hx hb d_Mo_throwing_22 (by decide) ?_
        refine pf_Mo_thrown hF hK hP hL hS m_184 d_Mo_throwing_26 (fun H locs hP hS => ?_)
        refine lv_aload_n hx hb d_Mo_throwing_29 rfl (lv_at hl 0 rfl) ?_
        refine gf_Mo_thrown hF hK hP m_184 d_Mo_throwing_30 ?_
        refine lv_if_le (tgt := 40) hx hb d_Mo_throwing_33 (by decide) (fun c33 => ?_) (fun c33 => ?_)
        · refine lv_iconst (v := 0) hx hb d_Mo_throwing_40 (by decide) ?_
          have hv : ((0, ar, sg sc 0 3) : Int32 × (Nat → Nat → Int32) × (Nat → Int32)) = f_Mo_throwing ar sc a0 a1 a2 := by rw [f_Mo_throwing, if_pos c2, if_pos c10, if_neg c18, if_pos c33]
          exact W.zret (ty := .boolean) (v := 0) hx hb hr rfl (fun t ht hW => ⟨⟨0, (ar, sg sc 0 3), rfl, hv, by dsimp only; rw [ht]; exact hP⟩, hS.F ht⟩) hS.2.2 d_Mo_throwing_41
        · refine lv_iconst (v := 1) hx hb d_Mo_throwing_36 (by decide) ?_
          refine lv_goto (tgt := 41) hx hb d_Mo_throwing_37 (by decide) ?_
          have hv : ((1, ar, sg sc 0 3) : Int32 × (Nat → Nat → Int32) × (Nat → Int32)) = f_Mo_throwing ar sc a0 a1 a2 := by rw [f_Mo_throwing, if_pos c2, if_pos c10, if_neg c18, if_neg c33]
          exact W.zret (ty := .boolean) (v := 1) hx hb hr rfl (fun t ht hW => ⟨⟨1, (ar, sg sc 0 3), rfl, hv, by dsimp only; rw [ht]; exact hP⟩, hS.F ht⟩) hS.2.2 d_Mo_throwing_41
    · refine lv_iconst (v := 2) hx hb d_Mo_throwing_13 (by decide) ?_
      refine lv_goto (tgt := 26) hx hb d_Mo_throwing_14 (by decide) ?_
      refine pf_Mo_thrown hF hK hP hL hS m_184 d_Mo_throwing_26 (fun H locs hP hS => ?_)
      refine lv_aload_n hx hb d_Mo_throwing_29 rfl (lv_at hl 0 rfl) ?_
      refine gf_Mo_thrown hF hK hP m_184 d_Mo_throwing_30 ?_
      refine lv_if_le (tgt := 40) hx hb d_Mo_throwing_33 (by decide) (fun c33 => ?_) (fun c33 => ?_)
      · refine lv_iconst (v := 0) hx hb d_Mo_throwing_40 (by decide) ?_
        have hv : ((0, ar, sg sc 0 2) : Int32 × (Nat → Nat → Int32) × (Nat → Int32)) = f_Mo_throwing ar sc a0 a1 a2 := by rw [f_Mo_throwing, if_pos c2, if_neg c10, if_pos c33]
        exact W.zret (ty := .boolean) (v := 0) hx hb hr rfl (fun t ht hW => ⟨⟨0, (ar, sg sc 0 2), rfl, hv, by dsimp only; rw [ht]; exact hP⟩, hS.F ht⟩) hS.2.2 d_Mo_throwing_41
      · refine lv_iconst (v := 1) hx hb d_Mo_throwing_36 (by decide) ?_
        refine lv_goto (tgt := 41) hx hb d_Mo_throwing_37 (by decide) ?_
        have hv : ((1, ar, sg sc 0 2) : Int32 × (Nat → Nat → Int32) × (Nat → Int32)) = f_Mo_throwing ar sc a0 a1 a2 := by rw [f_Mo_throwing, if_pos c2, if_neg c10, if_neg c33]
        exact W.zret (ty := .boolean) (v := 1) hx hb hr rfl (fun t ht hW => ⟨⟨1, (ar, sg sc 0 2), rfl, hv, by dsimp only; rw [ht]; exact hP⟩, hS.F ht⟩) hS.2.2 d_Mo_throwing_41
  · refine lv_iconst (v := 1) hx hb d_Mo_throwing_5 (by decide) ?_
    refine lv_goto (tgt := 26) hx hb d_Mo_throwing_6 (by decide) ?_
    refine pf_Mo_thrown hF hK hP hL hS m_184 d_Mo_throwing_26 (fun H locs hP hS => ?_)
    refine lv_aload_n hx hb d_Mo_throwing_29 rfl (lv_at hl 0 rfl) ?_
    refine gf_Mo_thrown hF hK hP m_184 d_Mo_throwing_30 ?_
    refine lv_if_le (tgt := 40) hx hb d_Mo_throwing_33 (by decide) (fun c33 => ?_) (fun c33 => ?_)
    · refine lv_iconst (v := 0) hx hb d_Mo_throwing_40 (by decide) ?_
      have hv : ((0, ar, sg sc 0 1) : Int32 × (Nat → Nat → Int32) × (Nat → Int32)) = f_Mo_throwing ar sc a0 a1 a2 := by rw [f_Mo_throwing, if_neg c2, if_pos c33]
      exact W.zret (ty := .boolean) (v := 0) hx hb hr rfl (fun t ht hW => ⟨⟨0, (ar, sg sc 0 1), rfl, hv, by dsimp only; rw [ht]; exact hP⟩, hS.F ht⟩) hS.2.2 d_Mo_throwing_41
    · refine lv_iconst (v := 1) hx hb d_Mo_throwing_36 (by decide) ?_
      refine lv_goto (tgt := 41) hx hb d_Mo_throwing_37 (by decide) ?_
      have hv : ((1, ar, sg sc 0 1) : Int32 × (Nat → Nat → Int32) × (Nat → Int32)) = f_Mo_throwing ar sc a0 a1 a2 := by rw [f_Mo_throwing, if_neg c2, if_neg c33]
      exact W.zret (ty := .boolean) (v := 1) hx hb hr rfl (fun t ht hW => ⟨⟨1, (ar, sg sc 0 1), rfl, hv, by dsimp only; rw [ht]; exact hP⟩, hS.F ht⟩) hS.2.2 d_Mo_throwing_41
set_option maxHeartbeats 1000000 in
theorem r_Mo_throwing {p : Program} {l : Launch} {e : Env} {R : Room} {s : State} {m : MethodId} {args : Array Value} {below : List Frame} {meth : Method} {c : Code} {H : Heap} {locs : List Loc} {cells slots : Nat} {Q : State → Prop} {cc : ByteArray} {nL pc idx : Nat} {ls : Array Slot} {rest : List Value} {own : String} {dC : Nat → ClassId} {dI : Nat → Nat → Nat} {L : Nat → Nat} {cA : Nat → ClassId} {ar : Nat → Nat → Int32} {sc : Nat → Int32} {H0 : Heap} {a0 : Int32} {a1 : Int32} {a2 : Int32} (hF : CallFix p m c cc nL s args w_all own) (hK : kW_M dC dI cA s) (hP : va_P (dC, dI) classes (wM L cA ar sc) H) (hL : ij 25 L) (hS : va_S (aM L) H0 H locs) (hlk : Cond.methodLink own idx y_Mo_throwing ∈ w_all) (hsz : ls.size = nL) (hR : (rmD 0).frames + 1 ≤ R.frames ∧ 8 + (4 + 11) + (rmD 0).locals ≤ R.locals) (hc : cells ≤ R.cells ∧ slots ≤ R.slots) (hrs : (rest.map fun v => v.category).sum ≤ 8) (hdg : decode cc pc = .ok (.invokevirtual idx, 3)) (kk : ∀ (H1 : Heap) (locs1 : List Loc), va_P (dC, dI) classes (wM L cA ((f_Mo_throwing ar sc a0 a1 a2).2.1) ((f_Mo_throwing ar sc a0 a1 a2).2.2)) H1 → va_S (aM L) H0 H1 locs1 → W p l e R s m args below meth c H1 locs1 cells slots Q (F0 m (pc + 3) ls (.int (f_Mo_throwing ar sc a0 a1 a2).1 :: rest))) : W p l e R s m args below meth c H locs cells slots Q (F0 m pc ls (.int a2 :: .int a1 :: .int a0 :: .ref (L 0) :: rest)) :=
  va_calli (va_runV (As := [.int a0, .int a1, .int a2]) (rest := rest) hF (c_Mo_throwing l dC dI L cA ar sc a0 a1 a2 hL) (cwV 3 hF.2.2.2.2 (gV hlk m_189 m_190 m_187 m_191) rfl rfl rfl (by decide +kernel) hR) ⟨xb_M, va_recv hK.1 hP (ci := 7) (q0 := 0) rfl rfl, fun U hU hW => ⟨rfl, by rw [hU]; exact hP, kW_M_warm hW hK⟩⟩ rfl rfl hsz rfl (lv_room hrs) hdg hc) hS (fun q _ h9 => h9) (fun q h9 => h9) (fun r u t H1 locs1 ht hvm hw hB hz1 hk1 hS1 => by
    have hk9 := kk H1 locs1 (by rw [← hw, ← ht]; exact hB) hS1
    rw [← hw] at hk9
    exact hk9)
theorem d_Mo_in_0 : decode b_Mo_in 0 = .ok (.iload_n 0, 1) := by decide +kernel
theorem d_Mo_in_1 : decode b_Mo_in 1 = .ok (.iload_n 1, 1) := by decide +kernel
theorem d_Mo_in_2 : decode b_Mo_in 2 = .ok (.if_icmp .lt 12, 3) := by decide +kernel
theorem d_Mo_in_5 : decode b_Mo_in 5 = .ok (.iload_n 0, 1) := by decide +kernel
theorem d_Mo_in_6 : decode b_Mo_in 6 = .ok (.iload_n 2, 1) := by decide +kernel
theorem d_Mo_in_7 : decode b_Mo_in 7 = .ok (.if_icmp .gt 7, 3) := by decide +kernel
theorem d_Mo_in_10 : decode b_Mo_in 10 = .ok (.iconst 1, 1) := by decide +kernel
theorem d_Mo_in_11 : decode b_Mo_in 11 = .ok (.goto 4, 3) := by decide +kernel
theorem d_Mo_in_14 : decode b_Mo_in 14 = .ok (.iconst 0, 1) := by decide +kernel
theorem d_Mo_in_15 : decode b_Mo_in 15 = .ok (.ireturn, 1) := by decide +kernel
set_option maxHeartbeats 4000000 in
set_option maxRecDepth 100000 in
theorem c_Mo_in (l : Launch) (a0 : Int32) (a1 : Int32) (a2 : Int32) : Met l y_Mo_in z_Mo_in (rmD 0) (fun v _ => v = ([.int a0, .int a1, .int a2] : List Value).toArray) (QcRead (f_Mo_in a0 a1 a2)) 0 0 (fun _ => False) := by
  refine Met.ofW (cc := b_Mo_in) (maxL := 3) (ret := (some .boolean)) (by decide) rfl ?_
  intro p e s m args below meth c s₁ B hml hv
  obtain rfl := hv
  have hx := B.exec
  have hb := B.bytes
  have hr := B.returns
  have hts : ∀ w ∈ w_all, w.before _ s = true := fun w hw => atoms_spec (ws := z_Mo_in) B.pre w (List.mem_cons_of_mem _ hw)
  have hown : s.vm.findClass R_Mo = some m.cls := findClass_of_methodNamed B.named
  have hlocks := B.notSynchronized
  have hF : CallFix p m c b_Mo_in 3 s _ w_all R_Mo := ⟨hx, hb, hml, hown, hts⟩
  have hl := lv_entry ([.int a0, .int a1, .int a2]) (n := 3) (Nat.le_of_ble_eq_true rfl)
  rw [lg_entry_eq]
  generalize (lg_sl ([.int a0, .int a1, .int a2]) ++ List.replicate (3 - (lg_sl ([.int a0, .int a1, .int a2])).length) Slot.unset).toArray = ls at hl ⊢
  have hl : lv_has ls 3 [(0, .int a0), (1, .int a1), (2, .int a2)] := hl
  refine lv_iload_n hx hb d_Mo_in_0 rfl (lv_at hl 0 rfl) ?_
  refine lv_iload_n hx hb d_Mo_in_1 rfl (lv_at hl 1 rfl) ?_
  refine lv_icmp_lt (tgt := 14) hx hb d_Mo_in_2 (by decide) (fun c2 => ?_) (fun c2 => ?_)
  · refine lv_iconst (v := 0) hx hb d_Mo_in_14 (by decide) ?_
    have hv : (0 : Int32) = f_Mo_in a0 a1 a2 := by rw [f_Mo_in, if_pos c2]
    exact W.zret (ty := .boolean) (v := 0) hx hb hr rfl (fun t ht hW => ⟨congrArg (fun z => Outcome.returned (some (Value.int z))) hv, ht⟩) (fun _ h9 => nomatch h9) d_Mo_in_15
  · refine lv_iload_n hx hb d_Mo_in_5 rfl (lv_at hl 0 rfl) ?_
    refine lv_iload_n hx hb d_Mo_in_6 rfl (lv_at hl 2 rfl) ?_
    refine lv_icmp_gt (tgt := 14) hx hb d_Mo_in_7 (by decide) (fun c7 => ?_) (fun c7 => ?_)
    · refine lv_iconst (v := 0) hx hb d_Mo_in_14 (by decide) ?_
      have hv : (0 : Int32) = f_Mo_in a0 a1 a2 := by rw [f_Mo_in, if_neg c2, if_pos c7]
      exact W.zret (ty := .boolean) (v := 0) hx hb hr rfl (fun t ht hW => ⟨congrArg (fun z => Outcome.returned (some (Value.int z))) hv, ht⟩) (fun _ h9 => nomatch h9) d_Mo_in_15
    · refine lv_iconst (v := 1) hx hb d_Mo_in_10 (by decide) ?_
      refine lv_goto (tgt := 15) hx hb d_Mo_in_11 (by decide) ?_
      have hv : (1 : Int32) = f_Mo_in a0 a1 a2 := by rw [f_Mo_in, if_neg c2, if_neg c7]
      exact W.zret (ty := .boolean) (v := 1) hx hb hr rfl (fun t ht hW => ⟨congrArg (fun z => Outcome.returned (some (Value.int z))) hv, ht⟩) (fun _ h9 => nomatch h9) d_Mo_in_15
set_option maxHeartbeats 1000000 in
theorem r_Mo_in {p : Program} {l : Launch} {e : Env} {R : Room} {s : State} {m : MethodId} {args : Array Value} {below : List Frame} {meth : Method} {c : Code} {H : Heap} {locs : List Loc} {cells slots : Nat} {Q : State → Prop} {cc : ByteArray} {nL pc idx : Nat} {ls : Array Slot} {rest : List Value} {a0 : Int32} {a1 : Int32} {a2 : Int32} (hF : CallFix p m c cc nL s args w_all R_Mo) (hlk : Cond.methodLink R_Mo idx y_Mo_in ∈ w_all) (hsz : ls.size = nL) (hR : (rmD 0).frames + 1 ≤ R.frames ∧ 8 + (3 + 11) + (rmD 0).locals ≤ R.locals) (hc : cells ≤ R.cells ∧ slots ≤ R.slots) (hrs : (rest.map fun v => v.category).sum ≤ 8) (hdg : decode cc pc = .ok (.invokestatic idx, 3)) (kk : W p l e R s m args below meth c H locs cells slots Q (F0 m (pc + 3) ls (.int (f_Mo_in a0 a1 a2) :: rest))) : W p l e R s m args below meth c H locs cells slots Q (F0 m pc ls (.int a2 :: .int a1 :: .int a0 :: rest)) :=
  W.callR (W.runS (As := [.int a0, .int a1, .int a2]) (rest := rest) hF (c_Mo_in l a0 a1 a2) (cwS 3 hF.2.2.2.2 (gS hlk m_192 m_187 m_193) rfl rfl rfl (by decide +kernel) hR) preEq rfl rfl hsz rfl (lv_room hrs) hdg hc) kk
theorem d_Mo_isPoint_0 : decode b_Mo_isPoint 0 = .ok (.iload_n 1, 1) := by decide +kernel
theorem d_Mo_isPoint_1 : decode b_Mo_isPoint 1 = .ok (.iconst 0, 1) := by decide +kernel
theorem d_Mo_isPoint_2 : decode b_Mo_isPoint 2 = .ok (.aload_n 0, 1) := by decide +kernel
theorem d_Mo_isPoint_3 : decode b_Mo_isPoint 3 = .ok (.getfield 97, 3) := by decide +kernel
theorem d_Mo_isPoint_6 : decode b_Mo_isPoint 6 = .ok (.iconst 1, 1) := by decide +kernel
theorem d_Mo_isPoint_7 : decode b_Mo_isPoint 7 = .ok (.isub, 1) := by decide +kernel
theorem d_Mo_isPoint_8 : decode b_Mo_isPoint 8 = .ok (.invokestatic 100, 3) := by decide +kernel
theorem d_Mo_isPoint_11 : decode b_Mo_isPoint 11 = .ok (.ireturn, 1) := by decide +kernel
set_option maxHeartbeats 4000000 in
set_option maxRecDepth 100000 in
theorem c_Mo_isPoint (l : Launch) (dC : Nat → ClassId) (dI : Nat → Nat → Nat) (L : Nat → Nat) (cA : Nat → ClassId) (ar : Nat → Nat → Int32) (sc : Nat → Int32) (a0 : Int32) : Met l y_Mo_isPoint z_Mo_isPoint (rmD 1) (va_Pc [.ref (L 0), .int a0] (fun U => xw_M dC dI L cA ar sc U)) (QcRead (f_Mo_isPoint ar sc a0)) 0 0 (fun _ => False) := by
  refine Met.ofW (cc := b_Mo_isPoint) (maxL := 2) (ret := (some .boolean)) (by decide) rfl ?_
  intro p e s m args below meth c s₁ B hml hv
  obtain ⟨rfl, ⟨hP, hK⟩⟩ := hv
  have hx := B.exec
  have hb := B.bytes
  have hr := B.returns
  have hts : ∀ w ∈ w_all, w.before _ s = true := fun w hw => atoms_spec (ws := z_Mo_isPoint) B.pre w (List.mem_cons_of_mem _ hw)
  have hown : s.vm.findClass R_Mo = some m.cls := findClass_of_methodNamed B.named
  have hlocks := B.notSynchronized
  have hF : CallFix p m c b_Mo_isPoint 2 s _ w_all R_Mo := ⟨hx, hb, hml, hown, hts⟩
  have hl := lv_entry ([.ref (L 0), .int a0]) (n := 2) (Nat.le_of_ble_eq_true rfl)
  rw [lg_entry_eq]
  generalize (lg_sl ([.ref (L 0), .int a0]) ++ List.replicate (2 - (lg_sl ([.ref (L 0), .int a0])).length) Slot.unset).toArray = ls at hl ⊢
  have hl : lv_has ls 2 [(0, .ref (L 0)), (1, .int a0)] := hl
  refine lv_iload_n hx hb d_Mo_isPoint_0 rfl (lv_at hl 1 rfl) ?_
  refine lv_iconst (v := 0) hx hb d_Mo_isPoint_1 (by decide) ?_
  refine lv_aload_n hx hb d_Mo_isPoint_2 rfl (lv_at hl 0 rfl) ?_
  refine gf_Mo_points hF hK hP m_194 d_Mo_isPoint_3 ?_
  refine lv_iconst (v := 1) hx hb d_Mo_isPoint_6 (by decide) ?_
  refine lv_isub hx hb d_Mo_isPoint_7 ?_
  refine r_Mo_in hF m_195 hl.1 ⟨Nat.le_of_ble_eq_true rfl, Nat.le_of_ble_eq_true rfl⟩ ⟨Nat.zero_le _, Nat.zero_le _⟩ (Nat.le_of_ble_eq_true rfl) d_Mo_isPoint_8 ?_
  have hv : (f_Mo_in a0 0 ((sc 2) - 1) : Int32) = f_Mo_isPoint ar sc a0 := by rw [f_Mo_isPoint]
  exact W.zret (ty := .boolean) (v := f_Mo_in a0 0 ((sc 2) - 1)) hx hb hr (by unfold f_Mo_in; (repeat' split) <;> rfl) (fun t ht hW => ⟨congrArg (fun z => Outcome.returned (some (Value.int z))) hv, ht⟩) (fun _ h9 => nomatch h9) d_Mo_isPoint_11
set_option maxHeartbeats 1000000 in
theorem r_Mo_isPoint {p : Program} {l : Launch} {e : Env} {R : Room} {s : State} {m : MethodId} {args : Array Value} {below : List Frame} {meth : Method} {c : Code} {H : Heap} {locs : List Loc} {cells slots : Nat} {Q : State → Prop} {cc : ByteArray} {nL pc idx : Nat} {ls : Array Slot} {rest : List Value} {own : String} {dC : Nat → ClassId} {dI : Nat → Nat → Nat} {L : Nat → Nat} {cA : Nat → ClassId} {ar : Nat → Nat → Int32} {sc : Nat → Int32} {a0 : Int32} (hF : CallFix p m c cc nL s args w_all own) (hK : kW_M dC dI cA s) (hP : va_P (dC, dI) classes (wM L cA ar sc) H) (hlk : Cond.methodLink own idx y_Mo_isPoint ∈ w_all) (hsz : ls.size = nL) (hR : (rmD 1).frames + 1 ≤ R.frames ∧ 8 + (2 + 11) + (rmD 1).locals ≤ R.locals) (hc : cells ≤ R.cells ∧ slots ≤ R.slots) (hrs : (rest.map fun v => v.category).sum ≤ 8) (hdg : decode cc pc = .ok (.invokevirtual idx, 3)) (kk : W p l e R s m args below meth c H locs cells slots Q (F0 m (pc + 3) ls (.int (f_Mo_isPoint ar sc a0) :: rest))) : W p l e R s m args below meth c H locs cells slots Q (F0 m pc ls (.int a0 :: .ref (L 0) :: rest)) :=
  W.callR (W.runV (As := [.int a0]) (rest := rest) hF (c_Mo_isPoint l dC dI L cA ar sc a0) (cwV 1 hF.2.2.2.2 (gV hlk m_196 m_197 m_187 m_198) rfl rfl rfl (by decide +kernel) hR) ⟨xb_M, va_recv hK.1 hP (ci := 7) (q0 := 0) rfl rfl, fun U hU hW => ⟨rfl, by rw [hU]; exact hP, kW_M_warm hW hK⟩⟩ rfl rfl hsz rfl (lv_room hrs) hdg hc) kk
theorem d_Mo_isMissed_0 : decode b_Mo_isMissed 0 = .ok (.aload_n 0, 1) := by decide +kernel
theorem d_Mo_isMissed_1 : decode b_Mo_isMissed 1 = .ok (.getfield 49, 3) := by decide +kernel
theorem d_Mo_isMissed_4 : decode b_Mo_isMissed 4 = .ok (.iload_n 1, 1) := by decide +kernel
theorem d_Mo_isMissed_5 : decode b_Mo_isMissed 5 = .ok (.iaload, 1) := by decide +kernel
theorem d_Mo_isMissed_6 : decode b_Mo_isMissed 6 = .ok (.ifCond .ne 20, 3) := by decide +kernel
theorem d_Mo_isMissed_9 : decode b_Mo_isMissed 9 = .ok (.aload_n 0, 1) := by decide +kernel
theorem d_Mo_isMissed_10 : decode b_Mo_isMissed 10 = .ok (.getfield 109, 3) := by decide +kernel
theorem d_Mo_isMissed_13 : decode b_Mo_isMissed 13 = .ok (.aload_n 0, 1) := by decide +kernel
theorem d_Mo_isMissed_14 : decode b_Mo_isMissed 14 = .ok (.getfield 46, 3) := by decide +kernel
theorem d_Mo_isMissed_17 : decode b_Mo_isMissed 17 = .ok (.iload_n 1, 1) := by decide +kernel
theorem d_Mo_isMissed_18 : decode b_Mo_isMissed 18 = .ok (.iaload, 1) := by decide +kernel
theorem d_Mo_isMissed_19 : decode b_Mo_isMissed 19 = .ok (.if_icmp .le 7, 3) := by decide +kernel
theorem d_Mo_isMissed_22 : decode b_Mo_isMissed 22 = .ok (.iconst 1, 1) := by decide +kernel
theorem d_Mo_isMissed_23 : decode b_Mo_isMissed 23 = .ok (.goto 4, 3) := by decide +kernel
theorem d_Mo_isMissed_26 : decode b_Mo_isMissed 26 = .ok (.iconst 0, 1) := by decide +kernel
theorem d_Mo_isMissed_27 : decode b_Mo_isMissed 27 = .ok (.ireturn, 1) := by decide +kernel
set_option maxHeartbeats 4000000 in
set_option maxRecDepth 100000 in
theorem c_Mo_isMissed (l : Launch) (dC : Nat → ClassId) (dI : Nat → Nat → Nat) (L : Nat → Nat) (cA : Nat → ClassId) (ar : Nat → Nat → Int32) (sc : Nat → Int32) (a0 : Int32) (h : p_Mo_isMissed ar sc a0) : Met l y_Mo_isMissed z_Mo_isMissed (rmD 0) (va_Pc [.ref (L 0), .int a0] (fun U => xw_M dC dI L cA ar sc U)) (QcRead (f_Mo_isMissed ar sc a0)) 0 0 (fun _ => False) := by
  refine Met.ofW (cc := b_Mo_isMissed) (maxL := 2) (ret := (some .boolean)) (by decide) rfl ?_
  intro p e s m args below meth c s₁ B hml hv
  obtain ⟨rfl, ⟨hP, hK⟩⟩ := hv
  have hx := B.exec
  have hb := B.bytes
  have hr := B.returns
  have hts : ∀ w ∈ w_all, w.before _ s = true := fun w hw => atoms_spec (ws := z_Mo_isMissed) B.pre w (List.mem_cons_of_mem _ hw)
  have hown : s.vm.findClass R_Mo = some m.cls := findClass_of_methodNamed B.named
  have hlocks := B.notSynchronized
  have hF : CallFix p m c b_Mo_isMissed 2 s _ w_all R_Mo := ⟨hx, hb, hml, hown, hts⟩
  have hl := lv_entry ([.ref (L 0), .int a0]) (n := 2) (Nat.le_of_ble_eq_true rfl)
  rw [lg_entry_eq]
  generalize (lg_sl ([.ref (L 0), .int a0]) ++ List.replicate (2 - (lg_sl ([.ref (L 0), .int a0])).length) Slot.unset).toArray = ls at hl ⊢
  have hl : lv_has ls 2 [(0, .ref (L 0)), (1, .int a0)] := hl
  unfold p_Mo_isMissed at h
  refine lv_aload_n hx hb d_Mo_isMissed_0 rfl (lv_at hl 0 rfl) ?_
  refine gf_Mo_proof hF hK hP m_199 d_Mo_isMissed_1 ?_
  refine lv_iload_n hx hb d_Mo_isMissed_4 rfl (lv_at hl 1 rfl) ?_
  have k5 := h.1
  have h := h.2
  refine alM_14 hF hK hP k5 d_Mo_isMissed_5 ?_
  refine lv_if_ne (tgt := 26) hx hb d_Mo_isMissed_6 (by decide) (fun c6 => ?_) (fun c6 => ?_)
  · have h := h.2 c6
    refine lv_iconst (v := 0) hx hb d_Mo_isMissed_26 (by decide) ?_
    have hv : (0 : Int32) = f_Mo_isMissed ar sc a0 := by rw [f_Mo_isMissed, if_neg c6]
    exact W.zret (ty := .boolean) (v := 0) hx hb hr rfl (fun t ht hW => ⟨congrArg (fun z => Outcome.returned (some (Value.int z))) hv, ht⟩) (fun _ h9 => nomatch h9) d_Mo_isMissed_27
  · have h := h.1 c6
    refine lv_aload_n hx hb d_Mo_isMissed_9 rfl (lv_at hl 0 rfl) ?_
    refine gf_Mo_day hF hK hP m_200 d_Mo_isMissed_10 ?_
    refine lv_aload_n hx hb d_Mo_isMissed_13 rfl (lv_at hl 0 rfl) ?_
    refine gf_Mo_until hF hK hP m_201 d_Mo_isMissed_14 ?_
    refine lv_iload_n hx hb d_Mo_isMissed_17 rfl (lv_at hl 1 rfl) ?_
    have k18 := h
    refine alM_13 hF hK hP k18 d_Mo_isMissed_18 ?_
    refine lv_icmp_le (tgt := 26) hx hb d_Mo_isMissed_19 (by decide) (fun c19 => ?_) (fun c19 => ?_)
    · refine lv_iconst (v := 0) hx hb d_Mo_isMissed_26 (by decide) ?_
      have hv : (0 : Int32) = f_Mo_isMissed ar sc a0 := by rw [f_Mo_isMissed, if_pos c6, if_pos c19]
      exact W.zret (ty := .boolean) (v := 0) hx hb hr rfl (fun t ht hW => ⟨congrArg (fun z => Outcome.returned (some (Value.int z))) hv, ht⟩) (fun _ h9 => nomatch h9) d_Mo_isMissed_27
    · refine lv_iconst (v := 1) hx hb d_Mo_isMissed_22 (by decide) ?_
      refine lv_goto (tgt := 27) hx hb d_Mo_isMissed_23 (by decide) ?_
      have hv : (1 : Int32) = f_Mo_isMissed ar sc a0 := by rw [f_Mo_isMissed, if_pos c6, if_neg c19]
      exact W.zret (ty := .boolean) (v := 1) hx hb hr rfl (fun t ht hW => ⟨congrArg (fun z => Outcome.returned (some (Value.int z))) hv, ht⟩) (fun _ h9 => nomatch h9) d_Mo_isMissed_27
set_option maxHeartbeats 1000000 in
theorem r_Mo_isMissed {p : Program} {l : Launch} {e : Env} {R : Room} {s : State} {m : MethodId} {args : Array Value} {below : List Frame} {meth : Method} {c : Code} {H : Heap} {locs : List Loc} {cells slots : Nat} {Q : State → Prop} {cc : ByteArray} {nL pc idx : Nat} {ls : Array Slot} {rest : List Value} {own : String} {dC : Nat → ClassId} {dI : Nat → Nat → Nat} {L : Nat → Nat} {cA : Nat → ClassId} {ar : Nat → Nat → Int32} {sc : Nat → Int32} {a0 : Int32} (hF : CallFix p m c cc nL s args w_all own) (hK : kW_M dC dI cA s) (hP : va_P (dC, dI) classes (wM L cA ar sc) H) (h : p_Mo_isMissed ar sc a0) (hlk : Cond.methodLink own idx y_Mo_isMissed ∈ w_all) (hsz : ls.size = nL) (hR : (rmD 0).frames + 1 ≤ R.frames ∧ 8 + (2 + 11) + (rmD 0).locals ≤ R.locals) (hc : cells ≤ R.cells ∧ slots ≤ R.slots) (hrs : (rest.map fun v => v.category).sum ≤ 8) (hdg : decode cc pc = .ok (.invokevirtual idx, 3)) (kk : W p l e R s m args below meth c H locs cells slots Q (F0 m (pc + 3) ls (.int (f_Mo_isMissed ar sc a0) :: rest))) : W p l e R s m args below meth c H locs cells slots Q (F0 m pc ls (.int a0 :: .ref (L 0) :: rest)) :=
  W.callR (W.runV (As := [.int a0]) (rest := rest) hF (c_Mo_isMissed l dC dI L cA ar sc a0 h) (cwV 1 hF.2.2.2.2 (gV hlk m_202 m_203 m_187 m_204) rfl rfl rfl (by decide +kernel) hR) ⟨xb_M, va_recv hK.1 hP (ci := 7) (q0 := 0) rfl rfl, fun U hU hW => ⟨rfl, by rw [hU]; exact hP, kW_M_warm hW hK⟩⟩ rfl rfl hsz rfl (lv_room hrs) hdg hc) kk
theorem d_Mo_riskOf_0 : decode b_Mo_riskOf 0 = .ok (.aload_n 0, 1) := by decide +kernel
theorem d_Mo_riskOf_1 : decode b_Mo_riskOf 1 = .ok (.getfield 7, 3) := by decide +kernel
theorem d_Mo_riskOf_4 : decode b_Mo_riskOf 4 = .ok (.aload_n 0, 1) := by decide +kernel
theorem d_Mo_riskOf_5 : decode b_Mo_riskOf 5 = .ok (.getfield 22, 3) := by decide +kernel
theorem d_Mo_riskOf_8 : decode b_Mo_riskOf 8 = .ok (.iload_n 1, 1) := by decide +kernel
theorem d_Mo_riskOf_9 : decode b_Mo_riskOf 9 = .ok (.iaload, 1) := by decide +kernel
theorem d_Mo_riskOf_10 : decode b_Mo_riskOf 10 = .ok (.iaload, 1) := by decide +kernel
theorem d_Mo_riskOf_11 : decode b_Mo_riskOf 11 = .ok (.aload_n 0, 1) := by decide +kernel
theorem d_Mo_riskOf_12 : decode b_Mo_riskOf 12 = .ok (.getfield 25, 3) := by decide +kernel
theorem d_Mo_riskOf_15 : decode b_Mo_riskOf 15 = .ok (.iload_n 1, 1) := by decide +kernel
theorem d_Mo_riskOf_16 : decode b_Mo_riskOf 16 = .ok (.iaload, 1) := by decide +kernel
theorem d_Mo_riskOf_17 : decode b_Mo_riskOf 17 = .ok (.bipush 30, 2) := by decide +kernel
theorem d_Mo_riskOf_19 : decode b_Mo_riskOf 19 = .ok (.idiv, 1) := by decide +kernel
theorem d_Mo_riskOf_20 : decode b_Mo_riskOf 20 = .ok (.iadd, 1) := by decide +kernel
theorem d_Mo_riskOf_21 : decode b_Mo_riskOf 21 = .ok (.aload_n 0, 1) := by decide +kernel
theorem d_Mo_riskOf_22 : decode b_Mo_riskOf 22 = .ok (.getfield 28, 3) := by decide +kernel
theorem d_Mo_riskOf_25 : decode b_Mo_riskOf 25 = .ok (.iload_n 1, 1) := by decide +kernel
theorem d_Mo_riskOf_26 : decode b_Mo_riskOf 26 = .ok (.iaload, 1) := by decide +kernel
theorem d_Mo_riskOf_27 : decode b_Mo_riskOf 27 = .ok (.bipush 100, 2) := by decide +kernel
theorem d_Mo_riskOf_29 : decode b_Mo_riskOf 29 = .ok (.idiv, 1) := by decide +kernel
theorem d_Mo_riskOf_30 : decode b_Mo_riskOf 30 = .ok (.iadd, 1) := by decide +kernel
theorem d_Mo_riskOf_31 : decode b_Mo_riskOf 31 = .ok (.istore_n 2, 1) := by decide +kernel
theorem d_Mo_riskOf_32 : decode b_Mo_riskOf 32 = .ok (.iconst 0, 1) := by decide +kernel
theorem d_Mo_riskOf_33 : decode b_Mo_riskOf 33 = .ok (.istore_n 3, 1) := by decide +kernel
theorem d_Mo_riskOf_34 : decode b_Mo_riskOf 34 = .ok (.iload_n 3, 1) := by decide +kernel
theorem d_Mo_riskOf_35 : decode b_Mo_riskOf 35 = .ok (.aload_n 0, 1) := by decide +kernel
theorem d_Mo_riskOf_36 : decode b_Mo_riskOf 36 = .ok (.getfield 117, 3) := by decide +kernel
theorem d_Mo_riskOf_39 : decode b_Mo_riskOf 39 = .ok (.if_icmp .ge 56, 3) := by decide +kernel
theorem d_Mo_riskOf_42 : decode b_Mo_riskOf 42 = .ok (.aload_n 0, 1) := by decide +kernel
theorem d_Mo_riskOf_43 : decode b_Mo_riskOf 43 = .ok (.getfield 40, 3) := by decide +kernel
theorem d_Mo_riskOf_46 : decode b_Mo_riskOf 46 = .ok (.iload_n 3, 1) := by decide +kernel
theorem d_Mo_riskOf_47 : decode b_Mo_riskOf 47 = .ok (.iaload, 1) := by decide +kernel
theorem d_Mo_riskOf_48 : decode b_Mo_riskOf 48 = .ok (.iload_n 1, 1) := by decide +kernel
theorem d_Mo_riskOf_49 : decode b_Mo_riskOf 49 = .ok (.if_icmp .ne 40, 3) := by decide +kernel
theorem d_Mo_riskOf_52 : decode b_Mo_riskOf 52 = .ok (.aload_n 0, 1) := by decide +kernel
theorem d_Mo_riskOf_53 : decode b_Mo_riskOf 53 = .ok (.getfield 49, 3) := by decide +kernel
theorem d_Mo_riskOf_56 : decode b_Mo_riskOf 56 = .ok (.iload_n 3, 1) := by decide +kernel
theorem d_Mo_riskOf_57 : decode b_Mo_riskOf 57 = .ok (.iaload, 1) := by decide +kernel
theorem d_Mo_riskOf_58 : decode b_Mo_riskOf 58 = .ok (.ifCond .ne 31, 3) := by decide +kernel
theorem d_Mo_riskOf_61 : decode b_Mo_riskOf 61 = .ok (.iload_n 2, 1) := by decide +kernel
theorem d_Mo_riskOf_62 : decode b_Mo_riskOf 62 = .ok (.aload_n 0, 1) := by decide +kernel
theorem d_Mo_riskOf_63 : decode b_Mo_riskOf 63 = .ok (.iload_n 3, 1) := by decide +kernel
theorem d_Mo_riskOf_64 : decode b_Mo_riskOf 64 = .ok (.invokevirtual 120, 3) := by decide +kernel
theorem d_Mo_riskOf_67 : decode b_Mo_riskOf 67 = .ok (.ifCond .eq 14, 3) := by decide +kernel
theorem d_Mo_riskOf_70 : decode b_Mo_riskOf 70 = .ok (.iconst 2, 1) := by decide +kernel
theorem d_Mo_riskOf_71 : decode b_Mo_riskOf 71 = .ok (.aload_n 0, 1) := by decide +kernel
theorem d_Mo_riskOf_72 : decode b_Mo_riskOf 72 = .ok (.getfield 43, 3) := by decide +kernel
theorem d_Mo_riskOf_75 : decode b_Mo_riskOf 75 = .ok (.iload_n 3, 1) := by decide +kernel
theorem d_Mo_riskOf_76 : decode b_Mo_riskOf 76 = .ok (.iaload, 1) := by decide +kernel
theorem d_Mo_riskOf_77 : decode b_Mo_riskOf 77 = .ok (.imul, 1) := by decide +kernel
theorem d_Mo_riskOf_78 : decode b_Mo_riskOf 78 = .ok (.goto 9, 3) := by decide +kernel
theorem d_Mo_riskOf_81 : decode b_Mo_riskOf 81 = .ok (.aload_n 0, 1) := by decide +kernel
theorem d_Mo_riskOf_82 : decode b_Mo_riskOf 82 = .ok (.getfield 43, 3) := by decide +kernel
theorem d_Mo_riskOf_85 : decode b_Mo_riskOf 85 = .ok (.iload_n 3, 1) := by decide +kernel
theorem d_Mo_riskOf_86 : decode b_Mo_riskOf 86 = .ok (.iaload, 1) := by decide +kernel
theorem d_Mo_riskOf_87 : decode b_Mo_riskOf 87 = .ok (.iadd, 1) := by decide +kernel
theorem d_Mo_riskOf_88 : decode b_Mo_riskOf 88 = .ok (.istore_n 2, 1) := by decide +kernel
theorem d_Mo_riskOf_89 : decode b_Mo_riskOf 89 = .ok (.iinc 3 1, 3) := by decide +kernel
theorem d_Mo_riskOf_92 : decode b_Mo_riskOf 92 = .ok (.goto (-58), 3) := by decide +kernel
theorem d_Mo_riskOf_95 : decode b_Mo_riskOf 95 = .ok (.iload_n 2, 1) := by decide +kernel
theorem d_Mo_riskOf_96 : decode b_Mo_riskOf 96 = .ok (.ireturn, 1) := by decide +kernel
set_option maxHeartbeats 4000000 in
set_option maxRecDepth 100000 in
theorem l_Mo_riskOf_34 {p : Program} {l : Launch} {e : Env} {s : State} {m : MethodId} {args : Array Value} {below : List Frame} {meth : Method} {c : Code} {dC : Nat → ClassId} {dI : Nat → Nat → Nat} {L : Nat → Nat} {cA : Nat → ClassId} {ar : Nat → Nat → Int32} {sc : Nat → Int32} {Q : State → Prop} {H : Heap} {locs : List Loc} (a0 : Int32)  (hF : CallFix p m c b_Mo_riskOf 4 s args w_all R_Mo) (hK : kW_M dC dI cA s) (hP : va_P (dC, dI) classes (wM L cA ar sc) H) : ∀ (n : Nat) (v2 : Int32) (v3 : Int32), q_Mo_riskOf_34 ar sc a0 n v2 v3 → ∀ (ls : Array Slot), lv_has ls 4 [(2, .int v2), (3, .int v3), (0, .ref (L 0)), (1, .int a0)] → (∀ (ls : Array Slot), lv_has ls 4 [(2, .int ((g_Mo_riskOf_34 ar sc a0 n v2 v3).1)), (3, .int ((g_Mo_riskOf_34 ar sc a0 n v2 v3).2)), (0, .ref (L 0)), (1, .int a0)] → W p l e (rmD 1) s m args below meth c H locs 0 0 Q (F0 m 95 ls [])) → W p l e (rmD 1) s m args below meth c H locs 0 0 Q (F0 m 34 ls []) := by
  have hx := hF.1
  have hb := hF.2.1
  have hown := hF.2.2.2.1
  have hts := hF.2.2.2.2
  intro n
  induction n with
  | zero => intro v2 v3 h; exact False.elim h
  | succ n ih =>
    intro v2 v3 h ls hl hk
    rw [q_Mo_riskOf_34] at h
    refine lv_iload_n hx hb d_Mo_riskOf_34 rfl (lv_at hl 1 rfl) ?_
    refine lv_aload_n hx hb d_Mo_riskOf_35 rfl (lv_at hl 2 rfl) ?_
    refine gf_Mo_findings hF hK hP m_205 d_Mo_riskOf_36 ?_
    refine lv_icmp_ge (tgt := 95) hx hb d_Mo_riskOf_39 (by decide) (fun c39 => ?_) (fun c39 => ?_)
    · have h := h.1 c39
      have hv : g_Mo_riskOf_34 ar sc a0 (n + 1) v2 v3 = ((v2, v3) : Int32 × Int32) := by rw [g_Mo_riskOf_34, if_pos c39]
      rw [hv] at hk
      exact hk ls (lv_sub hl [0, 1, 2, 3] rfl)
    · have h := h.2 c39
      refine lv_aload_n hx hb d_Mo_riskOf_42 rfl (lv_at hl 2 rfl) ?_
      refine gf_Mo_of hF hK hP m_206 d_Mo_riskOf_43 ?_
      refine lv_iload_n hx hb d_Mo_riskOf_46 rfl (lv_at hl 1 rfl) ?_
      have k47 := h.1
      have h := h.2
      refine alM_11 hF hK hP k47 d_Mo_riskOf_47 ?_
      refine lv_iload_n hx hb d_Mo_riskOf_48 rfl (lv_at hl 3 rfl) ?_
      refine lv_icmp_ne (tgt := 89) hx hb d_Mo_riskOf_49 (by decide) (fun c49 => ?_) (fun c49 => ?_)
      · have h := h.2 c49
        refine lv_iinc (v := v3 + 1) (lv' := [(3, .int (v3 + 1)), (2, .int v2), (0, .ref (L 0)), (1, .int a0)]) hx hb d_Mo_riskOf_89 hl (k := 1) rfl rfl (by decide) rfl (fun ls hl => ?_)
        refine lv_goto (tgt := 34) hx hb d_Mo_riskOf_92 (by decide) ?_
        have hv : g_Mo_riskOf_34 ar sc a0 (n + 1) v2 v3 = g_Mo_riskOf_34 ar sc a0 n v2 (v3 + 1) := by rw [g_Mo_riskOf_34, if_neg c39, if_neg c49]
        rw [hv] at hk
        exact ih v2 (v3 + 1) h ls (lv_sub hl [1, 0, 2, 3] rfl) hk
      · have h := h.1 c49
        refine lv_aload_n hx hb d_Mo_riskOf_52 rfl (lv_at hl 2 rfl) ?_
        refine gf_Mo_proof hF hK hP m_199 d_Mo_riskOf_53 ?_
        refine lv_iload_n hx hb d_Mo_riskOf_56 rfl (lv_at hl 1 rfl) ?_
        have k57 := h.1
        have h := h.2
        refine alM_14 hF hK hP k57 d_Mo_riskOf_57 ?_
        refine lv_if_ne (tgt := 89) hx hb d_Mo_riskOf_58 (by decide) (fun c58 => ?_) (fun c58 => ?_)
        · have h := h.2 c58
          refine lv_iinc (v := v3 + 1) (lv' := [(3, .int (v3 + 1)), (2, .int v2), (0, .ref (L 0)), (1, .int a0)]) hx hb d_Mo_riskOf_89 hl (k := 1) rfl rfl (by decide) rfl (fun ls hl => ?_)
          refine lv_goto (tgt := 34) hx hb d_Mo_riskOf_92 (by decide) ?_
          have hv : g_Mo_riskOf_34 ar sc a0 (n + 1) v2 v3 = g_Mo_riskOf_34 ar sc a0 n v2 (v3 + 1) := by rw [g_Mo_riskOf_34, if_neg c39, if_pos c49, if_neg c58]
          rw [hv] at hk
          exact ih v2 (v3 + 1) h ls (lv_sub hl [1, 0, 2, 3] rfl) hk
        · have h := h.1 c58
          refine lv_iload_n hx hb d_Mo_riskOf_61 rfl (lv_at hl 0 rfl) ?_
          refine lv_aload_n hx hb d_Mo_riskOf_62 rfl (lv_at hl 2 rfl) ?_
          refine lv_iload_n hx hb d_Mo_riskOf_63 rfl (lv_at hl 1 rfl) ?_
          have k64 := h.1
          have h := h.2
          refine r_Mo_isMissed hF hK hP k64 m_207 hl.1 ⟨Nat.le_of_ble_eq_true rfl, Nat.le_of_ble_eq_true rfl⟩ ⟨Nat.zero_le _, Nat.zero_le _⟩ (Nat.le_of_ble_eq_true rfl) d_Mo_riskOf_64 ?_
          refine lv_if_eq (tgt := 81) hx hb d_Mo_riskOf_67 (by decide) (fun c67 => ?_) (fun c67 => ?_)
          · have h := h.1 c67
            refine lv_aload_n hx hb d_Mo_riskOf_81 rfl (lv_at hl 2 rfl) ?_
            refine gf_Mo_heavy hF hK hP m_208 d_Mo_riskOf_82 ?_
            refine lv_iload_n hx hb d_Mo_riskOf_85 rfl (lv_at hl 1 rfl) ?_
            have k86 := h.1
            have h := h.2
            refine alM_12 hF hK hP k86 d_Mo_riskOf_86 ?_
            refine lv_iadd hx hb d_Mo_riskOf_87 ?_
            refine lv_istore_n (lv' := [(2, .int (v2 + (ar 12 v3.toNatClampNeg))), (3, .int v3), (0, .ref (L 0)), (1, .int a0)]) hx hb d_Mo_riskOf_88 rfl hl (by decide) rfl (fun ls hl => ?_)
            refine lv_iinc (v := v3 + 1) (lv' := [(3, .int (v3 + 1)), (2, .int (v2 + (ar 12 v3.toNatClampNeg))), (0, .ref (L 0)), (1, .int a0)]) hx hb d_Mo_riskOf_89 hl (k := 1) rfl rfl (by decide) rfl (fun ls hl => ?_)
            refine lv_goto (tgt := 34) hx hb d_Mo_riskOf_92 (by decide) ?_
            have hv : g_Mo_riskOf_34 ar sc a0 (n + 1) v2 v3 = g_Mo_riskOf_34 ar sc a0 n (v2 + (ar 12 v3.toNatClampNeg)) (v3 + 1) := by rw [g_Mo_riskOf_34, if_neg c39, if_pos c49, if_pos c58, if_pos c67]
            rw [hv] at hk
            exact ih (v2 + (ar 12 v3.toNatClampNeg)) (v3 + 1) h ls (lv_sub hl [1, 0, 2, 3] rfl) hk
          · have h := h.2 c67
            refine lv_iconst (v := 2) hx hb d_Mo_riskOf_70 (by decide) ?_
            refine lv_aload_n hx hb d_Mo_riskOf_71 rfl (lv_at hl 2 rfl) ?_
            refine gf_Mo_heavy hF hK hP m_208 d_Mo_riskOf_72 ?_
            refine lv_iload_n hx hb d_Mo_riskOf_75 rfl (lv_at hl 1 rfl) ?_
            have k76 := h.1
            have h := h.2
            refine alM_12 hF hK hP k76 d_Mo_riskOf_76 ?_
            refine lv_imul hx hb d_Mo_riskOf_77 ?_
            refine lv_goto (tgt := 87) hx hb d_Mo_riskOf_78 (by decide) ?_
            refine lv_iadd hx hb d_Mo_riskOf_87 ?_
            refine lv_istore_n (lv' := [(2, .int (v2 + (2 * (ar 12 v3.toNatClampNeg)))), (3, .int v3), (0, .ref (L 0)), (1, .int a0)]) hx hb d_Mo_riskOf_88 rfl hl (by decide) rfl (fun ls hl => ?_)
            refine lv_iinc (v := v3 + 1) (lv' := [(3, .int (v3 + 1)), (2, .int (v2 + (2 * (ar 12 v3.toNatClampNeg)))), (0, .ref (L 0)), (1, .int a0)]) hx hb d_Mo_riskOf_89 hl (k := 1) rfl rfl (by decide) rfl (fun ls hl => ?_)
            refine lv_goto (tgt := 34) hx hb d_Mo_riskOf_92 (by decide) ?_
            have hv : g_Mo_riskOf_34 ar sc a0 (n + 1) v2 v3 = g_Mo_riskOf_34 ar sc a0 n (v2 + (2 * (ar 12 v3.toNatClampNeg))) (v3 + 1) := by rw [g_Mo_riskOf_34, if_neg c39, if_pos c49, if_pos c58, if_neg c67]
            rw [hv] at hk
            exact ih (v2 + (2 * (ar 12 v3.toNatClampNeg))) (v3 + 1) h ls (lv_sub hl [1, 0, 2, 3] rfl) hk
set_option maxHeartbeats 4000000 in
set_option maxRecDepth 100000 in
theorem c_Mo_riskOf (l : Launch) (dC : Nat → ClassId) (dI : Nat → Nat → Nat) (L : Nat → Nat) (cA : Nat → ClassId) (ar : Nat → Nat → Int32) (sc : Nat → Int32) (a0 : Int32) (h : p_Mo_riskOf ar sc a0) : Met l y_Mo_riskOf z_Mo_riskOf (rmD 1) (va_Pc [.ref (L 0), .int a0] (fun U => xw_M dC dI L cA ar sc U)) (QcRead (f_Mo_riskOf ar sc a0)) 0 0 (fun _ => False) := by
  refine Met.ofW (cc := b_Mo_riskOf) (maxL := 4) (ret := (some .int)) (by decide) rfl ?_
  intro p e s m args below meth c s₁ B hml hv
  obtain ⟨rfl, ⟨hP, hK⟩⟩ := hv
  have hx := B.exec
  have hb := B.bytes
  have hr := B.returns
  have hts : ∀ w ∈ w_all, w.before _ s = true := fun w hw => atoms_spec (ws := z_Mo_riskOf) B.pre w (List.mem_cons_of_mem _ hw)
  have hown : s.vm.findClass R_Mo = some m.cls := findClass_of_methodNamed B.named
  have hlocks := B.notSynchronized
  have hF : CallFix p m c b_Mo_riskOf 4 s _ w_all R_Mo := ⟨hx, hb, hml, hown, hts⟩
  have hl := lv_entry ([.ref (L 0), .int a0]) (n := 4) (Nat.le_of_ble_eq_true rfl)
  rw [lg_entry_eq]
  generalize (lg_sl ([.ref (L 0), .int a0]) ++ List.replicate (4 - (lg_sl ([.ref (L 0), .int a0])).length) Slot.unset).toArray = ls at hl ⊢
  have hl : lv_has ls 4 [(0, .ref (L 0)), (1, .int a0)] := hl
  unfold p_Mo_riskOf at h
  refine lv_aload_n hx hb d_Mo_riskOf_0 rfl (lv_at hl 0 rfl) ?_
  refine gf_Mo_weight hF hK hP m_209 d_Mo_riskOf_1 ?_
  refine lv_aload_n hx hb d_Mo_riskOf_4 rfl (lv_at hl 0 rfl) ?_
  refine gf_Mo_kind hF hK hP m_210 d_Mo_riskOf_5 ?_
  refine lv_iload_n hx hb d_Mo_riskOf_8 rfl (lv_at hl 1 rfl) ?_
  have k9 := h.1
  have h := h.2
  refine alM_5 hF hK hP k9 d_Mo_riskOf_9 ?_
  have k10 := h.1
  have h := h.2
  refine alM_1 hF hK hP k10 d_Mo_riskOf_10 ?_
  refine lv_aload_n hx hb d_Mo_riskOf_11 rfl (lv_at hl 0 rfl) ?_
  refine gf_Mo_height hF hK hP m_211 d_Mo_riskOf_12 ?_
  refine lv_iload_n hx hb d_Mo_riskOf_15 rfl (lv_at hl 1 rfl) ?_
  have k16 := h.1
  have h := h.2
  refine alM_6 hF hK hP k16 d_Mo_riskOf_16 ?_
  refine lv_bipush (v := 30) hx hb d_Mo_riskOf_17 (by decide) ?_
  refine lv_idiv hx hb d_Mo_riskOf_19 (by decide) ?_
  refine lv_iadd hx hb d_Mo_riskOf_20 ?_
  refine lv_aload_n hx hb d_Mo_riskOf_21 rfl (lv_at hl 0 rfl) ?_
  refine gf_Mo_people hF hK hP m_212 d_Mo_riskOf_22 ?_
  refine lv_iload_n hx hb d_Mo_riskOf_25 rfl (lv_at hl 1 rfl) ?_
  have k26 := h.1
  have h := h.2
  refine alM_7 hF hK hP k26 d_Mo_riskOf_26 ?_
  refine lv_bipush (v := 100) hx hb d_Mo_riskOf_27 (by decide) ?_
  refine lv_idiv hx hb d_Mo_riskOf_29 (by decide) ?_
  refine lv_iadd hx hb d_Mo_riskOf_30 ?_
  refine lv_istore_n (lv' := [(2, .int (((ar 1 ((ar 5 a0.toNatClampNeg).toNatClampNeg)) + ((ar 6 a0.toNatClampNeg) / 30)) + ((ar 7 a0.toNatClampNeg) / 100))), (0, .ref (L 0)), (1, .int a0)]) hx hb d_Mo_riskOf_31 rfl hl (by decide) rfl (fun ls hl => ?_)
  refine lv_iconst (v := 0) hx hb d_Mo_riskOf_32 (by decide) ?_
  refine lv_istore_n (lv' := [(3, .int 0), (2, .int (((ar 1 ((ar 5 a0.toNatClampNeg).toNatClampNeg)) + ((ar 6 a0.toNatClampNeg) / 30)) + ((ar 7 a0.toNatClampNeg) / 100))), (0, .ref (L 0)), (1, .int a0)]) hx hb d_Mo_riskOf_33 rfl hl (by decide) rfl (fun ls hl => ?_)
  have kL34 := h
  refine l_Mo_riskOf_34 a0 hF hK hP 200 (((ar 1 ((ar 5 a0.toNatClampNeg).toNatClampNeg)) + ((ar 6 a0.toNatClampNeg) / 30)) + ((ar 7 a0.toNatClampNeg) / 100)) 0 kL34 ls (lv_sub hl [1, 0, 2, 3] rfl) (fun ls hl => ?_)
  refine lv_iload_n hx hb d_Mo_riskOf_95 rfl (lv_at hl 0 rfl) ?_
  have hv : ((g_Mo_riskOf_34 ar sc a0 200 (((ar 1 ((ar 5 a0.toNatClampNeg).toNatClampNeg)) + ((ar 6 a0.toNatClampNeg) / 30)) + ((ar 7 a0.toNatClampNeg) / 100)) 0).1 : Int32) = f_Mo_riskOf ar sc a0 := by rw [f_Mo_riskOf]
  exact W.iret (v := (g_Mo_riskOf_34 ar sc a0 200 (((ar 1 ((ar 5 a0.toNatClampNeg).toNatClampNeg)) + ((ar 6 a0.toNatClampNeg) / 30)) + ((ar 7 a0.toNatClampNeg) / 100)) 0).1) hx hb hr (fun t ht hW => ⟨congrArg (fun z => Outcome.returned (some (Value.int z))) hv, ht⟩) (fun _ h9 => nomatch h9) d_Mo_riskOf_96
set_option maxHeartbeats 1000000 in
theorem r_Mo_riskOf {p : Program} {l : Launch} {e : Env} {R : Room} {s : State} {m : MethodId} {args : Array Value} {below : List Frame} {meth : Method} {c : Code} {H : Heap} {locs : List Loc} {cells slots : Nat} {Q : State → Prop} {cc : ByteArray} {nL pc idx : Nat} {ls : Array Slot} {rest : List Value} {own : String} {dC : Nat → ClassId} {dI : Nat → Nat → Nat} {L : Nat → Nat} {cA : Nat → ClassId} {ar : Nat → Nat → Int32} {sc : Nat → Int32} {a0 : Int32} (hF : CallFix p m c cc nL s args w_all own) (hK : kW_M dC dI cA s) (hP : va_P (dC, dI) classes (wM L cA ar sc) H) (h : p_Mo_riskOf ar sc a0) (hlk : Cond.methodLink own idx y_Mo_riskOf ∈ w_all) (hsz : ls.size = nL) (hR : (rmD 1).frames + 1 ≤ R.frames ∧ 8 + (4 + 11) + (rmD 1).locals ≤ R.locals) (hc : cells ≤ R.cells ∧ slots ≤ R.slots) (hrs : (rest.map fun v => v.category).sum ≤ 8) (hdg : decode cc pc = .ok (.invokevirtual idx, 3)) (kk : W p l e R s m args below meth c H locs cells slots Q (F0 m (pc + 3) ls (.int (f_Mo_riskOf ar sc a0) :: rest))) : W p l e R s m args below meth c H locs cells slots Q (F0 m pc ls (.int a0 :: .ref (L 0) :: rest)) :=
  W.callR (W.runV (As := [.int a0]) (rest := rest) hF (c_Mo_riskOf l dC dI L cA ar sc a0 h) (cwV 1 hF.2.2.2.2 (gV hlk m_213 m_214 m_187 m_215) rfl rfl rfl (by decide +kernel) hR) ⟨xb_M, va_recv hK.1 hP (ci := 7) (q0 := 0) rfl rfl, fun U hU hW => ⟨rfl, by rw [hU]; exact hP, kW_M_warm hW hK⟩⟩ rfl rfl hsz rfl (lv_room hrs) hdg hc) kk
theorem d_Mo_classOf_0 : decode b_Mo_classOf 0 = .ok (.aload_n 0, 1) := by decide +kernel
theorem d_Mo_classOf_1 : decode b_Mo_classOf 1 = .ok (.iload_n 1, 1) := by decide +kernel
theorem d_Mo_classOf_2 : decode b_Mo_classOf 2 = .ok (.invokevirtual 123, 3) := by decide +kernel
theorem d_Mo_classOf_5 : decode b_Mo_classOf 5 = .ok (.istore_n 2, 1) := by decide +kernel
theorem d_Mo_classOf_6 : decode b_Mo_classOf 6 = .ok (.iconst 0, 1) := by decide +kernel
theorem d_Mo_classOf_7 : decode b_Mo_classOf 7 = .ok (.istore_n 3, 1) := by decide +kernel
theorem d_Mo_classOf_8 : decode b_Mo_classOf 8 = .ok (.iconst 0, 1) := by decide +kernel
theorem d_Mo_classOf_9 : decode b_Mo_classOf 9 = .ok (.istore 4, 2) := by decide +kernel
theorem d_Mo_classOf_11 : decode b_Mo_classOf 11 = .ok (.iload 4, 2) := by decide +kernel
theorem d_Mo_classOf_13 : decode b_Mo_classOf 13 = .ok (.iconst 3, 1) := by decide +kernel
theorem d_Mo_classOf_14 : decode b_Mo_classOf 14 = .ok (.if_icmp .ge 28, 3) := by decide +kernel
theorem d_Mo_classOf_17 : decode b_Mo_classOf 17 = .ok (.iload_n 3, 1) := by decide +kernel
theorem d_Mo_classOf_18 : decode b_Mo_classOf 18 = .ok (.aload_n 0, 1) := by decide +kernel
theorem d_Mo_classOf_19 : decode b_Mo_classOf 19 = .ok (.getfield 13, 3) := by decide +kernel
theorem d_Mo_classOf_22 : decode b_Mo_classOf 22 = .ok (.iload 4, 2) := by decide +kernel
theorem d_Mo_classOf_24 : decode b_Mo_classOf 24 = .ok (.iaload, 1) := by decide +kernel
theorem d_Mo_classOf_25 : decode b_Mo_classOf 25 = .ok (.iload_n 2, 1) := by decide +kernel
theorem d_Mo_classOf_26 : decode b_Mo_classOf 26 = .ok (.if_icmp .gt 7, 3) := by decide +kernel
theorem d_Mo_classOf_29 : decode b_Mo_classOf 29 = .ok (.iconst 1, 1) := by decide +kernel
theorem d_Mo_classOf_30 : decode b_Mo_classOf 30 = .ok (.goto 4, 3) := by decide +kernel
theorem d_Mo_classOf_33 : decode b_Mo_classOf 33 = .ok (.iconst 0, 1) := by decide +kernel
theorem d_Mo_classOf_34 : decode b_Mo_classOf 34 = .ok (.iadd, 1) := by decide +kernel
theorem d_Mo_classOf_35 : decode b_Mo_classOf 35 = .ok (.istore_n 3, 1) := by decide +kernel
theorem d_Mo_classOf_36 : decode b_Mo_classOf 36 = .ok (.iinc 4 1, 3) := by decide +kernel
theorem d_Mo_classOf_39 : decode b_Mo_classOf 39 = .ok (.goto (-28), 3) := by decide +kernel
theorem d_Mo_classOf_42 : decode b_Mo_classOf 42 = .ok (.iload_n 3, 1) := by decide +kernel
theorem d_Mo_classOf_43 : decode b_Mo_classOf 43 = .ok (.ireturn, 1) := by decide +kernel
set_option maxHeartbeats 4000000 in
set_option maxRecDepth 100000 in
theorem l_Mo_classOf_11 {p : Program} {l : Launch} {e : Env} {s : State} {m : MethodId} {args : Array Value} {below : List Frame} {meth : Method} {c : Code} {dC : Nat → ClassId} {dI : Nat → Nat → Nat} {L : Nat → Nat} {cA : Nat → ClassId} {ar : Nat → Nat → Int32} {sc : Nat → Int32} {Q : State → Prop} {H : Heap} {locs : List Loc} (a0 : Int32) (u2 : Int32) (hF : CallFix p m c b_Mo_classOf 5 s args w_all R_Mo) (hK : kW_M dC dI cA s) (hP : va_P (dC, dI) classes (wM L cA ar sc) H) : ∀ (n : Nat) (v3 : Int32) (v4 : Int32), q_Mo_classOf_11 ar sc a0 u2 n v3 v4 → ∀ (ls : Array Slot), lv_has ls 5 [(3, .int v3), (4, .int v4), (0, .ref (L 0)), (1, .int a0), (2, .int u2)] → (∀ (ls : Array Slot), lv_has ls 5 [(3, .int ((g_Mo_classOf_11 ar sc a0 u2 n v3 v4).1)), (4, .int ((g_Mo_classOf_11 ar sc a0 u2 n v3 v4).2)), (0, .ref (L 0)), (1, .int a0), (2, .int u2)] → W p l e (rmD 2) s m args below meth c H locs 0 0 Q (F0 m 42 ls [])) → W p l e (rmD 2) s m args below meth c H locs 0 0 Q (F0 m 11 ls []) := by
  have hx := hF.1
  have hb := hF.2.1
  have hown := hF.2.2.2.1
  have hts := hF.2.2.2.2
  intro n
  induction n with
  | zero => intro v3 v4 h; exact False.elim h
  | succ n ih =>
    intro v3 v4 h ls hl hk
    rw [q_Mo_classOf_11] at h
    refine lv_iload hx hb d_Mo_classOf_11 (lv_at hl 1 rfl) ?_
    refine lv_iconst (v := 3) hx hb d_Mo_classOf_13 (by decide) ?_
    refine lv_icmp_ge (tgt := 42) hx hb d_Mo_classOf_14 (by decide) (fun c14 => ?_) (fun c14 => ?_)
    · have h := h.1 c14
      have hv : g_Mo_classOf_11 ar sc a0 u2 (n + 1) v3 v4 = ((v3, v4) : Int32 × Int32) := by rw [g_Mo_classOf_11, if_pos c14]
      rw [hv] at hk
      exact hk ls (lv_sub hl [0, 1, 2, 3, 4] rfl)
    · have h := h.2 c14
      refine lv_iload_n hx hb d_Mo_classOf_17 rfl (lv_at hl 0 rfl) ?_
      refine lv_aload_n hx hb d_Mo_classOf_18 rfl (lv_at hl 2 rfl) ?_
      refine gf_Mo_step hF hK hP m_216 d_Mo_classOf_19 ?_
      refine lv_iload hx hb d_Mo_classOf_22 (lv_at hl 1 rfl) ?_
      have k24 := h.1
      have h := h.2
      refine alM_2 hF hK hP k24 d_Mo_classOf_24 ?_
      refine lv_iload_n hx hb d_Mo_classOf_25 rfl (lv_at hl 4 rfl) ?_
      refine lv_icmp_gt (tgt := 33) hx hb d_Mo_classOf_26 (by decide) (fun c26 => ?_) (fun c26 => ?_)
      · have h := h.1 c26
        refine lv_iconst (v := 0) hx hb d_Mo_classOf_33 (by decide) ?_
        refine lv_iadd hx hb d_Mo_classOf_34 ?_
        refine lv_istore_n (lv' := [(3, .int (v3 + 0)), (4, .int v4), (0, .ref (L 0)), (1, .int a0), (2, .int u2)]) hx hb d_Mo_classOf_35 rfl hl (by decide) rfl (fun ls hl => ?_)
        refine lv_iinc (v := v4 + 1) (lv' := [(4, .int (v4 + 1)), (3, .int (v3 + 0)), (0, .ref (L 0)), (1, .int a0), (2, .int u2)]) hx hb d_Mo_classOf_36 hl (k := 1) rfl rfl (by decide) rfl (fun ls hl => ?_)
        refine lv_goto (tgt := 11) hx hb d_Mo_classOf_39 (by decide) ?_
        have hv : g_Mo_classOf_11 ar sc a0 u2 (n + 1) v3 v4 = g_Mo_classOf_11 ar sc a0 u2 n (v3 + 0) (v4 + 1) := by rw [g_Mo_classOf_11, if_neg c14, if_pos c26]
        rw [hv] at hk
        exact ih (v3 + 0) (v4 + 1) h ls (lv_sub hl [1, 0, 2, 3, 4] rfl) hk
      · have h := h.2 c26
        refine lv_iconst (v := 1) hx hb d_Mo_classOf_29 (by decide) ?_
        refine lv_goto (tgt := 34) hx hb d_Mo_classOf_30 (by decide) ?_
        refine lv_iadd hx hb d_Mo_classOf_34 ?_
        refine lv_istore_n (lv' := [(3, .int (v3 + 1)), (4, .int v4), (0, .ref (L 0)), (1, .int a0), (2, .int u2)]) hx hb d_Mo_classOf_35 rfl hl (by decide) rfl (fun ls hl => ?_)
        refine lv_iinc (v := v4 + 1) (lv' := [(4, .int (v4 + 1)), (3, .int (v3 + 1)), (0, .ref (L 0)), (1, .int a0), (2, .int u2)]) hx hb d_Mo_classOf_36 hl (k := 1) rfl rfl (by decide) rfl (fun ls hl => ?_)
        refine lv_goto (tgt := 11) hx hb d_Mo_classOf_39 (by decide) ?_
        have hv : g_Mo_classOf_11 ar sc a0 u2 (n + 1) v3 v4 = g_Mo_classOf_11 ar sc a0 u2 n (v3 + 1) (v4 + 1) := by rw [g_Mo_classOf_11, if_neg c14, if_neg c26]
        rw [hv] at hk
        exact ih (v3 + 1) (v4 + 1) h ls (lv_sub hl [1, 0, 2, 3, 4] rfl) hk
set_option maxHeartbeats 4000000 in
set_option maxRecDepth 100000 in
theorem c_Mo_classOf (l : Launch) (dC : Nat → ClassId) (dI : Nat → Nat → Nat) (L : Nat → Nat) (cA : Nat → ClassId) (ar : Nat → Nat → Int32) (sc : Nat → Int32) (a0 : Int32) (h : p_Mo_classOf ar sc a0) : Met l y_Mo_classOf z_Mo_classOf (rmD 2) (va_Pc [.ref (L 0), .int a0] (fun U => xw_M dC dI L cA ar sc U)) (QcRead (f_Mo_classOf ar sc a0)) 0 0 (fun _ => False) := by
  refine Met.ofW (cc := b_Mo_classOf) (maxL := 5) (ret := (some .int)) (by decide) rfl ?_
  intro p e s m args below meth c s₁ B hml hv
  obtain ⟨rfl, ⟨hP, hK⟩⟩ := hv
  have hx := B.exec
  have hb := B.bytes
  have hr := B.returns
  have hts : ∀ w ∈ w_all, w.before _ s = true := fun w hw => atoms_spec (ws := z_Mo_classOf) B.pre w (List.mem_cons_of_mem _ hw)
  have hown : s.vm.findClass R_Mo = some m.cls := findClass_of_methodNamed B.named
  have hlocks := B.notSynchronized
  have hF : CallFix p m c b_Mo_classOf 5 s _ w_all R_Mo := ⟨hx, hb, hml, hown, hts⟩
  have hl := lv_entry ([.ref (L 0), .int a0]) (n := 5) (Nat.le_of_ble_eq_true rfl)
  rw [lg_entry_eq]
  generalize (lg_sl ([.ref (L 0), .int a0]) ++ List.replicate (5 - (lg_sl ([.ref (L 0), .int a0])).length) Slot.unset).toArray = ls at hl ⊢
  have hl : lv_has ls 5 [(0, .ref (L 0)), (1, .int a0)] := hl
  unfold p_Mo_classOf at h
  refine lv_aload_n hx hb d_Mo_classOf_0 rfl (lv_at hl 0 rfl) ?_
  refine lv_iload_n hx hb d_Mo_classOf_1 rfl (lv_at hl 1 rfl) ?_
  have k2 := h.1
  have h := h.2
  refine r_Mo_riskOf hF hK hP k2 m_217 hl.1 ⟨Nat.le_of_ble_eq_true rfl, Nat.le_of_ble_eq_true rfl⟩ ⟨Nat.zero_le _, Nat.zero_le _⟩ (Nat.le_of_ble_eq_true rfl) d_Mo_classOf_2 ?_
  refine lv_istore_n (lv' := [(2, .int (f_Mo_riskOf ar sc a0)), (0, .ref (L 0)), (1, .int a0)]) hx hb d_Mo_classOf_5 rfl hl (by decide) rfl (fun ls hl => ?_)
  refine lv_iconst (v := 0) hx hb d_Mo_classOf_6 (by decide) ?_
  refine lv_istore_n (lv' := [(3, .int 0), (2, .int (f_Mo_riskOf ar sc a0)), (0, .ref (L 0)), (1, .int a0)]) hx hb d_Mo_classOf_7 rfl hl (by decide) rfl (fun ls hl => ?_)
  refine lv_iconst (v := 0) hx hb d_Mo_classOf_8 (by decide) ?_
  refine lv_istore (lv' := [(4, .int 0), (3, .int 0), (2, .int (f_Mo_riskOf ar sc a0)), (0, .ref (L 0)), (1, .int a0)]) hx hb d_Mo_classOf_9 hl (by decide) rfl (fun ls hl => ?_)
  have kL11 := h
  refine l_Mo_classOf_11 a0 (f_Mo_riskOf ar sc a0) hF hK hP 200 0 0 kL11 ls (lv_sub hl [1, 0, 3, 4, 2] rfl) (fun ls hl => ?_)
  refine lv_iload_n hx hb d_Mo_classOf_42 rfl (lv_at hl 0 rfl) ?_
  have hv : ((g_Mo_classOf_11 ar sc a0 (f_Mo_riskOf ar sc a0) 200 0 0).1 : Int32) = f_Mo_classOf ar sc a0 := by rw [f_Mo_classOf]
  exact W.iret (v := (g_Mo_classOf_11 ar sc a0 (f_Mo_riskOf ar sc a0) 200 0 0).1) hx hb hr (fun t ht hW => ⟨congrArg (fun z => Outcome.returned (some (Value.int z))) hv, ht⟩) (fun _ h9 => nomatch h9) d_Mo_classOf_43
set_option maxHeartbeats 1000000 in
theorem r_Mo_classOf {p : Program} {l : Launch} {e : Env} {R : Room} {s : State} {m : MethodId} {args : Array Value} {below : List Frame} {meth : Method} {c : Code} {H : Heap} {locs : List Loc} {cells slots : Nat} {Q : State → Prop} {cc : ByteArray} {nL pc idx : Nat} {ls : Array Slot} {rest : List Value} {own : String} {dC : Nat → ClassId} {dI : Nat → Nat → Nat} {L : Nat → Nat} {cA : Nat → ClassId} {ar : Nat → Nat → Int32} {sc : Nat → Int32} {a0 : Int32} (hF : CallFix p m c cc nL s args w_all own) (hK : kW_M dC dI cA s) (hP : va_P (dC, dI) classes (wM L cA ar sc) H) (h : p_Mo_classOf ar sc a0) (hlk : Cond.methodLink own idx y_Mo_classOf ∈ w_all) (hsz : ls.size = nL) (hR : (rmD 2).frames + 1 ≤ R.frames ∧ 8 + (5 + 11) + (rmD 2).locals ≤ R.locals) (hc : cells ≤ R.cells ∧ slots ≤ R.slots) (hrs : (rest.map fun v => v.category).sum ≤ 8) (hdg : decode cc pc = .ok (.invokevirtual idx, 3)) (kk : W p l e R s m args below meth c H locs cells slots Q (F0 m (pc + 3) ls (.int (f_Mo_classOf ar sc a0) :: rest))) : W p l e R s m args below meth c H locs cells slots Q (F0 m pc ls (.int a0 :: .ref (L 0) :: rest)) :=
  W.callR (W.runV (As := [.int a0]) (rest := rest) hF (c_Mo_classOf l dC dI L cA ar sc a0 h) (cwV 1 hF.2.2.2.2 (gV hlk m_218 m_219 m_187 m_220) rfl rfl rfl (by decide +kernel) hR) ⟨xb_M, va_recv hK.1 hP (ci := 7) (q0 := 0) rfl rfl, fun U hU hW => ⟨rfl, by rw [hU]; exact hP, kW_M_warm hW hK⟩⟩ rfl rfl hsz rfl (lv_room hrs) hdg hc) kk
theorem d_Mo_add_0 : decode b_Mo_add 0 = .ok (.aload_n 0, 1) := by decide +kernel
theorem d_Mo_add_1 : decode b_Mo_add 1 = .ok (.getfield 40, 3) := by decide +kernel
theorem d_Mo_add_4 : decode b_Mo_add 4 = .ok (.aload_n 0, 1) := by decide +kernel
theorem d_Mo_add_5 : decode b_Mo_add 5 = .ok (.getfield 117, 3) := by decide +kernel
theorem d_Mo_add_8 : decode b_Mo_add 8 = .ok (.iload_n 1, 1) := by decide +kernel
theorem d_Mo_add_9 : decode b_Mo_add 9 = .ok (.iastore, 1) := by decide +kernel
theorem d_Mo_add_10 : decode b_Mo_add 10 = .ok (.aload_n 0, 1) := by decide +kernel
theorem d_Mo_add_11 : decode b_Mo_add 11 = .ok (.getfield 43, 3) := by decide +kernel
theorem d_Mo_add_14 : decode b_Mo_add 14 = .ok (.aload_n 0, 1) := by decide +kernel
theorem d_Mo_add_15 : decode b_Mo_add 15 = .ok (.getfield 117, 3) := by decide +kernel
theorem d_Mo_add_18 : decode b_Mo_add 18 = .ok (.iload_n 2, 1) := by decide +kernel
theorem d_Mo_add_19 : decode b_Mo_add 19 = .ok (.iastore, 1) := by decide +kernel
theorem d_Mo_add_20 : decode b_Mo_add 20 = .ok (.aload_n 0, 1) := by decide +kernel
theorem d_Mo_add_21 : decode b_Mo_add 21 = .ok (.getfield 46, 3) := by decide +kernel
theorem d_Mo_add_24 : decode b_Mo_add 24 = .ok (.aload_n 0, 1) := by decide +kernel
theorem d_Mo_add_25 : decode b_Mo_add 25 = .ok (.getfield 117, 3) := by decide +kernel
theorem d_Mo_add_28 : decode b_Mo_add 28 = .ok (.iload_n 3, 1) := by decide +kernel
theorem d_Mo_add_29 : decode b_Mo_add 29 = .ok (.iastore, 1) := by decide +kernel
theorem d_Mo_add_30 : decode b_Mo_add 30 = .ok (.aload_n 0, 1) := by decide +kernel
theorem d_Mo_add_31 : decode b_Mo_add 31 = .ok (.getfield 49, 3) := by decide +kernel
theorem d_Mo_add_34 : decode b_Mo_add 34 = .ok (.aload_n 0, 1) := by decide +kernel
theorem d_Mo_add_35 : decode b_Mo_add 35 = .ok (.getfield 117, 3) := by decide +kernel
theorem d_Mo_add_38 : decode b_Mo_add 38 = .ok (.iconst 0, 1) := by decide +kernel
theorem d_Mo_add_39 : decode b_Mo_add 39 = .ok (.iastore, 1) := by decide +kernel
theorem d_Mo_add_40 : decode b_Mo_add 40 = .ok (.aload_n 0, 1) := by decide +kernel
theorem d_Mo_add_41 : decode b_Mo_add 41 = .ok (.dup, 1) := by decide +kernel
theorem d_Mo_add_42 : decode b_Mo_add 42 = .ok (.getfield 117, 3) := by decide +kernel
theorem d_Mo_add_45 : decode b_Mo_add 45 = .ok (.iconst 1, 1) := by decide +kernel
theorem d_Mo_add_46 : decode b_Mo_add 46 = .ok (.iadd, 1) := by decide +kernel
theorem d_Mo_add_47 : decode b_Mo_add 47 = .ok (.putfield 117, 3) := by decide +kernel
theorem d_Mo_add_50 : decode b_Mo_add 50 = .ok (.return_, 1) := by decide +kernel
set_option maxHeartbeats 4000000 in
set_option maxRecDepth 100000 in
theorem c_Mo_add (l : Launch) (dC : Nat → ClassId) (dI : Nat → Nat → Nat) (L : Nat → Nat) (cA : Nat → ClassId) (ar : Nat → Nat → Int32) (sc : Nat → Int32) (a0 : Int32) (a1 : Int32) (a2 : Int32) (hL : ij 25 L) (h : p_Mo_add ar sc a0 a1 a2) : Met l y_Mo_add z_Mo_add (rmD 0) (va_Pc [.ref (L 0), .int a0, .int a1, .int a2] (fun U => xw_M dC dI L cA ar sc U)) (va_Qv (fun u : oS => (u.1, u.2) = f_Mo_add ar sc a0 a1 a2) (fun u t => va_P (dC, dI) classes (wM L cA u.1 u.2) t.heap) (aM L)) 0 0 (aM L) := by
  refine Met.ofW (cc := b_Mo_add) (maxL := 4) (ret := none) (by decide) rfl ?_
  intro p e s m args below meth c s₁ B hml hv
  obtain ⟨rfl, ⟨hP, hK⟩⟩ := hv
  have hx := B.exec
  have hb := B.bytes
  have hr := B.returns
  have hts : ∀ w ∈ w_all, w.before _ s = true := fun w hw => atoms_spec (ws := z_Mo_add) B.pre w (List.mem_cons_of_mem _ hw)
  have hown : s.vm.findClass R_Mo = some m.cls := findClass_of_methodNamed B.named
  have hlocks := B.notSynchronized
  have hF : CallFix p m c b_Mo_add 4 s _ w_all R_Mo := ⟨hx, hb, hml, hown, hts⟩
  have hS : va_S (aM L) s.heap s.heap [] := va_S.rf
  have hl := lv_entry ([.ref (L 0), .int a0, .int a1, .int a2]) (n := 4) (Nat.le_of_ble_eq_true rfl)
  rw [lg_entry_eq]
  generalize (lg_sl ([.ref (L 0), .int a0, .int a1, .int a2]) ++ List.replicate (4 - (lg_sl ([.ref (L 0), .int a0, .int a1, .int a2])).length) Slot.unset).toArray = ls at hl ⊢
  have hl : lv_has ls 4 [(0, .ref (L 0)), (1, .int a0), (2, .int a1), (3, .int a2)] := hl
  unfold p_Mo_add at h
  refine lv_aload_n hx hb d_Mo_add_0 rfl (lv_at hl 0 rfl) ?_
  refine gf_Mo_of hF hK hP m_206 d_Mo_add_1 ?_
  refine lv_aload_n hx hb d_Mo_add_4 rfl (lv_at hl 0 rfl) ?_
  refine gf_Mo_findings hF hK hP m_205 d_Mo_add_5 ?_
  refine lv_iload_n hx hb d_Mo_add_8 rfl (lv_at hl 1 rfl) ?_
  have k9 := h.1
  have h := h.2
  refine asM_11 hF hK hP hL hS k9 d_Mo_add_9 (fun H locs hP hS => ?_)
  refine lv_aload_n hx hb d_Mo_add_10 rfl (lv_at hl 0 rfl) ?_
  refine gf_Mo_heavy hF hK hP m_208 d_Mo_add_11 ?_
  refine lv_aload_n hx hb d_Mo_add_14 rfl (lv_at hl 0 rfl) ?_
  refine gf_Mo_findings hF hK hP m_205 d_Mo_add_15 ?_
  refine lv_iload_n hx hb d_Mo_add_18 rfl (lv_at hl 2 rfl) ?_
  have k19 := h.1
  have h := h.2
  refine asM_12 hF hK hP hL hS k19 d_Mo_add_19 (fun H locs hP hS => ?_)
  refine lv_aload_n hx hb d_Mo_add_20 rfl (lv_at hl 0 rfl) ?_
  refine gf_Mo_until hF hK hP m_201 d_Mo_add_21 ?_
  refine lv_aload_n hx hb d_Mo_add_24 rfl (lv_at hl 0 rfl) ?_
  refine gf_Mo_findings hF hK hP m_205 d_Mo_add_25 ?_
  refine lv_iload_n hx hb d_Mo_add_28 rfl (lv_at hl 3 rfl) ?_
  have k29 := h.1
  have h := h.2
  refine asM_13 hF hK hP hL hS k29 d_Mo_add_29 (fun H locs hP hS => ?_)
  refine lv_aload_n hx hb d_Mo_add_30 rfl (lv_at hl 0 rfl) ?_
  refine gf_Mo_proof hF hK hP m_199 d_Mo_add_31 ?_
  refine lv_aload_n hx hb d_Mo_add_34 rfl (lv_at hl 0 rfl) ?_
  refine gf_Mo_findings hF hK hP m_205 d_Mo_add_35 ?_
  refine lv_iconst (v := 0) hx hb d_Mo_add_38 (by decide) ?_
  have k39 := h
  refine asM_14 hF hK hP hL hS k39 d_Mo_add_39 (fun H locs hP hS => ?_)
  refine lv_aload_n hx hb d_Mo_add_40 rfl (lv_at hl 0 rfl) ?_
  refine lv_dup hx hb d_Mo_add_41 rfl ?_
  refine gf_Mo_findings hF hK hP m_205 d_Mo_add_42 ?_
  refine lv_iconst (v := 1) hx hb d_Mo_add_45 (by decide) ?_
  refine lv_iadd hx hb d_Mo_add_46 ?_
  refine pf_Mo_findings hF hK hP hL hS m_205 d_Mo_add_47 (fun H locs hP hS => ?_)
  have hv : ((s2 (s2 (s2 (s2 ar 11 ((sc 3).toNatClampNeg) a0) 12 ((sc 3).toNatClampNeg) a1) 13 ((sc 3).toNatClampNeg) a2) 14 ((sc 3).toNatClampNeg) 0, sg sc 3 ((sc 3) + 1)) : (Nat → Nat → Int32) × (Nat → Int32)) = f_Mo_add ar sc a0 a1 a2 := by rw [f_Mo_add]
  exact W.vret hx hb hr (fun t ht hW => ⟨⟨(s2 (s2 (s2 (s2 ar 11 ((sc 3).toNatClampNeg) a0) 12 ((sc 3).toNatClampNeg) a1) 13 ((sc 3).toNatClampNeg) a2) 14 ((sc 3).toNatClampNeg) 0, sg sc 3 ((sc 3) + 1)), rfl, hv, by dsimp only; rw [ht]; exact hP⟩, hS.F ht⟩) hS.2.2 d_Mo_add_50
set_option maxHeartbeats 1000000 in
theorem r_Mo_add {p : Program} {l : Launch} {e : Env} {R : Room} {s : State} {m : MethodId} {args : Array Value} {below : List Frame} {meth : Method} {c : Code} {H : Heap} {locs : List Loc} {cells slots : Nat} {Q : State → Prop} {cc : ByteArray} {nL pc idx : Nat} {ls : Array Slot} {rest : List Value} {own : String} {dC : Nat → ClassId} {dI : Nat → Nat → Nat} {L : Nat → Nat} {cA : Nat → ClassId} {ar : Nat → Nat → Int32} {sc : Nat → Int32} {H0 : Heap} {a0 : Int32} {a1 : Int32} {a2 : Int32} (hF : CallFix p m c cc nL s args w_all own) (hK : kW_M dC dI cA s) (hP : va_P (dC, dI) classes (wM L cA ar sc) H) (hL : ij 25 L) (hS : va_S (aM L) H0 H locs) (h : p_Mo_add ar sc a0 a1 a2) (hlk : Cond.methodLink own idx y_Mo_add ∈ w_all) (hsz : ls.size = nL) (hR : (rmD 0).frames + 1 ≤ R.frames ∧ 8 + (4 + 11) + (rmD 0).locals ≤ R.locals) (hc : cells ≤ R.cells ∧ slots ≤ R.slots) (hrs : (rest.map fun v => v.category).sum ≤ 8) (hdg : decode cc pc = .ok (.invokevirtual idx, 3)) (kk : ∀ (H1 : Heap) (locs1 : List Loc), va_P (dC, dI) classes (wM L cA ((f_Mo_add ar sc a0 a1 a2).1) ((f_Mo_add ar sc a0 a1 a2).2)) H1 → va_S (aM L) H0 H1 locs1 → W p l e R s m args below meth c H1 locs1 cells slots Q (F0 m (pc + 3) ls (rest))) : W p l e R s m args below meth c H locs cells slots Q (F0 m pc ls (.int a2 :: .int a1 :: .int a0 :: .ref (L 0) :: rest)) :=
  va_callv (va_runV (As := [.int a0, .int a1, .int a2]) (rest := rest) hF (c_Mo_add l dC dI L cA ar sc a0 a1 a2 hL h) (cwV 3 hF.2.2.2.2 (gV hlk m_221 m_222 m_187 m_223) rfl rfl rfl (by decide +kernel) hR) ⟨xb_M, va_recv hK.1 hP (ci := 7) (q0 := 0) rfl rfl, fun U hU hW => ⟨rfl, by rw [hU]; exact hP, kW_M_warm hW hK⟩⟩ rfl rfl hsz rfl (lv_room hrs) hdg hc) hS (fun q _ h9 => h9) (fun q h9 => h9) (fun u t H1 locs1 ht hvm hw hB hz1 hk1 hS1 => by
    have hk9 := kk H1 locs1 (by rw [← hw, ← ht]; exact hB) hS1
    exact hk9)
theorem d_Mo_dueFrom_0 : decode b_Mo_dueFrom 0 = .ok (.aload_n 0, 1) := by decide +kernel
theorem d_Mo_dueFrom_1 : decode b_Mo_dueFrom 1 = .ok (.getfield 37, 3) := by decide +kernel
theorem d_Mo_dueFrom_4 : decode b_Mo_dueFrom 4 = .ok (.iload_n 1, 1) := by decide +kernel
theorem d_Mo_dueFrom_5 : decode b_Mo_dueFrom 5 = .ok (.iaload, 1) := by decide +kernel
theorem d_Mo_dueFrom_6 : decode b_Mo_dueFrom 6 = .ok (.ifCond .ge 7, 3) := by decide +kernel
theorem d_Mo_dueFrom_9 : decode b_Mo_dueFrom 9 = .ok (.iconst 0, 1) := by decide +kernel
theorem d_Mo_dueFrom_10 : decode b_Mo_dueFrom 10 = .ok (.goto 20, 3) := by decide +kernel
theorem d_Mo_dueFrom_13 : decode b_Mo_dueFrom 13 = .ok (.aload_n 0, 1) := by decide +kernel
theorem d_Mo_dueFrom_14 : decode b_Mo_dueFrom 14 = .ok (.getfield 37, 3) := by decide +kernel
theorem d_Mo_dueFrom_17 : decode b_Mo_dueFrom 17 = .ok (.iload_n 1, 1) := by decide +kernel
theorem d_Mo_dueFrom_18 : decode b_Mo_dueFrom 18 = .ok (.iaload, 1) := by decide +kernel
theorem d_Mo_dueFrom_19 : decode b_Mo_dueFrom 19 = .ok (.aload_n 0, 1) := by decide +kernel
theorem d_Mo_dueFrom_20 : decode b_Mo_dueFrom 20 = .ok (.getfield 16, 3) := by decide +kernel
theorem d_Mo_dueFrom_23 : decode b_Mo_dueFrom 23 = .ok (.aload_n 0, 1) := by decide +kernel
theorem d_Mo_dueFrom_24 : decode b_Mo_dueFrom 24 = .ok (.iload_n 1, 1) := by decide +kernel
theorem d_Mo_dueFrom_25 : decode b_Mo_dueFrom 25 = .ok (.invokevirtual 127, 3) := by decide +kernel
theorem d_Mo_dueFrom_28 : decode b_Mo_dueFrom 28 = .ok (.iaload, 1) := by decide +kernel
theorem d_Mo_dueFrom_29 : decode b_Mo_dueFrom 29 = .ok (.iadd, 1) := by decide +kernel
theorem d_Mo_dueFrom_30 : decode b_Mo_dueFrom 30 = .ok (.ireturn, 1) := by decide +kernel
set_option maxHeartbeats 4000000 in
set_option maxRecDepth 100000 in
theorem c_Mo_dueFrom (l : Launch) (dC : Nat → ClassId) (dI : Nat → Nat → Nat) (L : Nat → Nat) (cA : Nat → ClassId) (ar : Nat → Nat → Int32) (sc : Nat → Int32) (a0 : Int32) (h : p_Mo_dueFrom ar sc a0) : Met l y_Mo_dueFrom z_Mo_dueFrom (rmD 3) (va_Pc [.ref (L 0), .int a0] (fun U => xw_M dC dI L cA ar sc U)) (QcRead (f_Mo_dueFrom ar sc a0)) 0 0 (fun _ => False) := by
  refine Met.ofW (cc := b_Mo_dueFrom) (maxL := 2) (ret := (some .int)) (by decide) rfl ?_
  intro p e s m args below meth c s₁ B hml hv
  obtain ⟨rfl, ⟨hP, hK⟩⟩ := hv
  have hx := B.exec
  have hb := B.bytes
  have hr := B.returns
  have hts : ∀ w ∈ w_all, w.before _ s = true := fun w hw => atoms_spec (ws := z_Mo_dueFrom) B.pre w (List.mem_cons_of_mem _ hw)
  have hown : s.vm.findClass R_Mo = some m.cls := findClass_of_methodNamed B.named
  have hlocks := B.notSynchronized
  have hF : CallFix p m c b_Mo_dueFrom 2 s _ w_all R_Mo := ⟨hx, hb, hml, hown, hts⟩
  have hl := lv_entry ([.ref (L 0), .int a0]) (n := 2) (Nat.le_of_ble_eq_true rfl)
  rw [lg_entry_eq]
  generalize (lg_sl ([.ref (L 0), .int a0]) ++ List.replicate (2 - (lg_sl ([.ref (L 0), .int a0])).length) Slot.unset).toArray = ls at hl ⊢
  have hl : lv_has ls 2 [(0, .ref (L 0)), (1, .int a0)] := hl
  unfold p_Mo_dueFrom at h
  refine lv_aload_n hx hb d_Mo_dueFrom_0 rfl (lv_at hl 0 rfl) ?_
  refine gf_Mo_visited hF hK hP m_224 d_Mo_dueFrom_1 ?_
  refine lv_iload_n hx hb d_Mo_dueFrom_4 rfl (lv_at hl 1 rfl) ?_
  have k5 := h.1
  have h := h.2
  refine alM_10 hF hK hP k5 d_Mo_dueFrom_5 ?_
  refine lv_if_ge (tgt := 13) hx hb d_Mo_dueFrom_6 (by decide) (fun c6 => ?_) (fun c6 => ?_)
  · have h := h.1 c6
    refine lv_aload_n hx hb d_Mo_dueFrom_13 rfl (lv_at hl 0 rfl) ?_
    refine gf_Mo_visited hF hK hP m_224 d_Mo_dueFrom_14 ?_
    refine lv_iload_n hx hb d_Mo_dueFrom_17 rfl (lv_at hl 1 rfl) ?_
    have k18 := h.1
    have h := h.2
    refine alM_10 hF hK hP k18 d_Mo_dueFrom_18 ?_
    refine lv_aload_n hx hb d_Mo_dueFrom_19 rfl (lv_at hl 0 rfl) ?_
    refine gf_Mo_interval hF hK hP m_225 d_Mo_dueFrom_20 ?_
    refine lv_aload_n hx hb d_Mo_dueFrom_23 rfl (lv_at hl 0 rfl) ?_
    refine lv_iload_n hx hb d_Mo_dueFrom_24 rfl (lv_at hl 1 rfl) ?_
    have k25 := h.1
    have h := h.2
    refine r_Mo_classOf hF hK hP k25 m_226 hl.1 ⟨Nat.le_of_ble_eq_true rfl, Nat.le_of_ble_eq_true rfl⟩ ⟨Nat.zero_le _, Nat.zero_le _⟩ (Nat.le_of_ble_eq_true rfl) d_Mo_dueFrom_25 ?_
    have k28 := h
    refine alM_3 hF hK hP k28 d_Mo_dueFrom_28 ?_
    refine lv_iadd hx hb d_Mo_dueFrom_29 ?_
    have hv : ((ar 10 a0.toNatClampNeg) + (ar 3 ((f_Mo_classOf ar sc a0).toNatClampNeg)) : Int32) = f_Mo_dueFrom ar sc a0 := by rw [f_Mo_dueFrom, if_pos c6]
    exact W.iret (v := (ar 10 a0.toNatClampNeg) + (ar 3 ((f_Mo_classOf ar sc a0).toNatClampNeg))) hx hb hr (fun t ht hW => ⟨congrArg (fun z => Outcome.returned (some (Value.int z))) hv, ht⟩) (fun _ h9 => nomatch h9) d_Mo_dueFrom_30
  · have h := h.2 c6
    refine lv_iconst (v := 0) hx hb d_Mo_dueFrom_9 (by decide) ?_
    refine lv_goto (tgt := 30) hx hb d_Mo_dueFrom_10 (by decide) ?_
    have hv : (0 : Int32) = f_Mo_dueFrom ar sc a0 := by rw [f_Mo_dueFrom, if_neg c6]
    exact W.iret (v := 0) hx hb hr (fun t ht hW => ⟨congrArg (fun z => Outcome.returned (some (Value.int z))) hv, ht⟩) (fun _ h9 => nomatch h9) d_Mo_dueFrom_30
set_option maxHeartbeats 1000000 in
theorem r_Mo_dueFrom {p : Program} {l : Launch} {e : Env} {R : Room} {s : State} {m : MethodId} {args : Array Value} {below : List Frame} {meth : Method} {c : Code} {H : Heap} {locs : List Loc} {cells slots : Nat} {Q : State → Prop} {cc : ByteArray} {nL pc idx : Nat} {ls : Array Slot} {rest : List Value} {own : String} {dC : Nat → ClassId} {dI : Nat → Nat → Nat} {L : Nat → Nat} {cA : Nat → ClassId} {ar : Nat → Nat → Int32} {sc : Nat → Int32} {a0 : Int32} (hF : CallFix p m c cc nL s args w_all own) (hK : kW_M dC dI cA s) (hP : va_P (dC, dI) classes (wM L cA ar sc) H) (h : p_Mo_dueFrom ar sc a0) (hlk : Cond.methodLink own idx y_Mo_dueFrom ∈ w_all) (hsz : ls.size = nL) (hR : (rmD 3).frames + 1 ≤ R.frames ∧ 8 + (2 + 11) + (rmD 3).locals ≤ R.locals) (hc : cells ≤ R.cells ∧ slots ≤ R.slots) (hrs : (rest.map fun v => v.category).sum ≤ 8) (hdg : decode cc pc = .ok (.invokevirtual idx, 3)) (kk : W p l e R s m args below meth c H locs cells slots Q (F0 m (pc + 3) ls (.int (f_Mo_dueFrom ar sc a0) :: rest))) : W p l e R s m args below meth c H locs cells slots Q (F0 m pc ls (.int a0 :: .ref (L 0) :: rest)) :=
  W.callR (W.runV (As := [.int a0]) (rest := rest) hF (c_Mo_dueFrom l dC dI L cA ar sc a0 h) (cwV 1 hF.2.2.2.2 (gV hlk m_227 m_228 m_187 m_229) rfl rfl rfl (by decide +kernel) hR) ⟨xb_M, va_recv hK.1 hP (ci := 7) (q0 := 0) rfl rfl, fun U hU hW => ⟨rfl, by rw [hU]; exact hP, kW_M_warm hW hK⟩⟩ rfl rfl hsz rfl (lv_room hrs) hdg hc) kk
theorem d_Mo_isAhead_0 : decode b_Mo_isAhead 0 = .ok (.aload_n 0, 1) := by decide +kernel
theorem d_Mo_isAhead_1 : decode b_Mo_isAhead 1 = .ok (.iload_n 1, 1) := by decide +kernel
theorem d_Mo_isAhead_2 : decode b_Mo_isAhead 2 = .ok (.invokevirtual 123, 3) := by decide +kernel
theorem d_Mo_isAhead_5 : decode b_Mo_isAhead 5 = .ok (.istore_n 3, 1) := by decide +kernel
theorem d_Mo_isAhead_6 : decode b_Mo_isAhead 6 = .ok (.aload_n 0, 1) := by decide +kernel
theorem d_Mo_isAhead_7 : decode b_Mo_isAhead 7 = .ok (.iload_n 2, 1) := by decide +kernel
theorem d_Mo_isAhead_8 : decode b_Mo_isAhead 8 = .ok (.invokevirtual 123, 3) := by decide +kernel
theorem d_Mo_isAhead_11 : decode b_Mo_isAhead 11 = .ok (.istore 4, 2) := by decide +kernel
theorem d_Mo_isAhead_13 : decode b_Mo_isAhead 13 = .ok (.iload_n 3, 1) := by decide +kernel
theorem d_Mo_isAhead_14 : decode b_Mo_isAhead 14 = .ok (.iload 4, 2) := by decide +kernel
theorem d_Mo_isAhead_16 : decode b_Mo_isAhead 16 = .ok (.if_icmp .eq 15, 3) := by decide +kernel
theorem d_Mo_isAhead_19 : decode b_Mo_isAhead 19 = .ok (.iload_n 3, 1) := by decide +kernel
theorem d_Mo_isAhead_20 : decode b_Mo_isAhead 20 = .ok (.iload 4, 2) := by decide +kernel
theorem d_Mo_isAhead_22 : decode b_Mo_isAhead 22 = .ok (.if_icmp .le 7, 3) := by decide +kernel
theorem d_Mo_isAhead_25 : decode b_Mo_isAhead 25 = .ok (.iconst 1, 1) := by decide +kernel
theorem d_Mo_isAhead_26 : decode b_Mo_isAhead 26 = .ok (.goto 4, 3) := by decide +kernel
theorem d_Mo_isAhead_29 : decode b_Mo_isAhead 29 = .ok (.iconst 0, 1) := by decide +kernel
theorem d_Mo_isAhead_30 : decode b_Mo_isAhead 30 = .ok (.ireturn, 1) := by decide +kernel
theorem d_Mo_isAhead_31 : decode b_Mo_isAhead 31 = .ok (.aload_n 0, 1) := by decide +kernel
theorem d_Mo_isAhead_32 : decode b_Mo_isAhead 32 = .ok (.getfield 37, 3) := by decide +kernel
theorem d_Mo_isAhead_35 : decode b_Mo_isAhead 35 = .ok (.iload_n 1, 1) := by decide +kernel
theorem d_Mo_isAhead_36 : decode b_Mo_isAhead 36 = .ok (.iaload, 1) := by decide +kernel
theorem d_Mo_isAhead_37 : decode b_Mo_isAhead 37 = .ok (.aload_n 0, 1) := by decide +kernel
theorem d_Mo_isAhead_38 : decode b_Mo_isAhead 38 = .ok (.getfield 37, 3) := by decide +kernel
theorem d_Mo_isAhead_41 : decode b_Mo_isAhead 41 = .ok (.iload_n 2, 1) := by decide +kernel
theorem d_Mo_isAhead_42 : decode b_Mo_isAhead 42 = .ok (.iaload, 1) := by decide +kernel
theorem d_Mo_isAhead_43 : decode b_Mo_isAhead 43 = .ok (.if_icmp .lt 23, 3) := by decide +kernel
theorem d_Mo_isAhead_46 : decode b_Mo_isAhead 46 = .ok (.aload_n 0, 1) := by decide +kernel
theorem d_Mo_isAhead_47 : decode b_Mo_isAhead 47 = .ok (.getfield 37, 3) := by decide +kernel
theorem d_Mo_isAhead_50 : decode b_Mo_isAhead 50 = .ok (.iload_n 1, 1) := by decide +kernel
theorem d_Mo_isAhead_51 : decode b_Mo_isAhead 51 = .ok (.iaload, 1) := by decide +kernel
theorem d_Mo_isAhead_52 : decode b_Mo_isAhead 52 = .ok (.aload_n 0, 1) := by decide +kernel
theorem d_Mo_isAhead_53 : decode b_Mo_isAhead 53 = .ok (.getfield 37, 3) := by decide +kernel
theorem d_Mo_isAhead_56 : decode b_Mo_isAhead 56 = .ok (.iload_n 2, 1) := by decide +kernel
theorem d_Mo_isAhead_57 : decode b_Mo_isAhead 57 = .ok (.iaload, 1) := by decide +kernel
theorem d_Mo_isAhead_58 : decode b_Mo_isAhead 58 = .ok (.if_icmp .ne 12, 3) := by decide +kernel
theorem d_Mo_isAhead_61 : decode b_Mo_isAhead 61 = .ok (.iload_n 1, 1) := by decide +kernel
theorem d_Mo_isAhead_62 : decode b_Mo_isAhead 62 = .ok (.iload_n 2, 1) := by decide +kernel
theorem d_Mo_isAhead_63 : decode b_Mo_isAhead 63 = .ok (.if_icmp .ge 7, 3) := by decide +kernel
theorem d_Mo_isAhead_66 : decode b_Mo_isAhead 66 = .ok (.iconst 1, 1) := by decide +kernel
theorem d_Mo_isAhead_67 : decode b_Mo_isAhead 67 = .ok (.goto 4, 3) := by decide +kernel
theorem d_Mo_isAhead_70 : decode b_Mo_isAhead 70 = .ok (.iconst 0, 1) := by decide +kernel
theorem d_Mo_isAhead_71 : decode b_Mo_isAhead 71 = .ok (.ireturn, 1) := by decide +kernel
set_option maxHeartbeats 4000000 in
set_option maxRecDepth 100000 in
theorem c_Mo_isAhead (l : Launch) (dC : Nat → ClassId) (dI : Nat → Nat → Nat) (L : Nat → Nat) (cA : Nat → ClassId) (ar : Nat → Nat → Int32) (sc : Nat → Int32) (a0 : Int32) (a1 : Int32) (h : p_Mo_isAhead ar sc a0 a1) : Met l y_Mo_isAhead z_Mo_isAhead (rmD 2) (va_Pc [.ref (L 0), .int a0, .int a1] (fun U => xw_M dC dI L cA ar sc U)) (QcRead (f_Mo_isAhead ar sc a0 a1)) 0 0 (fun _ => False) := by
  refine Met.ofW (cc := b_Mo_isAhead) (maxL := 5) (ret := (some .boolean)) (by decide) rfl ?_
  intro p e s m args below meth c s₁ B hml hv
  obtain ⟨rfl, ⟨hP, hK⟩⟩ := hv
  have hx := B.exec
  have hb := B.bytes
  have hr := B.returns
  have hts : ∀ w ∈ w_all, w.before _ s = true := fun w hw => atoms_spec (ws := z_Mo_isAhead) B.pre w (List.mem_cons_of_mem _ hw)
  have hown : s.vm.findClass R_Mo = some m.cls := findClass_of_methodNamed B.named
  have hlocks := B.notSynchronized
  have hF : CallFix p m c b_Mo_isAhead 5 s _ w_all R_Mo := ⟨hx, hb, hml, hown, hts⟩
  have hl := lv_entry ([.ref (L 0), .int a0, .int a1]) (n := 5) (Nat.le_of_ble_eq_true rfl)
  rw [lg_entry_eq]
  generalize (lg_sl ([.ref (L 0), .int a0, .int a1]) ++ List.replicate (5 - (lg_sl ([.ref (L 0), .int a0, .int a1])).length) Slot.unset).toArray = ls at hl ⊢
  have hl : lv_has ls 5 [(0, .ref (L 0)), (1, .int a0), (2, .int a1)] := hl
  unfold p_Mo_isAhead at h
  refine lv_aload_n hx hb d_Mo_isAhead_0 rfl (lv_at hl 0 rfl) ?_
  refine lv_iload_n hx hb d_Mo_isAhead_1 rfl (lv_at hl 1 rfl) ?_
  have k2 := h.1
  have h := h.2
  refine r_Mo_riskOf hF hK hP k2 m_217 hl.1 ⟨Nat.le_of_ble_eq_true rfl, Nat.le_of_ble_eq_true rfl⟩ ⟨Nat.zero_le _, Nat.zero_le _⟩ (Nat.le_of_ble_eq_true rfl) d_Mo_isAhead_2 ?_
  refine lv_istore_n (lv' := [(3, .int (f_Mo_riskOf ar sc a0)), (0, .ref (L 0)), (1, .int a0), (2, .int a1)]) hx hb d_Mo_isAhead_5 rfl hl (by decide) rfl (fun ls hl => ?_)
  refine lv_aload_n hx hb d_Mo_isAhead_6 rfl (lv_at hl 1 rfl) ?_
  refine lv_iload_n hx hb d_Mo_isAhead_7 rfl (lv_at hl 3 rfl) ?_
  have k8 := h.1
  have h := h.2
  refine r_Mo_riskOf hF hK hP k8 m_217 hl.1 ⟨Nat.le_of_ble_eq_true rfl, Nat.le_of_ble_eq_true rfl⟩ ⟨Nat.zero_le _, Nat.zero_le _⟩ (Nat.le_of_ble_eq_true rfl) d_Mo_isAhead_8 ?_
  refine lv_istore (lv' := [(4, .int (f_Mo_riskOf ar sc a1)), (3, .int (f_Mo_riskOf ar sc a0)), (0, .ref (L 0)), (1, .int a0), (2, .int a1)]) hx hb d_Mo_isAhead_11 hl (by decide) rfl (fun ls hl => ?_)
  refine lv_iload_n hx hb d_Mo_isAhead_13 rfl (lv_at hl 1 rfl) ?_
  refine lv_iload hx hb d_Mo_isAhead_14 (lv_at hl 0 rfl) ?_
  refine lv_icmp_eq (tgt := 31) hx hb d_Mo_isAhead_16 (by decide) (fun c16 => ?_) (fun c16 => ?_)
  · have h := h.1 c16
    refine lv_aload_n hx hb d_Mo_isAhead_31 rfl (lv_at hl 2 rfl) ?_
    refine gf_Mo_visited hF hK hP m_224 d_Mo_isAhead_32 ?_
    refine lv_iload_n hx hb d_Mo_isAhead_35 rfl (lv_at hl 3 rfl) ?_
    have k36 := h.1
    have h := h.2
    refine alM_10 hF hK hP k36 d_Mo_isAhead_36 ?_
    refine lv_aload_n hx hb d_Mo_isAhead_37 rfl (lv_at hl 2 rfl) ?_
    refine gf_Mo_visited hF hK hP m_224 d_Mo_isAhead_38 ?_
    refine lv_iload_n hx hb d_Mo_isAhead_41 rfl (lv_at hl 4 rfl) ?_
    have k42 := h.1
    have h := h.2
    refine alM_10 hF hK hP k42 d_Mo_isAhead_42 ?_
    refine lv_icmp_lt (tgt := 66) hx hb d_Mo_isAhead_43 (by decide) (fun c43 => ?_) (fun c43 => ?_)
    · have h := h.1 c43
      refine lv_iconst (v := 1) hx hb d_Mo_isAhead_66 (by decide) ?_
      refine lv_goto (tgt := 71) hx hb d_Mo_isAhead_67 (by decide) ?_
      have hv : (1 : Int32) = f_Mo_isAhead ar sc a0 a1 := by rw [f_Mo_isAhead, if_pos c16, if_pos c43]
      exact W.zret (ty := .boolean) (v := 1) hx hb hr rfl (fun t ht hW => ⟨congrArg (fun z => Outcome.returned (some (Value.int z))) hv, ht⟩) (fun _ h9 => nomatch h9) d_Mo_isAhead_71
    · have h := h.2 c43
      refine lv_aload_n hx hb d_Mo_isAhead_46 rfl (lv_at hl 2 rfl) ?_
      refine gf_Mo_visited hF hK hP m_224 d_Mo_isAhead_47 ?_
      refine lv_iload_n hx hb d_Mo_isAhead_50 rfl (lv_at hl 3 rfl) ?_
      have k51 := h.1
      have h := h.2
      refine alM_10 hF hK hP k51 d_Mo_isAhead_51 ?_
      refine lv_aload_n hx hb d_Mo_isAhead_52 rfl (lv_at hl 2 rfl) ?_
      refine gf_Mo_visited hF hK hP m_224 d_Mo_isAhead_53 ?_
      refine lv_iload_n hx hb d_Mo_isAhead_56 rfl (lv_at hl 4 rfl) ?_
      have k57 := h
      refine alM_10 hF hK hP k57 d_Mo_isAhead_57 ?_
      refine lv_icmp_ne (tgt := 70) hx hb d_Mo_isAhead_58 (by decide) (fun c58 => ?_) (fun c58 => ?_)
      · refine lv_iconst (v := 0) hx hb d_Mo_isAhead_70 (by decide) ?_
        have hv : (0 : Int32) = f_Mo_isAhead ar sc a0 a1 := by rw [f_Mo_isAhead, if_pos c16, if_neg c43, if_neg c58]
        exact W.zret (ty := .boolean) (v := 0) hx hb hr rfl (fun t ht hW => ⟨congrArg (fun z => Outcome.returned (some (Value.int z))) hv, ht⟩) (fun _ h9 => nomatch h9) d_Mo_isAhead_71
      · refine lv_iload_n hx hb d_Mo_isAhead_61 rfl (lv_at hl 3 rfl) ?_
        refine lv_iload_n hx hb d_Mo_isAhead_62 rfl (lv_at hl 4 rfl) ?_
        refine lv_icmp_ge (tgt := 70) hx hb d_Mo_isAhead_63 (by decide) (fun c63 => ?_) (fun c63 => ?_)
        · refine lv_iconst (v := 0) hx hb d_Mo_isAhead_70 (by decide) ?_
          have hv : (0 : Int32) = f_Mo_isAhead ar sc a0 a1 := by rw [f_Mo_isAhead, if_pos c16, if_neg c43, if_pos c58, if_pos c63]
          exact W.zret (ty := .boolean) (v := 0) hx hb hr rfl (fun t ht hW => ⟨congrArg (fun z => Outcome.returned (some (Value.int z))) hv, ht⟩) (fun _ h9 => nomatch h9) d_Mo_isAhead_71
        · refine lv_iconst (v := 1) hx hb d_Mo_isAhead_66 (by decide) ?_
          refine lv_goto (tgt := 71) hx hb d_Mo_isAhead_67 (by decide) ?_
          have hv : (1 : Int32) = f_Mo_isAhead ar sc a0 a1 := by rw [f_Mo_isAhead, if_pos c16, if_neg c43, if_pos c58, if_neg c63]
          exact W.zret (ty := .boolean) (v := 1) hx hb hr rfl (fun t ht hW => ⟨congrArg (fun z => Outcome.returned (some (Value.int z))) hv, ht⟩) (fun _ h9 => nomatch h9) d_Mo_isAhead_71
  · have h := h.2 c16
    refine lv_iload_n hx hb d_Mo_isAhead_19 rfl (lv_at hl 1 rfl) ?_
    refine lv_iload hx hb d_Mo_isAhead_20 (lv_at hl 0 rfl) ?_
    refine lv_icmp_le (tgt := 29) hx hb d_Mo_isAhead_22 (by decide) (fun c22 => ?_) (fun c22 => ?_)
    · refine lv_iconst (v := 0) hx hb d_Mo_isAhead_29 (by decide) ?_
      have hv : (0 : Int32) = f_Mo_isAhead ar sc a0 a1 := by rw [f_Mo_isAhead, if_neg c16, if_pos c22]
      exact W.zret (ty := .boolean) (v := 0) hx hb hr rfl (fun t ht hW => ⟨congrArg (fun z => Outcome.returned (some (Value.int z))) hv, ht⟩) (fun _ h9 => nomatch h9) d_Mo_isAhead_30
    · refine lv_iconst (v := 1) hx hb d_Mo_isAhead_25 (by decide) ?_
      refine lv_goto (tgt := 30) hx hb d_Mo_isAhead_26 (by decide) ?_
      have hv : (1 : Int32) = f_Mo_isAhead ar sc a0 a1 := by rw [f_Mo_isAhead, if_neg c16, if_neg c22]
      exact W.zret (ty := .boolean) (v := 1) hx hb hr rfl (fun t ht hW => ⟨congrArg (fun z => Outcome.returned (some (Value.int z))) hv, ht⟩) (fun _ h9 => nomatch h9) d_Mo_isAhead_30
set_option maxHeartbeats 1000000 in
theorem r_Mo_isAhead {p : Program} {l : Launch} {e : Env} {R : Room} {s : State} {m : MethodId} {args : Array Value} {below : List Frame} {meth : Method} {c : Code} {H : Heap} {locs : List Loc} {cells slots : Nat} {Q : State → Prop} {cc : ByteArray} {nL pc idx : Nat} {ls : Array Slot} {rest : List Value} {own : String} {dC : Nat → ClassId} {dI : Nat → Nat → Nat} {L : Nat → Nat} {cA : Nat → ClassId} {ar : Nat → Nat → Int32} {sc : Nat → Int32} {a0 : Int32} {a1 : Int32} (hF : CallFix p m c cc nL s args w_all own) (hK : kW_M dC dI cA s) (hP : va_P (dC, dI) classes (wM L cA ar sc) H) (h : p_Mo_isAhead ar sc a0 a1) (hlk : Cond.methodLink own idx y_Mo_isAhead ∈ w_all) (hsz : ls.size = nL) (hR : (rmD 2).frames + 1 ≤ R.frames ∧ 8 + (5 + 11) + (rmD 2).locals ≤ R.locals) (hc : cells ≤ R.cells ∧ slots ≤ R.slots) (hrs : (rest.map fun v => v.category).sum ≤ 8) (hdg : decode cc pc = .ok (.invokevirtual idx, 3)) (kk : W p l e R s m args below meth c H locs cells slots Q (F0 m (pc + 3) ls (.int (f_Mo_isAhead ar sc a0 a1) :: rest))) : W p l e R s m args below meth c H locs cells slots Q (F0 m pc ls (.int a1 :: .int a0 :: .ref (L 0) :: rest)) :=
  W.callR (W.runV (As := [.int a0, .int a1]) (rest := rest) hF (c_Mo_isAhead l dC dI L cA ar sc a0 a1 h) (cwV 2 hF.2.2.2.2 (gV hlk m_230 m_231 m_187 m_232) rfl rfl rfl (by decide +kernel) hR) ⟨xb_M, va_recv hK.1 hP (ci := 7) (q0 := 0) rfl rfl, fun U hU hW => ⟨rfl, by rw [hU]; exact hP, kW_M_warm hW hK⟩⟩ rfl rfl hsz rfl (lv_room hrs) hdg hc) kk
theorem d_Mo_go_0 : decode b_Mo_go 0 = .ok (.iconst 0, 1) := by decide +kernel
theorem d_Mo_go_1 : decode b_Mo_go 1 = .ok (.istore 5, 2) := by decide +kernel
theorem d_Mo_go_3 : decode b_Mo_go 3 = .ok (.iconst 0, 1) := by decide +kernel
theorem d_Mo_go_4 : decode b_Mo_go 4 = .ok (.istore 6, 2) := by decide +kernel
theorem d_Mo_go_6 : decode b_Mo_go 6 = .ok (.iload 5, 2) := by decide +kernel
theorem d_Mo_go_8 : decode b_Mo_go 8 = .ok (.ifCond .lt 95, 3) := by decide +kernel
theorem d_Mo_go_11 : decode b_Mo_go 11 = .ok (.aload_n 0, 1) := by decide +kernel
theorem d_Mo_go_12 : decode b_Mo_go 12 = .ok (.getfield 52, 3) := by decide +kernel
theorem d_Mo_go_15 : decode b_Mo_go 15 = .ok (.iload 5, 2) := by decide +kernel
theorem d_Mo_go_17 : decode b_Mo_go 17 = .ok (.baload, 1) := by decide +kernel
theorem d_Mo_go_18 : decode b_Mo_go 18 = .ok (.ifCond .ne 5, 3) := by decide +kernel
theorem d_Mo_go_21 : decode b_Mo_go 21 = .ok (.iconst (-1), 1) := by decide +kernel
theorem d_Mo_go_22 : decode b_Mo_go 22 = .ok (.ireturn, 1) := by decide +kernel
theorem d_Mo_go_23 : decode b_Mo_go 23 = .ok (.iload_n 2, 1) := by decide +kernel
theorem d_Mo_go_24 : decode b_Mo_go 24 = .ok (.iload 5, 2) := by decide +kernel
theorem d_Mo_go_26 : decode b_Mo_go 26 = .ok (.ishr, 1) := by decide +kernel
theorem d_Mo_go_27 : decode b_Mo_go 27 = .ok (.iconst 1, 1) := by decide +kernel
theorem d_Mo_go_28 : decode b_Mo_go 28 = .ok (.iand, 1) := by decide +kernel
theorem d_Mo_go_29 : decode b_Mo_go 29 = .ok (.iconst 1, 1) := by decide +kernel
theorem d_Mo_go_30 : decode b_Mo_go 30 = .ok (.if_icmp .ne 7, 3) := by decide +kernel
theorem d_Mo_go_33 : decode b_Mo_go 33 = .ok (.iconst 1, 1) := by decide +kernel
theorem d_Mo_go_34 : decode b_Mo_go 34 = .ok (.goto 4, 3) := by decide +kernel
theorem d_Mo_go_37 : decode b_Mo_go 37 = .ok (.iconst 0, 1) := by decide +kernel
theorem d_Mo_go_38 : decode b_Mo_go 38 = .ok (.istore 7, 2) := by decide +kernel
theorem d_Mo_go_40 : decode b_Mo_go 40 = .ok (.iload 7, 2) := by decide +kernel
theorem d_Mo_go_42 : decode b_Mo_go 42 = .ok (.ifCond .ne 34, 3) := by decide +kernel
theorem d_Mo_go_45 : decode b_Mo_go 45 = .ok (.aload_n 0, 1) := by decide +kernel
theorem d_Mo_go_46 : decode b_Mo_go 46 = .ok (.getfield 62, 3) := by decide +kernel
theorem d_Mo_go_49 : decode b_Mo_go 49 = .ok (.iload 5, 2) := by decide +kernel
theorem d_Mo_go_51 : decode b_Mo_go 51 = .ok (.iaload, 1) := by decide +kernel
theorem d_Mo_go_52 : decode b_Mo_go 52 = .ok (.ifCond .le 24, 3) := by decide +kernel
theorem d_Mo_go_55 : decode b_Mo_go 55 = .ok (.iinc 6 1, 3) := by decide +kernel
theorem d_Mo_go_58 : decode b_Mo_go 58 = .ok (.iload_n 3, 1) := by decide +kernel
theorem d_Mo_go_59 : decode b_Mo_go 59 = .ok (.ifCond .eq 17, 3) := by decide +kernel
theorem d_Mo_go_62 : decode b_Mo_go 62 = .ok (.aload_n 0, 1) := by decide +kernel
theorem d_Mo_go_63 : decode b_Mo_go 63 = .ok (.iload_n 1, 1) := by decide +kernel
theorem d_Mo_go_64 : decode b_Mo_go 64 = .ok (.aload_n 0, 1) := by decide +kernel
theorem d_Mo_go_65 : decode b_Mo_go 65 = .ok (.getfield 62, 3) := by decide +kernel
theorem d_Mo_go_68 : decode b_Mo_go 68 = .ok (.iload 5, 2) := by decide +kernel
theorem d_Mo_go_70 : decode b_Mo_go 70 = .ok (.iaload, 1) := by decide +kernel
theorem d_Mo_go_71 : decode b_Mo_go 71 = .ok (.iload 4, 2) := by decide +kernel
theorem d_Mo_go_73 : decode b_Mo_go 73 = .ok (.invokevirtual 130, 3) := by decide +kernel
theorem d_Mo_go_76 : decode b_Mo_go 76 = .ok (.iload 7, 2) := by decide +kernel
theorem d_Mo_go_78 : decode b_Mo_go 78 = .ok (.ifCond .eq 13, 3) := by decide +kernel
theorem d_Mo_go_81 : decode b_Mo_go 81 = .ok (.aload_n 0, 1) := by decide +kernel
theorem d_Mo_go_82 : decode b_Mo_go 82 = .ok (.getfield 56, 3) := by decide +kernel
theorem d_Mo_go_85 : decode b_Mo_go 85 = .ok (.iload 5, 2) := by decide +kernel
theorem d_Mo_go_87 : decode b_Mo_go 87 = .ok (.iaload, 1) := by decide +kernel
theorem d_Mo_go_88 : decode b_Mo_go 88 = .ok (.goto 10, 3) := by decide +kernel
theorem d_Mo_go_91 : decode b_Mo_go 91 = .ok (.aload_n 0, 1) := by decide +kernel
theorem d_Mo_go_92 : decode b_Mo_go 92 = .ok (.getfield 59, 3) := by decide +kernel
theorem d_Mo_go_95 : decode b_Mo_go 95 = .ok (.iload 5, 2) := by decide +kernel
theorem d_Mo_go_97 : decode b_Mo_go 97 = .ok (.iaload, 1) := by decide +kernel
theorem d_Mo_go_98 : decode b_Mo_go 98 = .ok (.istore 5, 2) := by decide +kernel
theorem d_Mo_go_100 : decode b_Mo_go 100 = .ok (.goto (-94), 3) := by decide +kernel
theorem d_Mo_go_103 : decode b_Mo_go 103 = .ok (.iload 6, 2) := by decide +kernel
theorem d_Mo_go_105 : decode b_Mo_go 105 = .ok (.ireturn, 1) := by decide +kernel
set_option maxHeartbeats 4000000 in
set_option maxRecDepth 100000 in
theorem l_Mo_go_6 {p : Program} {l : Launch} {e : Env} {s : State} {m : MethodId} {args : Array Value} {below : List Frame} {meth : Method} {c : Code} {dC : Nat → ClassId} {dI : Nat → Nat → Nat} {L : Nat → Nat} {cA : Nat → ClassId} (a0 : Int32) (a1 : Int32) (a2 : Int32) (a3 : Int32)  (hF : CallFix p m c b_Mo_go 8 s args w_all R_Mo) (hK : kW_M dC dI cA s) (hL : ij 25 L) (hr : meth.sig.returnType = (some .int)) (hlocks : meth.locks = false) : ∀ (n : Nat) (v5 : Int32) (v6 : Int32) (ar : Nat → Nat → Int32) (sc : Nat → Int32), q_Mo_go_6 a0 a1 a2 a3 n v5 v6 ar sc → ∀ (H : Heap) (locs : List Loc), va_P (dC, dI) classes (wM L cA ar sc) H → va_S (aM L) s.heap H locs → ∀ (ls : Array Slot), lv_has ls 8 [(5, .int v5), (6, .int v6), (0, .ref (L 0)), (1, .int a0), (2, .int a1), (3, .int a2), (4, .int a3)] → W p l e (rmD 1) s m args below meth c H locs 0 0 (MQ below (va_Qi (fun (r : Int32) (u : oS) => (r, u.1, u.2) = g_Mo_go_6 a0 a1 a2 a3 n v5 v6 ar sc) (fun u t => va_P (dC, dI) classes (wM L cA u.1 u.2) t.heap) (aM L)) args s 0 0 (aM L)) (F0 m 6 ls []) := by
  have hx := hF.1
  have hb := hF.2.1
  have hown := hF.2.2.2.1
  have hts := hF.2.2.2.2
  intro n
  induction n with
  | zero => intro v5 v6 ar sc h; exact False.elim h
  | succ n ih =>
    intro v5 v6 ar sc h H locs hP hS ls hl
    rw [q_Mo_go_6] at h
    refine lv_iload hx hb d_Mo_go_6 (lv_at hl 0 rfl) ?_
    refine lv_if_lt (tgt := 103) hx hb d_Mo_go_8 (by decide) (fun c8 => ?_) (fun c8 => ?_)
    · have h := h.1 c8
      refine lv_iload hx hb d_Mo_go_103 (lv_at hl 1 rfl) ?_
      have hv : ((v6, ar, sc) : Int32 × (Nat → Nat → Int32) × (Nat → Int32)) = g_Mo_go_6 a0 a1 a2 a3 (n + 1) v5 v6 ar sc := by rw [g_Mo_go_6, if_pos c8]
      exact W.iret (v := v6) hx hb hr (fun t ht hW => ⟨⟨v6, (ar, sc), rfl, hv, by dsimp only; rw [ht]; exact hP⟩, hS.F ht⟩) hS.2.2 d_Mo_go_105
    · have h := h.2 c8
      refine lv_aload_n hx hb d_Mo_go_11 rfl (lv_at hl 2 rfl) ?_
      refine gf_Mo_told hF hK hP m_233 d_Mo_go_12 ?_
      refine lv_iload hx hb d_Mo_go_15 (lv_at hl 0 rfl) ?_
      have k17 := h.1
      have h := h.2
      refine alM_15 hF hK hP k17 d_Mo_go_17 ?_
      refine lv_if_ne (tgt := 23) hx hb d_Mo_go_18 (by decide) (fun c18 => ?_) (fun c18 => ?_)
      · have h := h.2 c18
        refine lv_iload_n hx hb d_Mo_go_23 rfl (lv_at hl 4 rfl) ?_
        refine lv_iload hx hb d_Mo_go_24 (lv_at hl 0 rfl) ?_
        refine lv_ishr hx hb d_Mo_go_26 ?_
        refine lv_iconst (v := 1) hx hb d_Mo_go_27 (by decide) ?_
        refine lv_iand hx hb d_Mo_go_28 ?_
        refine lv_iconst (v := 1) hx hb d_Mo_go_29 (by decide) ?_
        refine lv_icmp_ne (tgt := 37) hx hb d_Mo_go_30 (by decide) (fun c30 => ?_) (fun c30 => ?_)
        · have h := h.2 c30
          refine lv_iconst (v := 0) hx hb d_Mo_go_37 (by decide) ?_
          refine lv_istore (lv' := [(7, .int 0), (5, .int v5), (6, .int v6), (0, .ref (L 0)), (1, .int a0), (2, .int a1), (3, .int a2), (4, .int a3)]) hx hb d_Mo_go_38 hl (by decide) rfl (fun ls hl => ?_)
          refine lv_iload hx hb d_Mo_go_40 (lv_at hl 0 rfl) ?_
          refine lv_if_ne (tgt := 76) hx hb d_Mo_go_42 (by decide) (fun c9 => absurd c9 (by decide)) (fun _ => ?_)
          refine lv_aload_n hx hb d_Mo_go_45 rfl (lv_at hl 3 rfl) ?_
          refine gf_Mo_bad hF hK hP m_234 d_Mo_go_46 ?_
          refine lv_iload hx hb d_Mo_go_49 (lv_at hl 1 rfl) ?_
          have k51 := h.1
          have h := h.2
          refine alM_18 hF hK hP k51 d_Mo_go_51 ?_
          refine lv_if_le (tgt := 76) hx hb d_Mo_go_52 (by decide) (fun c52 => ?_) (fun c52 => ?_)
          · have h := h.1 c52
            refine lv_iload hx hb d_Mo_go_76 (lv_at hl 0 rfl) ?_
            refine lv_if_eq (tgt := 91) hx hb d_Mo_go_78 (by decide) (fun _ => ?_) (fun c9 => absurd c9 (by decide))
            refine lv_aload_n hx hb d_Mo_go_91 rfl (lv_at hl 3 rfl) ?_
            refine gf_Mo_no hF hK hP m_235 d_Mo_go_92 ?_
            refine lv_iload hx hb d_Mo_go_95 (lv_at hl 1 rfl) ?_
            have k97 := h.1
            have h := h.2
            refine alM_17 hF hK hP k97 d_Mo_go_97 ?_
            refine lv_istore (lv' := [(5, .int (ar 17 v5.toNatClampNeg)), (7, .int 0), (6, .int v6), (0, .ref (L 0)), (1, .int a0), (2, .int a1), (3, .int a2), (4, .int a3)]) hx hb d_Mo_go_98 hl (by decide) rfl (fun ls hl => ?_)
            refine lv_goto (tgt := 6) hx hb d_Mo_go_100 (by decide) ?_
            have hv : g_Mo_go_6 a0 a1 a2 a3 (n + 1) v5 v6 ar sc = g_Mo_go_6 a0 a1 a2 a3 n (ar 17 v5.toNatClampNeg) v6 ar sc := by rw [g_Mo_go_6, if_neg c8, if_neg c18, if_neg c30, if_pos c52]
            rw [hv]
            exact ih (ar 17 v5.toNatClampNeg) v6 ar sc h _ _ hP hS ls (lv_sub hl [0, 2, 3, 4, 5, 6, 7] rfl)
          · have h := h.2 c52
            refine lv_iinc (v := v6 + 1) (lv' := [(6, .int (v6 + 1)), (7, .int 0), (5, .int v5), (0, .ref (L 0)), (1, .int a0), (2, .int a1), (3, .int a2), (4, .int a3)]) hx hb d_Mo_go_55 hl (k := 2) rfl rfl (by decide) rfl (fun ls hl => ?_)
            refine lv_iload_n hx hb d_Mo_go_58 rfl (lv_at hl 6 rfl) ?_
            refine lv_if_eq (tgt := 76) hx hb d_Mo_go_59 (by decide) (fun c59 => ?_) (fun c59 => ?_)
            · have h := h.1 c59
              refine lv_iload hx hb d_Mo_go_76 (lv_at hl 1 rfl) ?_
              refine lv_if_eq (tgt := 91) hx hb d_Mo_go_78 (by decide) (fun _ => ?_) (fun c9 => absurd c9 (by decide))
              refine lv_aload_n hx hb d_Mo_go_91 rfl (lv_at hl 3 rfl) ?_
              refine gf_Mo_no hF hK hP m_235 d_Mo_go_92 ?_
              refine lv_iload hx hb d_Mo_go_95 (lv_at hl 2 rfl) ?_
              have k97 := h.1
              have h := h.2
              refine alM_17 hF hK hP k97 d_Mo_go_97 ?_
              refine lv_istore (lv' := [(5, .int (ar 17 v5.toNatClampNeg)), (6, .int (v6 + 1)), (7, .int 0), (0, .ref (L 0)), (1, .int a0), (2, .int a1), (3, .int a2), (4, .int a3)]) hx hb d_Mo_go_98 hl (by decide) rfl (fun ls hl => ?_)
              refine lv_goto (tgt := 6) hx hb d_Mo_go_100 (by decide) ?_
              have hv : g_Mo_go_6 a0 a1 a2 a3 (n + 1) v5 v6 ar sc = g_Mo_go_6 a0 a1 a2 a3 n (ar 17 v5.toNatClampNeg) (v6 + 1) ar sc := by rw [g_Mo_go_6, if_neg c8, if_neg c18, if_neg c30, if_neg c52, if_pos c59]
              rw [hv]
              exact ih (ar 17 v5.toNatClampNeg) (v6 + 1) ar sc h _ _ hP hS ls (lv_sub hl [0, 1, 3, 4, 5, 6, 7] rfl)
            · have h := h.2 c59
              refine lv_aload_n hx hb d_Mo_go_62 rfl (lv_at hl 3 rfl) ?_
              refine lv_iload_n hx hb d_Mo_go_63 rfl (lv_at hl 4 rfl) ?_
              refine lv_aload_n hx hb d_Mo_go_64 rfl (lv_at hl 3 rfl) ?_
              refine gf_Mo_bad hF hK hP m_234 d_Mo_go_65 ?_
              refine lv_iload hx hb d_Mo_go_68 (lv_at hl 2 rfl) ?_
              have k70 := h.1
              have h := h.2
              refine alM_18 hF hK hP k70 d_Mo_go_70 ?_
              refine lv_iload hx hb d_Mo_go_71 (lv_at hl 7 rfl) ?_
              have k73 := h.1
              have h := h.2
              refine r_Mo_add hF hK hP hL hS k73 m_236 hl.1 ⟨Nat.le_of_ble_eq_true rfl, Nat.le_of_ble_eq_true rfl⟩ ⟨Nat.zero_le _, Nat.zero_le _⟩ (Nat.le_of_ble_eq_true rfl) d_Mo_go_73 (fun H locs hP hS => ?_)
              refine lv_iload hx hb d_Mo_go_76 (lv_at hl 1 rfl) ?_
              refine lv_if_eq (tgt := 91) hx hb d_Mo_go_78 (by decide) (fun _ => ?_) (fun c9 => absurd c9 (by decide))
              refine lv_aload_n hx hb d_Mo_go_91 rfl (lv_at hl 3 rfl) ?_
              refine gf_Mo_no hF hK hP m_235 d_Mo_go_92 ?_
              refine lv_iload hx hb d_Mo_go_95 (lv_at hl 2 rfl) ?_
              have k97 := h.1
              have h := h.2
              refine alM_17 hF hK hP k97 d_Mo_go_97 ?_
              refine lv_istore (lv' := [(5, .int (((f_Mo_add ar sc a0 (ar 18 v5.toNatClampNeg) a3).1) 17 v5.toNatClampNeg)), (6, .int (v6 + 1)), (7, .int 0), (0, .ref (L 0)), (1, .int a0), (2, .int a1), (3, .int a2), (4, .int a3)]) hx hb d_Mo_go_98 hl (by decide) rfl (fun ls hl => ?_)
              refine lv_goto (tgt := 6) hx hb d_Mo_go_100 (by decide) ?_
              have hv : g_Mo_go_6 a0 a1 a2 a3 (n + 1) v5 v6 ar sc = g_Mo_go_6 a0 a1 a2 a3 n (((f_Mo_add ar sc a0 (ar 18 v5.toNatClampNeg) a3).1) 17 v5.toNatClampNeg) (v6 + 1) ((f_Mo_add ar sc a0 (ar 18 v5.toNatClampNeg) a3).1) ((f_Mo_add ar sc a0 (ar 18 v5.toNatClampNeg) a3).2) := by rw [g_Mo_go_6, if_neg c8, if_neg c18, if_neg c30, if_neg c52, if_neg c59]
              rw [hv]
              exact ih (((f_Mo_add ar sc a0 (ar 18 v5.toNatClampNeg) a3).1) 17 v5.toNatClampNeg) (v6 + 1) ((f_Mo_add ar sc a0 (ar 18 v5.toNatClampNeg) a3).1) ((f_Mo_add ar sc a0 (ar 18 v5.toNatClampNeg) a3).2) h _ _ hP hS ls (lv_sub hl [0, 1, 3, 4, 5, 6, 7] rfl)
        · have h := h.1 c30
          refine lv_iconst (v := 1) hx hb d_Mo_go_33 (by decide) ?_
          refine lv_goto (tgt := 38) hx hb d_Mo_go_34 (by decide) ?_
          refine lv_istore (lv' := [(7, .int 1), (5, .int v5), (6, .int v6), (0, .ref (L 0)), (1, .int a0), (2, .int a1), (3, .int a2), (4, .int a3)]) hx hb d_Mo_go_38 hl (by decide) rfl (fun ls hl => ?_)
          refine lv_iload hx hb d_Mo_go_40 (lv_at hl 0 rfl) ?_
          refine lv_if_ne (tgt := 76) hx hb d_Mo_go_42 (by decide) (fun _ => ?_) (fun c9 => absurd c9 (by decide))
          refine lv_iload hx hb d_Mo_go_76 (lv_at hl 0 rfl) ?_
          refine lv_if_eq (tgt := 91) hx hb d_Mo_go_78 (by decide) (fun c9 => absurd c9 (by decide)) (fun _ => ?_)
          refine lv_aload_n hx hb d_Mo_go_81 rfl (lv_at hl 3 rfl) ?_
          refine gf_Mo_yes hF hK hP m_237 d_Mo_go_82 ?_
          refine lv_iload hx hb d_Mo_go_85 (lv_at hl 1 rfl) ?_
          have k87 := h.1
          have h := h.2
          refine alM_16 hF hK hP k87 d_Mo_go_87 ?_
          refine lv_goto (tgt := 98) hx hb d_Mo_go_88 (by decide) ?_
          refine lv_istore (lv' := [(5, .int (ar 16 v5.toNatClampNeg)), (7, .int 1), (6, .int v6), (0, .ref (L 0)), (1, .int a0), (2, .int a1), (3, .int a2), (4, .int a3)]) hx hb d_Mo_go_98 hl (by decide) rfl (fun ls hl => ?_)
          refine lv_goto (tgt := 6) hx hb d_Mo_go_100 (by decide) ?_
          have hv : g_Mo_go_6 a0 a1 a2 a3 (n + 1) v5 v6 ar sc = g_Mo_go_6 a0 a1 a2 a3 n (ar 16 v5.toNatClampNeg) v6 ar sc := by rw [g_Mo_go_6, if_neg c8, if_neg c18, if_pos c30]
          rw [hv]
          exact ih (ar 16 v5.toNatClampNeg) v6 ar sc h _ _ hP hS ls (lv_sub hl [0, 2, 3, 4, 5, 6, 7] rfl)
      · have h := h.1 c18
        refine lv_iconst (v := (-1)) hx hb d_Mo_go_21 (by decide) ?_
        have hv : (((-1), ar, sc) : Int32 × (Nat → Nat → Int32) × (Nat → Int32)) = g_Mo_go_6 a0 a1 a2 a3 (n + 1) v5 v6 ar sc := by rw [g_Mo_go_6, if_neg c8, if_pos c18]
        exact W.iret (v := (-1)) hx hb hr (fun t ht hW => ⟨⟨(-1), (ar, sc), rfl, hv, by dsimp only; rw [ht]; exact hP⟩, hS.F ht⟩) hS.2.2 d_Mo_go_22
set_option maxHeartbeats 4000000 in
set_option maxRecDepth 100000 in
theorem c_Mo_go (l : Launch) (dC : Nat → ClassId) (dI : Nat → Nat → Nat) (L : Nat → Nat) (cA : Nat → ClassId) (ar : Nat → Nat → Int32) (sc : Nat → Int32) (a0 : Int32) (a1 : Int32) (a2 : Int32) (a3 : Int32) (hL : ij 25 L) (h : p_Mo_go ar sc a0 a1 a2 a3) : Met l y_Mo_go z_Mo_go (rmD 1) (va_Pc [.ref (L 0), .int a0, .int a1, .int a2, .int a3] (fun U => xw_M dC dI L cA ar sc U)) (va_Qi (fun (r : Int32) (u : oS) => (r, u.1, u.2) = f_Mo_go ar sc a0 a1 a2 a3) (fun u t => va_P (dC, dI) classes (wM L cA u.1 u.2) t.heap) (aM L)) 0 0 (aM L) := by
  refine Met.ofW (cc := b_Mo_go) (maxL := 8) (ret := (some .int)) (by decide) rfl ?_
  intro p e s m args below meth c s₁ B hml hv
  obtain ⟨rfl, ⟨hP, hK⟩⟩ := hv
  have hx := B.exec
  have hb := B.bytes
  have hr := B.returns
  have hts : ∀ w ∈ w_all, w.before _ s = true := fun w hw => atoms_spec (ws := z_Mo_go) B.pre w (List.mem_cons_of_mem _ hw)
  have hown : s.vm.findClass R_Mo = some m.cls := findClass_of_methodNamed B.named
  have hlocks := B.notSynchronized
  have hF : CallFix p m c b_Mo_go 8 s _ w_all R_Mo := ⟨hx, hb, hml, hown, hts⟩
  have hS : va_S (aM L) s.heap s.heap [] := va_S.rf
  have hl := lv_entry ([.ref (L 0), .int a0, .int a1, .int a2, .int a3]) (n := 8) (Nat.le_of_ble_eq_true rfl)
  rw [lg_entry_eq]
  generalize (lg_sl ([.ref (L 0), .int a0, .int a1, .int a2, .int a3]) ++ List.replicate (8 - (lg_sl ([.ref (L 0), .int a0, .int a1, .int a2, .int a3])).length) Slot.unset).toArray = ls at hl ⊢
  have hl : lv_has ls 8 [(0, .ref (L 0)), (1, .int a0), (2, .int a1), (3, .int a2), (4, .int a3)] := hl
  unfold p_Mo_go at h
  refine lv_iconst (v := 0) hx hb d_Mo_go_0 (by decide) ?_
  refine lv_istore (lv' := [(5, .int 0), (0, .ref (L 0)), (1, .int a0), (2, .int a1), (3, .int a2), (4, .int a3)]) hx hb d_Mo_go_1 hl (by decide) rfl (fun ls hl => ?_)
  refine lv_iconst (v := 0) hx hb d_Mo_go_3 (by decide) ?_
  refine lv_istore (lv' := [(6, .int 0), (5, .int 0), (0, .ref (L 0)), (1, .int a0), (2, .int a1), (3, .int a2), (4, .int a3)]) hx hb d_Mo_go_4 hl (by decide) rfl (fun ls hl => ?_)
  have kL6 := h
  have hv : f_Mo_go ar sc a0 a1 a2 a3 = g_Mo_go_6 a0 a1 a2 a3 200 0 0 ar sc := by rw [f_Mo_go]
  rw [hv]
  exact l_Mo_go_6 a0 a1 a2 a3 hF hK hL hr hlocks 200 0 0 ar sc kL6 _ _ hP hS ls (lv_sub hl [1, 0, 2, 3, 4, 5, 6] rfl)
set_option maxHeartbeats 1000000 in
theorem r_Mo_go {p : Program} {l : Launch} {e : Env} {R : Room} {s : State} {m : MethodId} {args : Array Value} {below : List Frame} {meth : Method} {c : Code} {H : Heap} {locs : List Loc} {cells slots : Nat} {Q : State → Prop} {cc : ByteArray} {nL pc idx : Nat} {ls : Array Slot} {rest : List Value} {own : String} {dC : Nat → ClassId} {dI : Nat → Nat → Nat} {L : Nat → Nat} {cA : Nat → ClassId} {ar : Nat → Nat → Int32} {sc : Nat → Int32} {H0 : Heap} {a0 : Int32} {a1 : Int32} {a2 : Int32} {a3 : Int32} (hF : CallFix p m c cc nL s args w_all own) (hK : kW_M dC dI cA s) (hP : va_P (dC, dI) classes (wM L cA ar sc) H) (hL : ij 25 L) (hS : va_S (aM L) H0 H locs) (h : p_Mo_go ar sc a0 a1 a2 a3) (hlk : Cond.methodLink own idx y_Mo_go ∈ w_all) (hsz : ls.size = nL) (hR : (rmD 1).frames + 1 ≤ R.frames ∧ 8 + (8 + 11) + (rmD 1).locals ≤ R.locals) (hc : cells ≤ R.cells ∧ slots ≤ R.slots) (hrs : (rest.map fun v => v.category).sum ≤ 8) (hdg : decode cc pc = .ok (.invokevirtual idx, 3)) (kk : ∀ (H1 : Heap) (locs1 : List Loc), va_P (dC, dI) classes (wM L cA ((f_Mo_go ar sc a0 a1 a2 a3).2.1) ((f_Mo_go ar sc a0 a1 a2 a3).2.2)) H1 → va_S (aM L) H0 H1 locs1 → W p l e R s m args below meth c H1 locs1 cells slots Q (F0 m (pc + 3) ls (.int (f_Mo_go ar sc a0 a1 a2 a3).1 :: rest))) : W p l e R s m args below meth c H locs cells slots Q (F0 m pc ls (.int a3 :: .int a2 :: .int a1 :: .int a0 :: .ref (L 0) :: rest)) :=
  va_calli (va_runV (As := [.int a0, .int a1, .int a2, .int a3]) (rest := rest) hF (c_Mo_go l dC dI L cA ar sc a0 a1 a2 a3 hL h) (cwV 4 hF.2.2.2.2 (gV hlk m_238 m_239 m_187 m_240) rfl rfl rfl (by decide +kernel) hR) ⟨xb_M, va_recv hK.1 hP (ci := 7) (q0 := 0) rfl rfl, fun U hU hW => ⟨rfl, by rw [hU]; exact hP, kW_M_warm hW hK⟩⟩ rfl rfl hsz rfl (lv_room hrs) hdg hc) hS (fun q _ h9 => h9) (fun q h9 => h9) (fun r u t H1 locs1 ht hvm hw hB hz1 hk1 hS1 => by
    have hk9 := kk H1 locs1 (by rw [← hw, ← ht]; exact hB) hS1
    rw [← hw] at hk9
    exact hk9)
theorem d_Mo_size_0 : decode b_Mo_size 0 = .ok (.iload_n 0, 1) := by decide +kernel
theorem d_Mo_size_1 : decode b_Mo_size 1 = .ok (.ifCond .ge 8, 3) := by decide +kernel
theorem d_Mo_size_4 : decode b_Mo_size 4 = .ok (.iload_n 0, 1) := by decide +kernel
theorem d_Mo_size_5 : decode b_Mo_size 5 = .ok (.ineg, 1) := by decide +kernel
theorem d_Mo_size_6 : decode b_Mo_size 6 = .ok (.goto 4, 3) := by decide +kernel
theorem d_Mo_size_9 : decode b_Mo_size 9 = .ok (.iload_n 0, 1) := by decide +kernel
theorem d_Mo_size_10 : decode b_Mo_size 10 = .ok (.ireturn, 1) := by decide +kernel
set_option maxHeartbeats 4000000 in
set_option maxRecDepth 100000 in
theorem c_Mo_size (l : Launch) (a0 : Int32) : Met l y_Mo_size z_Mo_size (rmD 0) (fun v _ => v = ([.int a0] : List Value).toArray) (QcRead (f_Mo_size a0)) 0 0 (fun _ => False) := by
  refine Met.ofW (cc := b_Mo_size) (maxL := 1) (ret := (some .int)) (by decide) rfl ?_
  intro p e s m args below meth c s₁ B hml hv
  obtain rfl := hv
  have hx := B.exec
  have hb := B.bytes
  have hr := B.returns
  have hts : ∀ w ∈ w_all, w.before _ s = true := fun w hw => atoms_spec (ws := z_Mo_size) B.pre w (List.mem_cons_of_mem _ hw)
  have hown : s.vm.findClass R_Mo = some m.cls := findClass_of_methodNamed B.named
  have hlocks := B.notSynchronized
  have hF : CallFix p m c b_Mo_size 1 s _ w_all R_Mo := ⟨hx, hb, hml, hown, hts⟩
  have hl := lv_entry ([.int a0]) (n := 1) (Nat.le_of_ble_eq_true rfl)
  rw [lg_entry_eq]
  generalize (lg_sl ([.int a0]) ++ List.replicate (1 - (lg_sl ([.int a0])).length) Slot.unset).toArray = ls at hl ⊢
  have hl : lv_has ls 1 [(0, .int a0)] := hl
  refine lv_iload_n hx hb d_Mo_size_0 rfl (lv_at hl 0 rfl) ?_
  refine lv_if_ge (tgt := 9) hx hb d_Mo_size_1 (by decide) (fun c1 => ?_) (fun c1 => ?_)
  · refine lv_iload_n hx hb d_Mo_size_9 rfl (lv_at hl 0 rfl) ?_
    have hv : (a0 : Int32) = f_Mo_size a0 := by rw [f_Mo_size, if_pos c1]
    exact W.iret (v := a0) hx hb hr (fun t ht hW => ⟨congrArg (fun z => Outcome.returned (some (Value.int z))) hv, ht⟩) (fun _ h9 => nomatch h9) d_Mo_size_10
  · refine lv_iload_n hx hb d_Mo_size_4 rfl (lv_at hl 0 rfl) ?_
    refine lv_ineg hx hb d_Mo_size_5 ?_
    refine lv_goto (tgt := 10) hx hb d_Mo_size_6 (by decide) ?_
    have hv : (-a0 : Int32) = f_Mo_size a0 := by rw [f_Mo_size, if_neg c1]
    exact W.iret (v := -a0) hx hb hr (fun t ht hW => ⟨congrArg (fun z => Outcome.returned (some (Value.int z))) hv, ht⟩) (fun _ h9 => nomatch h9) d_Mo_size_10
set_option maxHeartbeats 1000000 in
theorem r_Mo_size {p : Program} {l : Launch} {e : Env} {R : Room} {s : State} {m : MethodId} {args : Array Value} {below : List Frame} {meth : Method} {c : Code} {H : Heap} {locs : List Loc} {cells slots : Nat} {Q : State → Prop} {cc : ByteArray} {nL pc idx : Nat} {ls : Array Slot} {rest : List Value} {a0 : Int32} (hF : CallFix p m c cc nL s args w_all R_Mo) (hlk : Cond.methodLink R_Mo idx y_Mo_size ∈ w_all) (hsz : ls.size = nL) (hR : (rmD 0).frames + 1 ≤ R.frames ∧ 8 + (1 + 11) + (rmD 0).locals ≤ R.locals) (hc : cells ≤ R.cells ∧ slots ≤ R.slots) (hrs : (rest.map fun v => v.category).sum ≤ 8) (hdg : decode cc pc = .ok (.invokestatic idx, 3)) (kk : W p l e R s m args below meth c H locs cells slots Q (F0 m (pc + 3) ls (.int (f_Mo_size a0) :: rest))) : W p l e R s m args below meth c H locs cells slots Q (F0 m pc ls (.int a0 :: rest)) :=
  W.callR (W.runS (As := [.int a0]) (rest := rest) hF (c_Mo_size l a0) (cwS 1 hF.2.2.2.2 (gS hlk m_241 m_187 m_242) rfl rfl rfl (by decide +kernel) hR) preEq rfl rfl hsz rfl (lv_room hrs) hdg hc) kk
theorem d_Mo_between_0 : decode b_Mo_between 0 = .ok (.aload_n 0, 1) := by decide +kernel
theorem d_Mo_between_1 : decode b_Mo_between 1 = .ok (.getfield 31, 3) := by decide +kernel
theorem d_Mo_between_4 : decode b_Mo_between 4 = .ok (.iload_n 1, 1) := by decide +kernel
theorem d_Mo_between_5 : decode b_Mo_between 5 = .ok (.iaload, 1) := by decide +kernel
theorem d_Mo_between_6 : decode b_Mo_between 6 = .ok (.aload_n 0, 1) := by decide +kernel
theorem d_Mo_between_7 : decode b_Mo_between 7 = .ok (.getfield 31, 3) := by decide +kernel
theorem d_Mo_between_10 : decode b_Mo_between 10 = .ok (.iload_n 2, 1) := by decide +kernel
theorem d_Mo_between_11 : decode b_Mo_between 11 = .ok (.iaload, 1) := by decide +kernel
theorem d_Mo_between_12 : decode b_Mo_between 12 = .ok (.isub, 1) := by decide +kernel
theorem d_Mo_between_13 : decode b_Mo_between 13 = .ok (.invokestatic 145, 3) := by decide +kernel
theorem d_Mo_between_16 : decode b_Mo_between 16 = .ok (.aload_n 0, 1) := by decide +kernel
theorem d_Mo_between_17 : decode b_Mo_between 17 = .ok (.getfield 34, 3) := by decide +kernel
theorem d_Mo_between_20 : decode b_Mo_between 20 = .ok (.iload_n 1, 1) := by decide +kernel
theorem d_Mo_between_21 : decode b_Mo_between 21 = .ok (.iaload, 1) := by decide +kernel
theorem d_Mo_between_22 : decode b_Mo_between 22 = .ok (.aload_n 0, 1) := by decide +kernel
theorem d_Mo_between_23 : decode b_Mo_between 23 = .ok (.getfield 34, 3) := by decide +kernel
theorem d_Mo_between_26 : decode b_Mo_between 26 = .ok (.iload_n 2, 1) := by decide +kernel
theorem d_Mo_between_27 : decode b_Mo_between 27 = .ok (.iaload, 1) := by decide +kernel
theorem d_Mo_between_28 : decode b_Mo_between 28 = .ok (.isub, 1) := by decide +kernel
theorem d_Mo_between_29 : decode b_Mo_between 29 = .ok (.invokestatic 145, 3) := by decide +kernel
theorem d_Mo_between_32 : decode b_Mo_between 32 = .ok (.iadd, 1) := by decide +kernel
theorem d_Mo_between_33 : decode b_Mo_between 33 = .ok (.ireturn, 1) := by decide +kernel
set_option maxHeartbeats 4000000 in
set_option maxRecDepth 100000 in
theorem c_Mo_between (l : Launch) (dC : Nat → ClassId) (dI : Nat → Nat → Nat) (L : Nat → Nat) (cA : Nat → ClassId) (ar : Nat → Nat → Int32) (sc : Nat → Int32) (a0 : Int32) (a1 : Int32) (h : p_Mo_between ar sc a0 a1) : Met l y_Mo_between z_Mo_between (rmD 1) (va_Pc [.ref (L 0), .int a0, .int a1] (fun U => xw_M dC dI L cA ar sc U)) (QcRead (f_Mo_between ar sc a0 a1)) 0 0 (fun _ => False) := by
  refine Met.ofW (cc := b_Mo_between) (maxL := 3) (ret := (some .int)) (by decide) rfl ?_
  intro p e s m args below meth c s₁ B hml hv
  obtain ⟨rfl, ⟨hP, hK⟩⟩ := hv
  have hx := B.exec
  have hb := B.bytes
  have hr := B.returns
  have hts : ∀ w ∈ w_all, w.before _ s = true := fun w hw => atoms_spec (ws := z_Mo_between) B.pre w (List.mem_cons_of_mem _ hw)
  have hown : s.vm.findClass R_Mo = some m.cls := findClass_of_methodNamed B.named
  have hlocks := B.notSynchronized
  have hF : CallFix p m c b_Mo_between 3 s _ w_all R_Mo := ⟨hx, hb, hml, hown, hts⟩
  have hl := lv_entry ([.ref (L 0), .int a0, .int a1]) (n := 3) (Nat.le_of_ble_eq_true rfl)
  rw [lg_entry_eq]
  generalize (lg_sl ([.ref (L 0), .int a0, .int a1]) ++ List.replicate (3 - (lg_sl ([.ref (L 0), .int a0, .int a1])).length) Slot.unset).toArray = ls at hl ⊢
  have hl : lv_has ls 3 [(0, .ref (L 0)), (1, .int a0), (2, .int a1)] := hl
  unfold p_Mo_between at h
  refine lv_aload_n hx hb d_Mo_between_0 rfl (lv_at hl 0 rfl) ?_
  refine gf_Mo_px hF hK hP m_243 d_Mo_between_1 ?_
  refine lv_iload_n hx hb d_Mo_between_4 rfl (lv_at hl 1 rfl) ?_
  have k5 := h.1
  have h := h.2
  refine alM_8 hF hK hP k5 d_Mo_between_5 ?_
  refine lv_aload_n hx hb d_Mo_between_6 rfl (lv_at hl 0 rfl) ?_
  refine gf_Mo_px hF hK hP m_243 d_Mo_between_7 ?_
  refine lv_iload_n hx hb d_Mo_between_10 rfl (lv_at hl 2 rfl) ?_
  have k11 := h.1
  have h := h.2
  refine alM_8 hF hK hP k11 d_Mo_between_11 ?_
  refine lv_isub hx hb d_Mo_between_12 ?_
  refine r_Mo_size hF m_244 hl.1 ⟨Nat.le_of_ble_eq_true rfl, Nat.le_of_ble_eq_true rfl⟩ ⟨Nat.zero_le _, Nat.zero_le _⟩ (Nat.le_of_ble_eq_true rfl) d_Mo_between_13 ?_
  refine lv_aload_n hx hb d_Mo_between_16 rfl (lv_at hl 0 rfl) ?_
  refine gf_Mo_py hF hK hP m_245 d_Mo_between_17 ?_
  refine lv_iload_n hx hb d_Mo_between_20 rfl (lv_at hl 1 rfl) ?_
  have k21 := h.1
  have h := h.2
  refine alM_9 hF hK hP k21 d_Mo_between_21 ?_
  refine lv_aload_n hx hb d_Mo_between_22 rfl (lv_at hl 0 rfl) ?_
  refine gf_Mo_py hF hK hP m_245 d_Mo_between_23 ?_
  refine lv_iload_n hx hb d_Mo_between_26 rfl (lv_at hl 2 rfl) ?_
  have k27 := h
  refine alM_9 hF hK hP k27 d_Mo_between_27 ?_
  refine lv_isub hx hb d_Mo_between_28 ?_
  refine r_Mo_size hF m_244 hl.1 ⟨Nat.le_of_ble_eq_true rfl, Nat.le_of_ble_eq_true rfl⟩ ⟨Nat.zero_le _, Nat.zero_le _⟩ (Nat.le_of_ble_eq_true rfl) d_Mo_between_29 ?_
  refine lv_iadd hx hb d_Mo_between_32 ?_
  have hv : ((f_Mo_size ((ar 8 a0.toNatClampNeg) - (ar 8 a1.toNatClampNeg))) + (f_Mo_size ((ar 9 a0.toNatClampNeg) - (ar 9 a1.toNatClampNeg))) : Int32) = f_Mo_between ar sc a0 a1 := by rw [f_Mo_between]
  exact W.iret (v := (f_Mo_size ((ar 8 a0.toNatClampNeg) - (ar 8 a1.toNatClampNeg))) + (f_Mo_size ((ar 9 a0.toNatClampNeg) - (ar 9 a1.toNatClampNeg)))) hx hb hr (fun t ht hW => ⟨congrArg (fun z => Outcome.returned (some (Value.int z))) hv, ht⟩) (fun _ h9 => nomatch h9) d_Mo_between_33
set_option maxHeartbeats 1000000 in
theorem r_Mo_between {p : Program} {l : Launch} {e : Env} {R : Room} {s : State} {m : MethodId} {args : Array Value} {below : List Frame} {meth : Method} {c : Code} {H : Heap} {locs : List Loc} {cells slots : Nat} {Q : State → Prop} {cc : ByteArray} {nL pc idx : Nat} {ls : Array Slot} {rest : List Value} {own : String} {dC : Nat → ClassId} {dI : Nat → Nat → Nat} {L : Nat → Nat} {cA : Nat → ClassId} {ar : Nat → Nat → Int32} {sc : Nat → Int32} {a0 : Int32} {a1 : Int32} (hF : CallFix p m c cc nL s args w_all own) (hK : kW_M dC dI cA s) (hP : va_P (dC, dI) classes (wM L cA ar sc) H) (h : p_Mo_between ar sc a0 a1) (hlk : Cond.methodLink own idx y_Mo_between ∈ w_all) (hsz : ls.size = nL) (hR : (rmD 1).frames + 1 ≤ R.frames ∧ 8 + (3 + 11) + (rmD 1).locals ≤ R.locals) (hc : cells ≤ R.cells ∧ slots ≤ R.slots) (hrs : (rest.map fun v => v.category).sum ≤ 8) (hdg : decode cc pc = .ok (.invokevirtual idx, 3)) (kk : W p l e R s m args below meth c H locs cells slots Q (F0 m (pc + 3) ls (.int (f_Mo_between ar sc a0 a1) :: rest))) : W p l e R s m args below meth c H locs cells slots Q (F0 m pc ls (.int a1 :: .int a0 :: .ref (L 0) :: rest)) :=
  W.callR (W.runV (As := [.int a0, .int a1]) (rest := rest) hF (c_Mo_between l dC dI L cA ar sc a0 a1 h) (cwV 2 hF.2.2.2.2 (gV hlk m_246 m_247 m_187 m_248) rfl rfl rfl (by decide +kernel) hR) ⟨xb_M, va_recv hK.1 hP (ci := 7) (q0 := 0) rfl rfl, fun U hU hW => ⟨rfl, by rw [hU]; exact hP, kW_M_warm hW hK⟩⟩ rfl rfl hsz rfl (lv_room hrs) hdg hc) kk
theorem d_Mo_home_0 : decode b_Mo_home 0 = .ok (.aload_n 0, 1) := by decide +kernel
theorem d_Mo_home_1 : decode b_Mo_home 1 = .ok (.getfield 31, 3) := by decide +kernel
theorem d_Mo_home_4 : decode b_Mo_home 4 = .ok (.iload_n 1, 1) := by decide +kernel
theorem d_Mo_home_5 : decode b_Mo_home 5 = .ok (.iaload, 1) := by decide +kernel
theorem d_Mo_home_6 : decode b_Mo_home 6 = .ok (.invokestatic 145, 3) := by decide +kernel
theorem d_Mo_home_9 : decode b_Mo_home 9 = .ok (.aload_n 0, 1) := by decide +kernel
theorem d_Mo_home_10 : decode b_Mo_home 10 = .ok (.getfield 34, 3) := by decide +kernel
theorem d_Mo_home_13 : decode b_Mo_home 13 = .ok (.iload_n 1, 1) := by decide +kernel
theorem d_Mo_home_14 : decode b_Mo_home 14 = .ok (.iaload, 1) := by decide +kernel
theorem d_Mo_home_15 : decode b_Mo_home 15 = .ok (.invokestatic 145, 3) := by decide +kernel
theorem d_Mo_home_18 : decode b_Mo_home 18 = .ok (.iadd, 1) := by decide +kernel
theorem d_Mo_home_19 : decode b_Mo_home 19 = .ok (.ireturn, 1) := by decide +kernel
set_option maxHeartbeats 4000000 in
set_option maxRecDepth 100000 in
theorem c_Mo_home (l : Launch) (dC : Nat → ClassId) (dI : Nat → Nat → Nat) (L : Nat → Nat) (cA : Nat → ClassId) (ar : Nat → Nat → Int32) (sc : Nat → Int32) (a0 : Int32) (h : p_Mo_home ar sc a0) : Met l y_Mo_home z_Mo_home (rmD 1) (va_Pc [.ref (L 0), .int a0] (fun U => xw_M dC dI L cA ar sc U)) (QcRead (f_Mo_home ar sc a0)) 0 0 (fun _ => False) := by
  refine Met.ofW (cc := b_Mo_home) (maxL := 2) (ret := (some .int)) (by decide) rfl ?_
  intro p e s m args below meth c s₁ B hml hv
  obtain ⟨rfl, ⟨hP, hK⟩⟩ := hv
  have hx := B.exec
  have hb := B.bytes
  have hr := B.returns
  have hts : ∀ w ∈ w_all, w.before _ s = true := fun w hw => atoms_spec (ws := z_Mo_home) B.pre w (List.mem_cons_of_mem _ hw)
  have hown : s.vm.findClass R_Mo = some m.cls := findClass_of_methodNamed B.named
  have hlocks := B.notSynchronized
  have hF : CallFix p m c b_Mo_home 2 s _ w_all R_Mo := ⟨hx, hb, hml, hown, hts⟩
  have hl := lv_entry ([.ref (L 0), .int a0]) (n := 2) (Nat.le_of_ble_eq_true rfl)
  rw [lg_entry_eq]
  generalize (lg_sl ([.ref (L 0), .int a0]) ++ List.replicate (2 - (lg_sl ([.ref (L 0), .int a0])).length) Slot.unset).toArray = ls at hl ⊢
  have hl : lv_has ls 2 [(0, .ref (L 0)), (1, .int a0)] := hl
  unfold p_Mo_home at h
  refine lv_aload_n hx hb d_Mo_home_0 rfl (lv_at hl 0 rfl) ?_
  refine gf_Mo_px hF hK hP m_243 d_Mo_home_1 ?_
  refine lv_iload_n hx hb d_Mo_home_4 rfl (lv_at hl 1 rfl) ?_
  have k5 := h.1
  have h := h.2
  refine alM_8 hF hK hP k5 d_Mo_home_5 ?_
  refine r_Mo_size hF m_244 hl.1 ⟨Nat.le_of_ble_eq_true rfl, Nat.le_of_ble_eq_true rfl⟩ ⟨Nat.zero_le _, Nat.zero_le _⟩ (Nat.le_of_ble_eq_true rfl) d_Mo_home_6 ?_
  refine lv_aload_n hx hb d_Mo_home_9 rfl (lv_at hl 0 rfl) ?_
  refine gf_Mo_py hF hK hP m_245 d_Mo_home_10 ?_
  refine lv_iload_n hx hb d_Mo_home_13 rfl (lv_at hl 1 rfl) ?_
  have k14 := h
  refine alM_9 hF hK hP k14 d_Mo_home_14 ?_
  refine r_Mo_size hF m_244 hl.1 ⟨Nat.le_of_ble_eq_true rfl, Nat.le_of_ble_eq_true rfl⟩ ⟨Nat.zero_le _, Nat.zero_le _⟩ (Nat.le_of_ble_eq_true rfl) d_Mo_home_15 ?_
  refine lv_iadd hx hb d_Mo_home_18 ?_
  have hv : ((f_Mo_size (ar 8 a0.toNatClampNeg)) + (f_Mo_size (ar 9 a0.toNatClampNeg)) : Int32) = f_Mo_home ar sc a0 := by rw [f_Mo_home]
  exact W.iret (v := (f_Mo_size (ar 8 a0.toNatClampNeg)) + (f_Mo_size (ar 9 a0.toNatClampNeg))) hx hb hr (fun t ht hW => ⟨congrArg (fun z => Outcome.returned (some (Value.int z))) hv, ht⟩) (fun _ h9 => nomatch h9) d_Mo_home_19
set_option maxHeartbeats 1000000 in
theorem r_Mo_home {p : Program} {l : Launch} {e : Env} {R : Room} {s : State} {m : MethodId} {args : Array Value} {below : List Frame} {meth : Method} {c : Code} {H : Heap} {locs : List Loc} {cells slots : Nat} {Q : State → Prop} {cc : ByteArray} {nL pc idx : Nat} {ls : Array Slot} {rest : List Value} {own : String} {dC : Nat → ClassId} {dI : Nat → Nat → Nat} {L : Nat → Nat} {cA : Nat → ClassId} {ar : Nat → Nat → Int32} {sc : Nat → Int32} {a0 : Int32} (hF : CallFix p m c cc nL s args w_all own) (hK : kW_M dC dI cA s) (hP : va_P (dC, dI) classes (wM L cA ar sc) H) (h : p_Mo_home ar sc a0) (hlk : Cond.methodLink own idx y_Mo_home ∈ w_all) (hsz : ls.size = nL) (hR : (rmD 1).frames + 1 ≤ R.frames ∧ 8 + (2 + 11) + (rmD 1).locals ≤ R.locals) (hc : cells ≤ R.cells ∧ slots ≤ R.slots) (hrs : (rest.map fun v => v.category).sum ≤ 8) (hdg : decode cc pc = .ok (.invokevirtual idx, 3)) (kk : W p l e R s m args below meth c H locs cells slots Q (F0 m (pc + 3) ls (.int (f_Mo_home ar sc a0) :: rest))) : W p l e R s m args below meth c H locs cells slots Q (F0 m pc ls (.int a0 :: .ref (L 0) :: rest)) :=
  W.callR (W.runV (As := [.int a0]) (rest := rest) hF (c_Mo_home l dC dI L cA ar sc a0 h) (cwV 1 hF.2.2.2.2 (gV hlk m_249 m_250 m_187 m_251) rfl rfl rfl (by decide +kernel) hR) ⟨xb_M, va_recv hK.1 hP (ci := 7) (q0 := 0) rfl rfl, fun U hU hW => ⟨rfl, by rw [hU]; exact hP, kW_M_warm hW hK⟩⟩ rfl rfl hsz rfl (lv_room hrs) hdg hc) kk
theorem d_Mo_placeOf_0 : decode b_Mo_placeOf 0 = .ok (.lload_n 0, 1) := by decide +kernel
theorem d_Mo_placeOf_1 : decode b_Mo_placeOf 1 = .ok (.iconst 5, 1) := by decide +kernel
theorem d_Mo_placeOf_2 : decode b_Mo_placeOf 2 = .ok (.iload_n 2, 1) := by decide +kernel
theorem d_Mo_placeOf_3 : decode b_Mo_placeOf 3 = .ok (.imul, 1) := by decide +kernel
theorem d_Mo_placeOf_4 : decode b_Mo_placeOf 4 = .ok (.lshr, 1) := by decide +kernel
theorem d_Mo_placeOf_5 : decode b_Mo_placeOf 5 = .ok (.l2i, 1) := by decide +kernel
theorem d_Mo_placeOf_6 : decode b_Mo_placeOf 6 = .ok (.bipush 31, 2) := by decide +kernel
theorem d_Mo_placeOf_8 : decode b_Mo_placeOf 8 = .ok (.iand, 1) := by decide +kernel
theorem d_Mo_placeOf_9 : decode b_Mo_placeOf 9 = .ok (.ireturn, 1) := by decide +kernel
set_option maxHeartbeats 4000000 in
set_option maxRecDepth 100000 in
theorem c_Mo_placeOf (l : Launch) (a0 : Int64) (a1 : Int32) : Met l y_Mo_placeOf z_Mo_placeOf (rmD 0) (fun v _ => v = ([.long a0, .int a1] : List Value).toArray) (QcRead (f_Mo_placeOf a0 a1)) 0 0 (fun _ => False) := by
  refine Met.ofW (cc := b_Mo_placeOf) (maxL := 3) (ret := (some .int)) (by decide) rfl ?_
  intro p e s m args below meth c s₁ B hml hv
  obtain rfl := hv
  have hx := B.exec
  have hb := B.bytes
  have hr := B.returns
  have hts : ∀ w ∈ w_all, w.before _ s = true := fun w hw => atoms_spec (ws := z_Mo_placeOf) B.pre w (List.mem_cons_of_mem _ hw)
  have hown : s.vm.findClass R_Mo = some m.cls := findClass_of_methodNamed B.named
  have hlocks := B.notSynchronized
  have hF : CallFix p m c b_Mo_placeOf 3 s _ w_all R_Mo := ⟨hx, hb, hml, hown, hts⟩
  have hl := lv_entry ([.long a0, .int a1]) (n := 3) (Nat.le_of_ble_eq_true rfl)
  rw [lg_entry_eq]
  generalize (lg_sl ([.long a0, .int a1]) ++ List.replicate (3 - (lg_sl ([.long a0, .int a1])).length) Slot.unset).toArray = ls at hl ⊢
  have hl : lv_has ls 3 [(0, .long a0), (2, .int a1)] := hl
  refine lv_lload_n hx hb d_Mo_placeOf_0 rfl (lv_at hl 0 rfl) ?_
  refine lv_iconst (v := 5) hx hb d_Mo_placeOf_1 (by decide) ?_
  refine lv_iload_n hx hb d_Mo_placeOf_2 rfl (lv_at hl 1 rfl) ?_
  refine lv_imul hx hb d_Mo_placeOf_3 ?_
  refine lv_lshr hx hb d_Mo_placeOf_4 rfl ?_
  refine lv_l2i hx hb d_Mo_placeOf_5 rfl ?_
  refine lv_bipush (v := 31) hx hb d_Mo_placeOf_6 (by decide) ?_
  refine lv_iand hx hb d_Mo_placeOf_8 ?_
  have hv : (((a0 >>> ((5 * a1).toInt64 &&& 63)).toInt32) &&& 31 : Int32) = f_Mo_placeOf a0 a1 := by rw [f_Mo_placeOf]
  exact W.iret (v := ((a0 >>> ((5 * a1).toInt64 &&& 63)).toInt32) &&& 31) hx hb hr (fun t ht hW => ⟨congrArg (fun z => Outcome.returned (some (Value.int z))) hv, ht⟩) (fun _ h9 => nomatch h9) d_Mo_placeOf_9
set_option maxHeartbeats 1000000 in
theorem r_Mo_placeOf {p : Program} {l : Launch} {e : Env} {R : Room} {s : State} {m : MethodId} {args : Array Value} {below : List Frame} {meth : Method} {c : Code} {H : Heap} {locs : List Loc} {cells slots : Nat} {Q : State → Prop} {cc : ByteArray} {nL pc idx : Nat} {ls : Array Slot} {rest : List Value} {a0 : Int64} {a1 : Int32} (hF : CallFix p m c cc nL s args w_all R_Mo) (hlk : Cond.methodLink R_Mo idx y_Mo_placeOf ∈ w_all) (hsz : ls.size = nL) (hR : (rmD 0).frames + 1 ≤ R.frames ∧ 8 + (3 + 11) + (rmD 0).locals ≤ R.locals) (hc : cells ≤ R.cells ∧ slots ≤ R.slots) (hrs : (rest.map fun v => v.category).sum ≤ 8) (hdg : decode cc pc = .ok (.invokestatic idx, 3)) (kk : W p l e R s m args below meth c H locs cells slots Q (F0 m (pc + 3) ls (.int (f_Mo_placeOf a0 a1) :: rest))) : W p l e R s m args below meth c H locs cells slots Q (F0 m pc ls (.int a1 :: .long a0 :: rest)) :=
  W.callR (W.runS (As := [.long a0, .int a1]) (rest := rest) hF (c_Mo_placeOf l a0 a1) (cwS 2 hF.2.2.2.2 (gS hlk m_252 m_187 m_253) rfl rfl rfl (by decide +kernel) hR) preEq rfl rfl hsz rfl (lv_room hrs) hdg hc) kk
theorem d_Mo_reckon_0 : decode b_Mo_reckon 0 = .ok (.iconst 1, 1) := by decide +kernel
theorem d_Mo_reckon_1 : decode b_Mo_reckon 1 = .ok (.iload_n 1, 1) := by decide +kernel
theorem d_Mo_reckon_2 : decode b_Mo_reckon 2 = .ok (.ishl, 1) := by decide +kernel
theorem d_Mo_reckon_3 : decode b_Mo_reckon 3 = .ok (.iconst 1, 1) := by decide +kernel
theorem d_Mo_reckon_4 : decode b_Mo_reckon 4 = .ok (.isub, 1) := by decide +kernel
theorem d_Mo_reckon_5 : decode b_Mo_reckon 5 = .ok (.istore_n 2, 1) := by decide +kernel
theorem d_Mo_reckon_6 : decode b_Mo_reckon 6 = .ok (.iload_n 2, 1) := by decide +kernel
theorem d_Mo_reckon_7 : decode b_Mo_reckon 7 = .ok (.istore_n 3, 1) := by decide +kernel
theorem d_Mo_reckon_8 : decode b_Mo_reckon 8 = .ok (.iload_n 3, 1) := by decide +kernel
theorem d_Mo_reckon_9 : decode b_Mo_reckon 9 = .ok (.ifCond .le 145, 3) := by decide +kernel
theorem d_Mo_reckon_12 : decode b_Mo_reckon 12 = .ok (.iconst 0, 1) := by decide +kernel
theorem d_Mo_reckon_13 : decode b_Mo_reckon 13 = .ok (.istore 4, 2) := by decide +kernel
theorem d_Mo_reckon_15 : decode b_Mo_reckon 15 = .ok (.iload 4, 2) := by decide +kernel
theorem d_Mo_reckon_17 : decode b_Mo_reckon 17 = .ok (.iload_n 1, 1) := by decide +kernel
theorem d_Mo_reckon_18 : decode b_Mo_reckon 18 = .ok (.if_icmp .ge 130, 3) := by decide +kernel
theorem d_Mo_reckon_21 : decode b_Mo_reckon 21 = .ok (.iload_n 3, 1) := by decide +kernel
theorem d_Mo_reckon_22 : decode b_Mo_reckon 22 = .ok (.iload_n 2, 1) := by decide +kernel
theorem d_Mo_reckon_23 : decode b_Mo_reckon 23 = .ok (.if_icmp .ne 17, 3) := by decide +kernel
theorem d_Mo_reckon_26 : decode b_Mo_reckon 26 = .ok (.aload_n 0, 1) := by decide +kernel
theorem d_Mo_reckon_27 : decode b_Mo_reckon 27 = .ok (.aload_n 0, 1) := by decide +kernel
theorem d_Mo_reckon_28 : decode b_Mo_reckon 28 = .ok (.getfield 68, 3) := by decide +kernel
theorem d_Mo_reckon_31 : decode b_Mo_reckon 31 = .ok (.iload 4, 2) := by decide +kernel
theorem d_Mo_reckon_33 : decode b_Mo_reckon 33 = .ok (.iaload, 1) := by decide +kernel
theorem d_Mo_reckon_34 : decode b_Mo_reckon 34 = .ok (.invokevirtual 148, 3) := by decide +kernel
theorem d_Mo_reckon_37 : decode b_Mo_reckon 37 = .ok (.goto 5, 3) := by decide +kernel
theorem d_Mo_reckon_40 : decode b_Mo_reckon 40 = .ok (.ldc 151, 2) := by decide +kernel
theorem d_Mo_reckon_42 : decode b_Mo_reckon 42 = .ok (.istore 5, 2) := by decide +kernel
theorem d_Mo_reckon_44 : decode b_Mo_reckon 44 = .ok (.iconst 0, 1) := by decide +kernel
theorem d_Mo_reckon_45 : decode b_Mo_reckon 45 = .ok (.istore 6, 2) := by decide +kernel
theorem d_Mo_reckon_47 : decode b_Mo_reckon 47 = .ok (.iload 6, 2) := by decide +kernel
theorem d_Mo_reckon_49 : decode b_Mo_reckon 49 = .ok (.iload_n 1, 1) := by decide +kernel
theorem d_Mo_reckon_50 : decode b_Mo_reckon 50 = .ok (.if_icmp .ge 78, 3) := by decide +kernel
theorem d_Mo_reckon_53 : decode b_Mo_reckon 53 = .ok (.iload_n 3, 1) := by decide +kernel
theorem d_Mo_reckon_54 : decode b_Mo_reckon 54 = .ok (.iload 6, 2) := by decide +kernel
theorem d_Mo_reckon_56 : decode b_Mo_reckon 56 = .ok (.ishr, 1) := by decide +kernel
theorem d_Mo_reckon_57 : decode b_Mo_reckon 57 = .ok (.iconst 1, 1) := by decide +kernel
theorem d_Mo_reckon_58 : decode b_Mo_reckon 58 = .ok (.iand, 1) := by decide +kernel
theorem d_Mo_reckon_59 : decode b_Mo_reckon 59 = .ok (.iconst 1, 1) := by decide +kernel
theorem d_Mo_reckon_60 : decode b_Mo_reckon 60 = .ok (.if_icmp .ne 8, 3) := by decide +kernel
theorem d_Mo_reckon_63 : decode b_Mo_reckon 63 = .ok (.ldc 151, 2) := by decide +kernel
theorem d_Mo_reckon_65 : decode b_Mo_reckon 65 = .ok (.goto 39, 3) := by decide +kernel
theorem d_Mo_reckon_68 : decode b_Mo_reckon 68 = .ok (.aload_n 0, 1) := by decide +kernel
theorem d_Mo_reckon_69 : decode b_Mo_reckon 69 = .ok (.aload_n 0, 1) := by decide +kernel
theorem d_Mo_reckon_70 : decode b_Mo_reckon 70 = .ok (.getfield 68, 3) := by decide +kernel
theorem d_Mo_reckon_73 : decode b_Mo_reckon 73 = .ok (.iload 4, 2) := by decide +kernel
theorem d_Mo_reckon_75 : decode b_Mo_reckon 75 = .ok (.iaload, 1) := by decide +kernel
theorem d_Mo_reckon_76 : decode b_Mo_reckon 76 = .ok (.aload_n 0, 1) := by decide +kernel
theorem d_Mo_reckon_77 : decode b_Mo_reckon 77 = .ok (.getfield 68, 3) := by decide +kernel
theorem d_Mo_reckon_80 : decode b_Mo_reckon 80 = .ok (.iload 6, 2) := by decide +kernel
theorem d_Mo_reckon_82 : decode b_Mo_reckon 82 = .ok (.iaload, 1) := by decide +kernel
theorem d_Mo_reckon_83 : decode b_Mo_reckon 83 = .ok (.invokevirtual 152, 3) := by decide +kernel
theorem d_Mo_reckon_86 : decode b_Mo_reckon 86 = .ok (.aload_n 0, 1) := by decide +kernel
theorem d_Mo_reckon_87 : decode b_Mo_reckon 87 = .ok (.getfield 71, 3) := by decide +kernel
theorem d_Mo_reckon_90 : decode b_Mo_reckon 90 = .ok (.bipush 7, 2) := by decide +kernel
theorem d_Mo_reckon_92 : decode b_Mo_reckon 92 = .ok (.iload_n 3, 1) := by decide +kernel
theorem d_Mo_reckon_93 : decode b_Mo_reckon 93 = .ok (.iconst 1, 1) := by decide +kernel
theorem d_Mo_reckon_94 : decode b_Mo_reckon 94 = .ok (.iload 6, 2) := by decide +kernel
theorem d_Mo_reckon_96 : decode b_Mo_reckon 96 = .ok (.ishl, 1) := by decide +kernel
theorem d_Mo_reckon_97 : decode b_Mo_reckon 97 = .ok (.ior, 1) := by decide +kernel
theorem d_Mo_reckon_98 : decode b_Mo_reckon 98 = .ok (.imul, 1) := by decide +kernel
theorem d_Mo_reckon_99 : decode b_Mo_reckon 99 = .ok (.iload 6, 2) := by decide +kernel
theorem d_Mo_reckon_101 : decode b_Mo_reckon 101 = .ok (.iadd, 1) := by decide +kernel
theorem d_Mo_reckon_102 : decode b_Mo_reckon 102 = .ok (.iaload, 1) := by decide +kernel
theorem d_Mo_reckon_103 : decode b_Mo_reckon 103 = .ok (.iadd, 1) := by decide +kernel
theorem d_Mo_reckon_104 : decode b_Mo_reckon 104 = .ok (.istore 7, 2) := by decide +kernel
theorem d_Mo_reckon_106 : decode b_Mo_reckon 106 = .ok (.iload 7, 2) := by decide +kernel
theorem d_Mo_reckon_108 : decode b_Mo_reckon 108 = .ok (.iload 5, 2) := by decide +kernel
theorem d_Mo_reckon_110 : decode b_Mo_reckon 110 = .ok (.if_icmp .ge 8, 3) := by decide +kernel
theorem d_Mo_reckon_113 : decode b_Mo_reckon 113 = .ok (.iload 7, 2) := by decide +kernel
theorem d_Mo_reckon_115 : decode b_Mo_reckon 115 = .ok (.goto 5, 3) := by decide +kernel
theorem d_Mo_reckon_118 : decode b_Mo_reckon 118 = .ok (.iload 5, 2) := by decide +kernel
theorem d_Mo_reckon_120 : decode b_Mo_reckon 120 = .ok (.istore 5, 2) := by decide +kernel
theorem d_Mo_reckon_122 : decode b_Mo_reckon 122 = .ok (.iinc 6 1, 3) := by decide +kernel
theorem d_Mo_reckon_125 : decode b_Mo_reckon 125 = .ok (.goto (-78), 3) := by decide +kernel
theorem d_Mo_reckon_128 : decode b_Mo_reckon 128 = .ok (.aload_n 0, 1) := by decide +kernel
theorem d_Mo_reckon_129 : decode b_Mo_reckon 129 = .ok (.getfield 71, 3) := by decide +kernel
theorem d_Mo_reckon_132 : decode b_Mo_reckon 132 = .ok (.bipush 7, 2) := by decide +kernel
theorem d_Mo_reckon_134 : decode b_Mo_reckon 134 = .ok (.iload_n 3, 1) := by decide +kernel
theorem d_Mo_reckon_135 : decode b_Mo_reckon 135 = .ok (.imul, 1) := by decide +kernel
theorem d_Mo_reckon_136 : decode b_Mo_reckon 136 = .ok (.iload 4, 2) := by decide +kernel
theorem d_Mo_reckon_138 : decode b_Mo_reckon 138 = .ok (.iadd, 1) := by decide +kernel
theorem d_Mo_reckon_139 : decode b_Mo_reckon 139 = .ok (.iload 5, 2) := by decide +kernel
theorem d_Mo_reckon_141 : decode b_Mo_reckon 141 = .ok (.iastore, 1) := by decide +kernel
theorem d_Mo_reckon_142 : decode b_Mo_reckon 142 = .ok (.iinc 4 1, 3) := by decide +kernel
theorem d_Mo_reckon_145 : decode b_Mo_reckon 145 = .ok (.goto (-130), 3) := by decide +kernel
theorem d_Mo_reckon_148 : decode b_Mo_reckon 148 = .ok (.iinc 3 (-1), 3) := by decide +kernel
theorem d_Mo_reckon_151 : decode b_Mo_reckon 151 = .ok (.goto (-143), 3) := by decide +kernel
theorem d_Mo_reckon_154 : decode b_Mo_reckon 154 = .ok (.return_, 1) := by decide +kernel
set_option maxHeartbeats 4000000 in
set_option maxRecDepth 100000 in
theorem l_Mo_reckon_47 {p : Program} {l : Launch} {e : Env} {s : State} {m : MethodId} {args : Array Value} {below : List Frame} {meth : Method} {c : Code} {dC : Nat → ClassId} {dI : Nat → Nat → Nat} {L : Nat → Nat} {cA : Nat → ClassId} {Q : State → Prop} (a0 : Int32) (u2 : Int32) (u3 : Int32) (u4 : Int32) (hF : CallFix p m c b_Mo_reckon 8 s args w_all R_Mo) (hK : kW_M dC dI cA s) (hL : ij 25 L) : ∀ (n : Nat) (v5 : Int32) (v6 : Int32) (ar : Nat → Nat → Int32) (sc : Nat → Int32), q_Mo_reckon_47 a0 u2 u3 u4 n v5 v6 ar sc → ∀ (H : Heap) (locs : List Loc), va_P (dC, dI) classes (wM L cA ar sc) H → va_S (aM L) s.heap H locs → ∀ (ls : Array Slot), lv_has ls 8 [(5, .int v5), (6, .int v6), (0, .ref (L 0)), (1, .int a0), (2, .int u2), (3, .int u3), (4, .int u4)] → (∀ (H : Heap) (locs : List Loc) (ls : Array Slot), va_P (dC, dI) classes (wM L cA ((g_Mo_reckon_47 a0 u2 u3 u4 n v5 v6 ar sc).2.2.1) ((g_Mo_reckon_47 a0 u2 u3 u4 n v5 v6 ar sc).2.2.2)) H → va_S (aM L) s.heap H locs → lv_has ls 8 [(5, .int ((g_Mo_reckon_47 a0 u2 u3 u4 n v5 v6 ar sc).1)), (6, .int ((g_Mo_reckon_47 a0 u2 u3 u4 n v5 v6 ar sc).2.1)), (0, .ref (L 0)), (1, .int a0), (2, .int u2), (3, .int u3), (4, .int u4)] → W p l e (rmD 2) s m args below meth c H locs 0 0 Q (F0 m 128 ls [])) → W p l e (rmD 2) s m args below meth c H locs 0 0 Q (F0 m 47 ls []) := by
  have hx := hF.1
  have hb := hF.2.1
  have hown := hF.2.2.2.1
  have hts := hF.2.2.2.2
  intro n
  induction n with
  | zero => intro v5 v6 ar sc h; exact False.elim h
  | succ n ih =>
    intro v5 v6 ar sc h H locs hP hS ls hl hk
    rw [q_Mo_reckon_47] at h
    refine lv_iload hx hb d_Mo_reckon_47 (lv_at hl 1 rfl) ?_
    refine lv_iload_n hx hb d_Mo_reckon_49 rfl (lv_at hl 3 rfl) ?_
    refine lv_icmp_ge (tgt := 128) hx hb d_Mo_reckon_50 (by decide) (fun c50 => ?_) (fun c50 => ?_)
    · have h := h.1 c50
      have hv : g_Mo_reckon_47 a0 u2 u3 u4 (n + 1) v5 v6 ar sc = ((v5, v6, ar, sc) : Int32 × Int32 × (Nat → Nat → Int32) × (Nat → Int32)) := by rw [g_Mo_reckon_47, if_pos c50]
      rw [hv] at hk
      exact hk _ _ ls hP hS (lv_sub hl [0, 1, 2, 3, 4, 5, 6] rfl)
    · have h := h.2 c50
      refine lv_iload_n hx hb d_Mo_reckon_53 rfl (lv_at hl 5 rfl) ?_
      refine lv_iload hx hb d_Mo_reckon_54 (lv_at hl 1 rfl) ?_
      refine lv_ishr hx hb d_Mo_reckon_56 ?_
      refine lv_iconst (v := 1) hx hb d_Mo_reckon_57 (by decide) ?_
      refine lv_iand hx hb d_Mo_reckon_58 ?_
      refine lv_iconst (v := 1) hx hb d_Mo_reckon_59 (by decide) ?_
      refine lv_icmp_ne (tgt := 68) hx hb d_Mo_reckon_60 (by decide) (fun c60 => ?_) (fun c60 => ?_)
      · have h := h.2 c60
        refine lv_aload_n hx hb d_Mo_reckon_68 rfl (lv_at hl 2 rfl) ?_
        refine lv_aload_n hx hb d_Mo_reckon_69 rfl (lv_at hl 2 rfl) ?_
        refine gf_Mo_list hF hK hP m_254 d_Mo_reckon_70 ?_
        refine lv_iload hx hb d_Mo_reckon_73 (lv_at hl 6 rfl) ?_
        have k75 := h.1
        have h := h.2
        refine alM_20 hF hK hP k75 d_Mo_reckon_75 ?_
        refine lv_aload_n hx hb d_Mo_reckon_76 rfl (lv_at hl 2 rfl) ?_
        refine gf_Mo_list hF hK hP m_254 d_Mo_reckon_77 ?_
        refine lv_iload hx hb d_Mo_reckon_80 (lv_at hl 1 rfl) ?_
        have k82 := h.1
        have h := h.2
        refine alM_20 hF hK hP k82 d_Mo_reckon_82 ?_
        have k83 := h.1
        have h := h.2
        refine r_Mo_between hF hK hP k83 m_255 hl.1 ⟨Nat.le_of_ble_eq_true rfl, Nat.le_of_ble_eq_true rfl⟩ ⟨Nat.zero_le _, Nat.zero_le _⟩ (Nat.le_of_ble_eq_true rfl) d_Mo_reckon_83 ?_
        refine lv_aload_n hx hb d_Mo_reckon_86 rfl (lv_at hl 2 rfl) ?_
        refine gf_Mo_least hF hK hP m_256 d_Mo_reckon_87 ?_
        refine lv_bipush (v := 7) hx hb d_Mo_reckon_90 (by decide) ?_
        refine lv_iload_n hx hb d_Mo_reckon_92 rfl (lv_at hl 5 rfl) ?_
        refine lv_iconst (v := 1) hx hb d_Mo_reckon_93 (by decide) ?_
        refine lv_iload hx hb d_Mo_reckon_94 (lv_at hl 1 rfl) ?_
        refine lv_ishl hx hb d_Mo_reckon_96 ?_
        refine lv_ior hx hb d_Mo_reckon_97 ?_
        refine lv_imul hx hb d_Mo_reckon_98 ?_
        refine lv_iload hx hb d_Mo_reckon_99 (lv_at hl 1 rfl) ?_
        refine lv_iadd hx hb d_Mo_reckon_101 ?_
        have k102 := h.1
        have h := h.2
        refine alM_21 hF hK hP k102 d_Mo_reckon_102 ?_
        refine lv_iadd hx hb d_Mo_reckon_103 ?_
        refine lv_istore (lv' := [(7, .int ((f_Mo_between ar sc (ar 20 u4.toNatClampNeg) (ar 20 v6.toNatClampNeg)) + (ar 21 (((7 * (u3 ||| ((1 : Int32) <<< (v6 &&& 31)))) + v6).toNatClampNeg)))), (5, .int v5), (6, .int v6), (0, .ref (L 0)), (1, .int a0), (2, .int u2), (3, .int u3), (4, .int u4)]) hx hb d_Mo_reckon_104 hl (by decide) rfl (fun ls hl => ?_)
        refine lv_iload hx hb d_Mo_reckon_106 (lv_at hl 0 rfl) ?_
        refine lv_iload hx hb d_Mo_reckon_108 (lv_at hl 1 rfl) ?_
        refine lv_icmp_ge (tgt := 118) hx hb d_Mo_reckon_110 (by decide) (fun c110 => ?_) (fun c110 => ?_)
        · have h := h.1 c110
          refine lv_iload hx hb d_Mo_reckon_118 (lv_at hl 1 rfl) ?_
          refine lv_istore (lv' := [(5, .int v5), (7, .int ((f_Mo_between ar sc (ar 20 u4.toNatClampNeg) (ar 20 v6.toNatClampNeg)) + (ar 21 (((7 * (u3 ||| ((1 : Int32) <<< (v6 &&& 31)))) + v6).toNatClampNeg)))), (6, .int v6), (0, .ref (L 0)), (1, .int a0), (2, .int u2), (3, .int u3), (4, .int u4)]) hx hb d_Mo_reckon_120 hl (by decide) rfl (fun ls hl => ?_)
          refine lv_iinc (v := v6 + 1) (lv' := [(6, .int (v6 + 1)), (5, .int v5), (7, .int ((f_Mo_between ar sc (ar 20 u4.toNatClampNeg) (ar 20 v6.toNatClampNeg)) + (ar 21 (((7 * (u3 ||| ((1 : Int32) <<< (v6 &&& 31)))) + v6).toNatClampNeg)))), (0, .ref (L 0)), (1, .int a0), (2, .int u2), (3, .int u3), (4, .int u4)]) hx hb d_Mo_reckon_122 hl (k := 2) rfl rfl (by decide) rfl (fun ls hl => ?_)
          refine lv_goto (tgt := 47) hx hb d_Mo_reckon_125 (by decide) ?_
          have hv : g_Mo_reckon_47 a0 u2 u3 u4 (n + 1) v5 v6 ar sc = g_Mo_reckon_47 a0 u2 u3 u4 n v5 (v6 + 1) ar sc := by rw [g_Mo_reckon_47, if_neg c50, if_neg c60, if_pos c110]
          rw [hv] at hk
          exact ih v5 (v6 + 1) ar sc h _ _ hP hS ls (lv_sub hl [1, 0, 3, 4, 5, 6, 7] rfl) hk
        · have h := h.2 c110
          refine lv_iload hx hb d_Mo_reckon_113 (lv_at hl 0 rfl) ?_
          refine lv_goto (tgt := 120) hx hb d_Mo_reckon_115 (by decide) ?_
          refine lv_istore (lv' := [(5, .int ((f_Mo_between ar sc (ar 20 u4.toNatClampNeg) (ar 20 v6.toNatClampNeg)) + (ar 21 (((7 * (u3 ||| ((1 : Int32) <<< (v6 &&& 31)))) + v6).toNatClampNeg)))), (7, .int ((f_Mo_between ar sc (ar 20 u4.toNatClampNeg) (ar 20 v6.toNatClampNeg)) + (ar 21 (((7 * (u3 ||| ((1 : Int32) <<< (v6 &&& 31)))) + v6).toNatClampNeg)))), (6, .int v6), (0, .ref (L 0)), (1, .int a0), (2, .int u2), (3, .int u3), (4, .int u4)]) hx hb d_Mo_reckon_120 hl (by decide) rfl (fun ls hl => ?_)
          refine lv_iinc (v := v6 + 1) (lv' := [(6, .int (v6 + 1)), (5, .int ((f_Mo_between ar sc (ar 20 u4.toNatClampNeg) (ar 20 v6.toNatClampNeg)) + (ar 21 (((7 * (u3 ||| ((1 : Int32) <<< (v6 &&& 31)))) + v6).toNatClampNeg)))), (7, .int ((f_Mo_between ar sc (ar 20 u4.toNatClampNeg) (ar 20 v6.toNatClampNeg)) + (ar 21 (((7 * (u3 ||| ((1 : Int32) <<< (v6 &&& 31)))) + v6).toNatClampNeg)))), (0, .ref (L 0)), (1, .int a0), (2, .int u2), (3, .int u3), (4, .int u4)]) hx hb d_Mo_reckon_122 hl (k := 2) rfl rfl (by decide) rfl (fun ls hl => ?_)
          refine lv_goto (tgt := 47) hx hb d_Mo_reckon_125 (by decide) ?_
          have hv : g_Mo_reckon_47 a0 u2 u3 u4 (n + 1) v5 v6 ar sc = g_Mo_reckon_47 a0 u2 u3 u4 n ((f_Mo_between ar sc (ar 20 u4.toNatClampNeg) (ar 20 v6.toNatClampNeg)) + (ar 21 (((7 * (u3 ||| ((1 : Int32) <<< (v6 &&& 31)))) + v6).toNatClampNeg))) (v6 + 1) ar sc := by rw [g_Mo_reckon_47, if_neg c50, if_neg c60, if_neg c110]
          rw [hv] at hk
          exact ih ((f_Mo_between ar sc (ar 20 u4.toNatClampNeg) (ar 20 v6.toNatClampNeg)) + (ar 21 (((7 * (u3 ||| ((1 : Int32) <<< (v6 &&& 31)))) + v6).toNatClampNeg))) (v6 + 1) ar sc h _ _ hP hS ls (lv_sub hl [1, 0, 3, 4, 5, 6, 7] rfl) hk
      · have h := h.1 c60
        refine lv_ldc (v := 1000000000) hx hb hown (hts _ m_257) d_Mo_reckon_63 ?_
        refine lv_goto (tgt := 104) hx hb d_Mo_reckon_65 (by decide) ?_
        refine lv_istore (lv' := [(7, .int 1000000000), (5, .int v5), (6, .int v6), (0, .ref (L 0)), (1, .int a0), (2, .int u2), (3, .int u3), (4, .int u4)]) hx hb d_Mo_reckon_104 hl (by decide) rfl (fun ls hl => ?_)
        refine lv_iload hx hb d_Mo_reckon_106 (lv_at hl 0 rfl) ?_
        refine lv_iload hx hb d_Mo_reckon_108 (lv_at hl 1 rfl) ?_
        refine lv_icmp_ge (tgt := 118) hx hb d_Mo_reckon_110 (by decide) (fun c110 => ?_) (fun c110 => ?_)
        · have h := h.1 c110
          refine lv_iload hx hb d_Mo_reckon_118 (lv_at hl 1 rfl) ?_
          refine lv_istore (lv' := [(5, .int v5), (7, .int 1000000000), (6, .int v6), (0, .ref (L 0)), (1, .int a0), (2, .int u2), (3, .int u3), (4, .int u4)]) hx hb d_Mo_reckon_120 hl (by decide) rfl (fun ls hl => ?_)
          refine lv_iinc (v := v6 + 1) (lv' := [(6, .int (v6 + 1)), (5, .int v5), (7, .int 1000000000), (0, .ref (L 0)), (1, .int a0), (2, .int u2), (3, .int u3), (4, .int u4)]) hx hb d_Mo_reckon_122 hl (k := 2) rfl rfl (by decide) rfl (fun ls hl => ?_)
          refine lv_goto (tgt := 47) hx hb d_Mo_reckon_125 (by decide) ?_
          have hv : g_Mo_reckon_47 a0 u2 u3 u4 (n + 1) v5 v6 ar sc = g_Mo_reckon_47 a0 u2 u3 u4 n v5 (v6 + 1) ar sc := by rw [g_Mo_reckon_47, if_neg c50, if_pos c60, if_pos c110]
          rw [hv] at hk
          exact ih v5 (v6 + 1) ar sc h _ _ hP hS ls (lv_sub hl [1, 0, 3, 4, 5, 6, 7] rfl) hk
        · have h := h.2 c110
          refine lv_iload hx hb d_Mo_reckon_113 (lv_at hl 0 rfl) ?_
          refine lv_goto (tgt := 120) hx hb d_Mo_reckon_115 (by decide) ?_
          refine lv_istore (lv' := [(5, .int 1000000000), (7, .int 1000000000), (6, .int v6), (0, .ref (L 0)), (1, .int a0), (2, .int u2), (3, .int u3), (4, .int u4)]) hx hb d_Mo_reckon_120 hl (by decide) rfl (fun ls hl => ?_)
          refine lv_iinc (v := v6 + 1) (lv' := [(6, .int (v6 + 1)), (5, .int 1000000000), (7, .int 1000000000), (0, .ref (L 0)), (1, .int a0), (2, .int u2), (3, .int u3), (4, .int u4)]) hx hb d_Mo_reckon_122 hl (k := 2) rfl rfl (by decide) rfl (fun ls hl => ?_)
          refine lv_goto (tgt := 47) hx hb d_Mo_reckon_125 (by decide) ?_
          have hv : g_Mo_reckon_47 a0 u2 u3 u4 (n + 1) v5 v6 ar sc = g_Mo_reckon_47 a0 u2 u3 u4 n 1000000000 (v6 + 1) ar sc := by rw [g_Mo_reckon_47, if_neg c50, if_pos c60, if_neg c110]
          rw [hv] at hk
          exact ih 1000000000 (v6 + 1) ar sc h _ _ hP hS ls (lv_sub hl [1, 0, 3, 4, 5, 6, 7] rfl) hk
set_option maxHeartbeats 4000000 in
set_option maxRecDepth 100000 in
theorem l_Mo_reckon_15 {p : Program} {l : Launch} {e : Env} {s : State} {m : MethodId} {args : Array Value} {below : List Frame} {meth : Method} {c : Code} {dC : Nat → ClassId} {dI : Nat → Nat → Nat} {L : Nat → Nat} {cA : Nat → ClassId} {Q : State → Prop} (a0 : Int32) (u2 : Int32) (u3 : Int32) (hF : CallFix p m c b_Mo_reckon 8 s args w_all R_Mo) (hK : kW_M dC dI cA s) (hL : ij 25 L) : ∀ (n : Nat) (v4 : Int32) (ar : Nat → Nat → Int32) (sc : Nat → Int32), q_Mo_reckon_15 a0 u2 u3 n v4 ar sc → ∀ (H : Heap) (locs : List Loc), va_P (dC, dI) classes (wM L cA ar sc) H → va_S (aM L) s.heap H locs → ∀ (ls : Array Slot), lv_has ls 8 [(4, .int v4), (0, .ref (L 0)), (1, .int a0), (2, .int u2), (3, .int u3)] → (∀ (H : Heap) (locs : List Loc) (ls : Array Slot), va_P (dC, dI) classes (wM L cA ((g_Mo_reckon_15 a0 u2 u3 n v4 ar sc).2.1) ((g_Mo_reckon_15 a0 u2 u3 n v4 ar sc).2.2)) H → va_S (aM L) s.heap H locs → lv_has ls 8 [(4, .int ((g_Mo_reckon_15 a0 u2 u3 n v4 ar sc).1)), (0, .ref (L 0)), (1, .int a0), (2, .int u2), (3, .int u3)] → W p l e (rmD 2) s m args below meth c H locs 0 0 Q (F0 m 148 ls [])) → W p l e (rmD 2) s m args below meth c H locs 0 0 Q (F0 m 15 ls []) := by
  have hx := hF.1
  have hb := hF.2.1
  have hown := hF.2.2.2.1
  have hts := hF.2.2.2.2
  intro n
  induction n with
  | zero => intro v4 ar sc h; exact False.elim h
  | succ n ih =>
    intro v4 ar sc h H locs hP hS ls hl hk
    rw [q_Mo_reckon_15] at h
    refine lv_iload hx hb d_Mo_reckon_15 (lv_at hl 0 rfl) ?_
    refine lv_iload_n hx hb d_Mo_reckon_17 rfl (lv_at hl 2 rfl) ?_
    refine lv_icmp_ge (tgt := 148) hx hb d_Mo_reckon_18 (by decide) (fun c18 => ?_) (fun c18 => ?_)
    · have h := h.1 c18
      have hv : g_Mo_reckon_15 a0 u2 u3 (n + 1) v4 ar sc = ((v4, ar, sc) : Int32 × (Nat → Nat → Int32) × (Nat → Int32)) := by rw [g_Mo_reckon_15, if_pos c18]
      rw [hv] at hk
      exact hk _ _ ls hP hS (lv_sub hl [0, 1, 2, 3, 4] rfl)
    · have h := h.2 c18
      refine lv_iload_n hx hb d_Mo_reckon_21 rfl (lv_at hl 4 rfl) ?_
      refine lv_iload_n hx hb d_Mo_reckon_22 rfl (lv_at hl 3 rfl) ?_
      refine lv_icmp_ne (tgt := 40) hx hb d_Mo_reckon_23 (by decide) (fun c23 => ?_) (fun c23 => ?_)
      · have h := h.2 c23
        refine lv_ldc (v := 1000000000) hx hb hown (hts _ m_257) d_Mo_reckon_40 ?_
        refine lv_istore (lv' := [(5, .int 1000000000), (4, .int v4), (0, .ref (L 0)), (1, .int a0), (2, .int u2), (3, .int u3)]) hx hb d_Mo_reckon_42 hl (by decide) rfl (fun ls hl => ?_)
        refine lv_iconst (v := 0) hx hb d_Mo_reckon_44 (by decide) ?_
        refine lv_istore (lv' := [(6, .int 0), (5, .int 1000000000), (4, .int v4), (0, .ref (L 0)), (1, .int a0), (2, .int u2), (3, .int u3)]) hx hb d_Mo_reckon_45 hl (by decide) rfl (fun ls hl => ?_)
        have kL47 := h.1
        have h := h.2
        refine l_Mo_reckon_47 a0 u2 u3 v4 hF hK hL 200 1000000000 0 ar sc kL47 _ _ hP hS ls (lv_sub hl [1, 0, 3, 4, 5, 6, 2] rfl) (fun H locs ls hP hS hl => ?_)
        refine lv_aload_n hx hb d_Mo_reckon_128 rfl (lv_at hl 2 rfl) ?_
        refine gf_Mo_least hF hK hP m_256 d_Mo_reckon_129 ?_
        refine lv_bipush (v := 7) hx hb d_Mo_reckon_132 (by decide) ?_
        refine lv_iload_n hx hb d_Mo_reckon_134 rfl (lv_at hl 5 rfl) ?_
        refine lv_imul hx hb d_Mo_reckon_135 ?_
        refine lv_iload hx hb d_Mo_reckon_136 (lv_at hl 6 rfl) ?_
        refine lv_iadd hx hb d_Mo_reckon_138 ?_
        refine lv_iload hx hb d_Mo_reckon_139 (lv_at hl 0 rfl) ?_
        have k141 := h.1
        have h := h.2
        refine asM_21 hF hK hP hL hS k141 d_Mo_reckon_141 (fun H locs hP hS => ?_)
        refine lv_iinc (v := v4 + 1) (lv' := [(4, .int (v4 + 1)), (5, .int ((g_Mo_reckon_47 a0 u2 u3 v4 200 1000000000 0 ar sc).1)), (6, .int ((g_Mo_reckon_47 a0 u2 u3 v4 200 1000000000 0 ar sc).2.1)), (0, .ref (L 0)), (1, .int a0), (2, .int u2), (3, .int u3)]) hx hb d_Mo_reckon_142 hl (k := 6) rfl rfl (by decide) rfl (fun ls hl => ?_)
        refine lv_goto (tgt := 15) hx hb d_Mo_reckon_145 (by decide) ?_
        have hv : g_Mo_reckon_15 a0 u2 u3 (n + 1) v4 ar sc = g_Mo_reckon_15 a0 u2 u3 n (v4 + 1) (s2 ((g_Mo_reckon_47 a0 u2 u3 v4 200 1000000000 0 ar sc).2.2.1) 21 (((7 * u3) + v4).toNatClampNeg) ((g_Mo_reckon_47 a0 u2 u3 v4 200 1000000000 0 ar sc).1)) ((g_Mo_reckon_47 a0 u2 u3 v4 200 1000000000 0 ar sc).2.2.2) := by rw [g_Mo_reckon_15, if_neg c18, if_neg c23]
        rw [hv] at hk
        exact ih (v4 + 1) (s2 ((g_Mo_reckon_47 a0 u2 u3 v4 200 1000000000 0 ar sc).2.2.1) 21 (((7 * u3) + v4).toNatClampNeg) ((g_Mo_reckon_47 a0 u2 u3 v4 200 1000000000 0 ar sc).1)) ((g_Mo_reckon_47 a0 u2 u3 v4 200 1000000000 0 ar sc).2.2.2) h _ _ hP hS ls (lv_sub hl [0, 3, 4, 5, 6] rfl) hk
      · have h := h.1 c23
        refine lv_aload_n hx hb d_Mo_reckon_26 rfl (lv_at hl 1 rfl) ?_
        refine lv_aload_n hx hb d_Mo_reckon_27 rfl (lv_at hl 1 rfl) ?_
        refine gf_Mo_list hF hK hP m_254 d_Mo_reckon_28 ?_
        refine lv_iload hx hb d_Mo_reckon_31 (lv_at hl 0 rfl) ?_
        have k33 := h.1
        have h := h.2
        refine alM_20 hF hK hP k33 d_Mo_reckon_33 ?_
        have k34 := h.1
        have h := h.2
        refine r_Mo_home hF hK hP k34 m_258 hl.1 ⟨Nat.le_of_ble_eq_true rfl, Nat.le_of_ble_eq_true rfl⟩ ⟨Nat.zero_le _, Nat.zero_le _⟩ (Nat.le_of_ble_eq_true rfl) d_Mo_reckon_34 ?_
        refine lv_goto (tgt := 42) hx hb d_Mo_reckon_37 (by decide) ?_
        refine lv_istore (lv' := [(5, .int (f_Mo_home ar sc (ar 20 v4.toNatClampNeg))), (4, .int v4), (0, .ref (L 0)), (1, .int a0), (2, .int u2), (3, .int u3)]) hx hb d_Mo_reckon_42 hl (by decide) rfl (fun ls hl => ?_)
        refine lv_iconst (v := 0) hx hb d_Mo_reckon_44 (by decide) ?_
        refine lv_istore (lv' := [(6, .int 0), (5, .int (f_Mo_home ar sc (ar 20 v4.toNatClampNeg))), (4, .int v4), (0, .ref (L 0)), (1, .int a0), (2, .int u2), (3, .int u3)]) hx hb d_Mo_reckon_45 hl (by decide) rfl (fun ls hl => ?_)
        have kL47 := h.1
        have h := h.2
        refine l_Mo_reckon_47 a0 u2 u3 v4 hF hK hL 200 (f_Mo_home ar sc (ar 20 v4.toNatClampNeg)) 0 ar sc kL47 _ _ hP hS ls (lv_sub hl [1, 0, 3, 4, 5, 6, 2] rfl) (fun H locs ls hP hS hl => ?_)
        refine lv_aload_n hx hb d_Mo_reckon_128 rfl (lv_at hl 2 rfl) ?_
        refine gf_Mo_least hF hK hP m_256 d_Mo_reckon_129 ?_
        refine lv_bipush (v := 7) hx hb d_Mo_reckon_132 (by decide) ?_
        refine lv_iload_n hx hb d_Mo_reckon_134 rfl (lv_at hl 5 rfl) ?_
        refine lv_imul hx hb d_Mo_reckon_135 ?_
        refine lv_iload hx hb d_Mo_reckon_136 (lv_at hl 6 rfl) ?_
        refine lv_iadd hx hb d_Mo_reckon_138 ?_
        refine lv_iload hx hb d_Mo_reckon_139 (lv_at hl 0 rfl) ?_
        have k141 := h.1
        have h := h.2
        refine asM_21 hF hK hP hL hS k141 d_Mo_reckon_141 (fun H locs hP hS => ?_)
        refine lv_iinc (v := v4 + 1) (lv' := [(4, .int (v4 + 1)), (5, .int ((g_Mo_reckon_47 a0 u2 u3 v4 200 (f_Mo_home ar sc (ar 20 v4.toNatClampNeg)) 0 ar sc).1)), (6, .int ((g_Mo_reckon_47 a0 u2 u3 v4 200 (f_Mo_home ar sc (ar 20 v4.toNatClampNeg)) 0 ar sc).2.1)), (0, .ref (L 0)), (1, .int a0), (2, .int u2), (3, .int u3)]) hx hb d_Mo_reckon_142 hl (k := 6) rfl rfl (by decide) rfl (fun ls hl => ?_)
        refine lv_goto (tgt := 15) hx hb d_Mo_reckon_145 (by decide) ?_
        have hv : g_Mo_reckon_15 a0 u2 u3 (n + 1) v4 ar sc = g_Mo_reckon_15 a0 u2 u3 n (v4 + 1) (s2 ((g_Mo_reckon_47 a0 u2 u3 v4 200 (f_Mo_home ar sc (ar 20 v4.toNatClampNeg)) 0 ar sc).2.2.1) 21 (((7 * u3) + v4).toNatClampNeg) ((g_Mo_reckon_47 a0 u2 u3 v4 200 (f_Mo_home ar sc (ar 20 v4.toNatClampNeg)) 0 ar sc).1)) ((g_Mo_reckon_47 a0 u2 u3 v4 200 (f_Mo_home ar sc (ar 20 v4.toNatClampNeg)) 0 ar sc).2.2.2) := by rw [g_Mo_reckon_15, if_neg c18, if_pos c23]
        rw [hv] at hk
        exact ih (v4 + 1) (s2 ((g_Mo_reckon_47 a0 u2 u3 v4 200 (f_Mo_home ar sc (ar 20 v4.toNatClampNeg)) 0 ar sc).2.2.1) 21 (((7 * u3) + v4).toNatClampNeg) ((g_Mo_reckon_47 a0 u2 u3 v4 200 (f_Mo_home ar sc (ar 20 v4.toNatClampNeg)) 0 ar sc).1)) ((g_Mo_reckon_47 a0 u2 u3 v4 200 (f_Mo_home ar sc (ar 20 v4.toNatClampNeg)) 0 ar sc).2.2.2) h _ _ hP hS ls (lv_sub hl [0, 3, 4, 5, 6] rfl) hk
set_option maxHeartbeats 4000000 in
set_option maxRecDepth 100000 in
theorem l_Mo_reckon_8 {p : Program} {l : Launch} {e : Env} {s : State} {m : MethodId} {args : Array Value} {below : List Frame} {meth : Method} {c : Code} {dC : Nat → ClassId} {dI : Nat → Nat → Nat} {L : Nat → Nat} {cA : Nat → ClassId} {Q : State → Prop} (a0 : Int32) (u2 : Int32) (hF : CallFix p m c b_Mo_reckon 8 s args w_all R_Mo) (hK : kW_M dC dI cA s) (hL : ij 25 L) : ∀ (n : Nat) (v3 : Int32) (ar : Nat → Nat → Int32) (sc : Nat → Int32), q_Mo_reckon_8 a0 u2 n v3 ar sc → ∀ (H : Heap) (locs : List Loc), va_P (dC, dI) classes (wM L cA ar sc) H → va_S (aM L) s.heap H locs → ∀ (ls : Array Slot), lv_has ls 8 [(3, .int v3), (0, .ref (L 0)), (1, .int a0), (2, .int u2)] → (∀ (H : Heap) (locs : List Loc) (ls : Array Slot), va_P (dC, dI) classes (wM L cA ((g_Mo_reckon_8 a0 u2 n v3 ar sc).2.1) ((g_Mo_reckon_8 a0 u2 n v3 ar sc).2.2)) H → va_S (aM L) s.heap H locs → lv_has ls 8 [(3, .int ((g_Mo_reckon_8 a0 u2 n v3 ar sc).1)), (0, .ref (L 0)), (1, .int a0), (2, .int u2)] → W p l e (rmD 2) s m args below meth c H locs 0 0 Q (F0 m 154 ls [])) → W p l e (rmD 2) s m args below meth c H locs 0 0 Q (F0 m 8 ls []) := by
  have hx := hF.1
  have hb := hF.2.1
  have hown := hF.2.2.2.1
  have hts := hF.2.2.2.2
  intro n
  induction n with
  | zero => intro v3 ar sc h; exact False.elim h
  | succ n ih =>
    intro v3 ar sc h H locs hP hS ls hl hk
    rw [q_Mo_reckon_8] at h
    refine lv_iload_n hx hb d_Mo_reckon_8 rfl (lv_at hl 0 rfl) ?_
    refine lv_if_le (tgt := 154) hx hb d_Mo_reckon_9 (by decide) (fun c9 => ?_) (fun c9 => ?_)
    · have h := h.1 c9
      have hv : g_Mo_reckon_8 a0 u2 (n + 1) v3 ar sc = ((v3, ar, sc) : Int32 × (Nat → Nat → Int32) × (Nat → Int32)) := by rw [g_Mo_reckon_8, if_pos c9]
      rw [hv] at hk
      exact hk _ _ ls hP hS (lv_sub hl [0, 1, 2, 3] rfl)
    · have h := h.2 c9
      refine lv_iconst (v := 0) hx hb d_Mo_reckon_12 (by decide) ?_
      refine lv_istore (lv' := [(4, .int 0), (3, .int v3), (0, .ref (L 0)), (1, .int a0), (2, .int u2)]) hx hb d_Mo_reckon_13 hl (by decide) rfl (fun ls hl => ?_)
      have kL15 := h.1
      have h := h.2
      refine l_Mo_reckon_15 a0 u2 v3 hF hK hL 200 0 ar sc kL15 _ _ hP hS ls (lv_sub hl [0, 2, 3, 4, 1] rfl) (fun H locs ls hP hS hl => ?_)
      refine lv_iinc (v := v3 + (-1)) (lv' := [(3, .int (v3 + (-1))), (4, .int ((g_Mo_reckon_15 a0 u2 v3 200 0 ar sc).1)), (0, .ref (L 0)), (1, .int a0), (2, .int u2)]) hx hb d_Mo_reckon_148 hl (k := 4) rfl (congrArg (fun z => v3 + z) (by decide)) (by decide) rfl (fun ls hl => ?_)
      refine lv_goto (tgt := 8) hx hb d_Mo_reckon_151 (by decide) ?_
      have hv : g_Mo_reckon_8 a0 u2 (n + 1) v3 ar sc = g_Mo_reckon_8 a0 u2 n (v3 + (-1)) ((g_Mo_reckon_15 a0 u2 v3 200 0 ar sc).2.1) ((g_Mo_reckon_15 a0 u2 v3 200 0 ar sc).2.2) := by rw [g_Mo_reckon_8, if_neg c9]
      rw [hv] at hk
      exact ih (v3 + (-1)) ((g_Mo_reckon_15 a0 u2 v3 200 0 ar sc).2.1) ((g_Mo_reckon_15 a0 u2 v3 200 0 ar sc).2.2) h _ _ hP hS ls (lv_sub hl [0, 2, 3, 4] rfl) hk
set_option maxHeartbeats 4000000 in
set_option maxRecDepth 100000 in
theorem c_Mo_reckon (l : Launch) (dC : Nat → ClassId) (dI : Nat → Nat → Nat) (L : Nat → Nat) (cA : Nat → ClassId) (ar : Nat → Nat → Int32) (sc : Nat → Int32) (a0 : Int32) (hL : ij 25 L) (h : p_Mo_reckon ar sc a0) : Met l y_Mo_reckon z_Mo_reckon (rmD 2) (va_Pc [.ref (L 0), .int a0] (fun U => xw_M dC dI L cA ar sc U)) (va_Qv (fun u : oS => (u.1, u.2) = f_Mo_reckon ar sc a0) (fun u t => va_P (dC, dI) classes (wM L cA u.1 u.2) t.heap) (aM L)) 0 0 (aM L) := by
  refine Met.ofW (cc := b_Mo_reckon) (maxL := 8) (ret := none) (by decide) rfl ?_
  intro p e s m args below meth c s₁ B hml hv
  obtain ⟨rfl, ⟨hP, hK⟩⟩ := hv
  have hx := B.exec
  have hb := B.bytes
  have hr := B.returns
  have hts : ∀ w ∈ w_all, w.before _ s = true := fun w hw => atoms_spec (ws := z_Mo_reckon) B.pre w (List.mem_cons_of_mem _ hw)
  have hown : s.vm.findClass R_Mo = some m.cls := findClass_of_methodNamed B.named
  have hlocks := B.notSynchronized
  have hF : CallFix p m c b_Mo_reckon 8 s _ w_all R_Mo := ⟨hx, hb, hml, hown, hts⟩
  have hS : va_S (aM L) s.heap s.heap [] := va_S.rf
  have hl := lv_entry ([.ref (L 0), .int a0]) (n := 8) (Nat.le_of_ble_eq_true rfl)
  rw [lg_entry_eq]
  generalize (lg_sl ([.ref (L 0), .int a0]) ++ List.replicate (8 - (lg_sl ([.ref (L 0), .int a0])).length) Slot.unset).toArray = ls at hl ⊢
  have hl : lv_has ls 8 [(0, .ref (L 0)), (1, .int a0)] := hl
  unfold p_Mo_reckon at h
  refine lv_iconst (v := 1) hx hb d_Mo_reckon_0 (by decide) ?_
  refine lv_iload_n hx hb d_Mo_reckon_1 rfl (lv_at hl 1 rfl) ?_
  refine lv_ishl hx hb d_Mo_reckon_2 ?_
  refine lv_iconst (v := 1) hx hb d_Mo_reckon_3 (by decide) ?_
  refine lv_isub hx hb d_Mo_reckon_4 ?_
  refine lv_istore_n (lv' := [(2, .int (((1 : Int32) <<< (a0 &&& 31)) - 1)), (0, .ref (L 0)), (1, .int a0)]) hx hb d_Mo_reckon_5 rfl hl (by decide) rfl (fun ls hl => ?_)
  refine lv_iload_n hx hb d_Mo_reckon_6 rfl (lv_at hl 0 rfl) ?_
  refine lv_istore_n (lv' := [(3, .int (((1 : Int32) <<< (a0 &&& 31)) - 1)), (2, .int (((1 : Int32) <<< (a0 &&& 31)) - 1)), (0, .ref (L 0)), (1, .int a0)]) hx hb d_Mo_reckon_7 rfl hl (by decide) rfl (fun ls hl => ?_)
  have kL8 := h
  refine l_Mo_reckon_8 a0 (((1 : Int32) <<< (a0 &&& 31)) - 1) hF hK hL 200 (((1 : Int32) <<< (a0 &&& 31)) - 1) ar sc kL8 _ _ hP hS ls (lv_sub hl [0, 2, 3, 1] rfl) (fun H locs ls hP hS hl => ?_)
  have hv : (((g_Mo_reckon_8 a0 (((1 : Int32) <<< (a0 &&& 31)) - 1) 200 (((1 : Int32) <<< (a0 &&& 31)) - 1) ar sc).2.1, (g_Mo_reckon_8 a0 (((1 : Int32) <<< (a0 &&& 31)) - 1) 200 (((1 : Int32) <<< (a0 &&& 31)) - 1) ar sc).2.2) : (Nat → Nat → Int32) × (Nat → Int32)) = f_Mo_reckon ar sc a0 := by rw [f_Mo_reckon]
  exact W.vret hx hb hr (fun t ht hW => ⟨⟨((g_Mo_reckon_8 a0 (((1 : Int32) <<< (a0 &&& 31)) - 1) 200 (((1 : Int32) <<< (a0 &&& 31)) - 1) ar sc).2.1, (g_Mo_reckon_8 a0 (((1 : Int32) <<< (a0 &&& 31)) - 1) 200 (((1 : Int32) <<< (a0 &&& 31)) - 1) ar sc).2.2), rfl, hv, by dsimp only; rw [ht]; exact hP⟩, hS.F ht⟩) hS.2.2 d_Mo_reckon_154
set_option maxHeartbeats 1000000 in
theorem r_Mo_reckon {p : Program} {l : Launch} {e : Env} {R : Room} {s : State} {m : MethodId} {args : Array Value} {below : List Frame} {meth : Method} {c : Code} {H : Heap} {locs : List Loc} {cells slots : Nat} {Q : State → Prop} {cc : ByteArray} {nL pc idx : Nat} {ls : Array Slot} {rest : List Value} {own : String} {dC : Nat → ClassId} {dI : Nat → Nat → Nat} {L : Nat → Nat} {cA : Nat → ClassId} {ar : Nat → Nat → Int32} {sc : Nat → Int32} {H0 : Heap} {a0 : Int32} (hF : CallFix p m c cc nL s args w_all own) (hK : kW_M dC dI cA s) (hP : va_P (dC, dI) classes (wM L cA ar sc) H) (hL : ij 25 L) (hS : va_S (aM L) H0 H locs) (h : p_Mo_reckon ar sc a0) (hlk : Cond.methodLink own idx y_Mo_reckon ∈ w_all) (hsz : ls.size = nL) (hR : (rmD 2).frames + 1 ≤ R.frames ∧ 8 + (8 + 11) + (rmD 2).locals ≤ R.locals) (hc : cells ≤ R.cells ∧ slots ≤ R.slots) (hrs : (rest.map fun v => v.category).sum ≤ 8) (hdg : decode cc pc = .ok (.invokevirtual idx, 3)) (kk : ∀ (H1 : Heap) (locs1 : List Loc), va_P (dC, dI) classes (wM L cA ((f_Mo_reckon ar sc a0).1) ((f_Mo_reckon ar sc a0).2)) H1 → va_S (aM L) H0 H1 locs1 → W p l e R s m args below meth c H1 locs1 cells slots Q (F0 m (pc + 3) ls (rest))) : W p l e R s m args below meth c H locs cells slots Q (F0 m pc ls (.int a0 :: .ref (L 0) :: rest)) :=
  va_callv (va_runV (As := [.int a0]) (rest := rest) hF (c_Mo_reckon l dC dI L cA ar sc a0 hL h) (cwV 1 hF.2.2.2.2 (gV hlk m_259 m_260 m_187 m_261) rfl rfl rfl (by decide +kernel) hR) ⟨xb_M, va_recv hK.1 hP (ci := 7) (q0 := 0) rfl rfl, fun U hU hW => ⟨rfl, by rw [hU]; exact hP, kW_M_warm hW hK⟩⟩ rfl rfl hsz rfl (lv_room hrs) hdg hc) hS (fun q _ h9 => h9) (fun q h9 => h9) (fun u t H1 locs1 ht hvm hw hB hz1 hk1 hS1 => by
    have hk9 := kk H1 locs1 (by rw [← hw, ← ht]; exact hB) hS1
    exact hk9)
theorem d_Mo_isPlace_0 : decode b_Mo_isPlace 0 = .ok (.iload_n 0, 1) := by decide +kernel
theorem d_Mo_isPlace_1 : decode b_Mo_isPlace 1 = .ok (.ldc 169, 2) := by decide +kernel
theorem d_Mo_isPlace_3 : decode b_Mo_isPlace 3 = .ok (.ldc 167, 2) := by decide +kernel
theorem d_Mo_isPlace_5 : decode b_Mo_isPlace 5 = .ok (.invokestatic 100, 3) := by decide +kernel
theorem d_Mo_isPlace_8 : decode b_Mo_isPlace 8 = .ok (.ireturn, 1) := by decide +kernel
set_option maxHeartbeats 4000000 in
set_option maxRecDepth 100000 in
theorem c_Mo_isPlace (l : Launch) (a0 : Int32) : Met l y_Mo_isPlace z_Mo_isPlace (rmD 1) (fun v _ => v = ([.int a0] : List Value).toArray) (QcRead (f_Mo_isPlace a0)) 0 0 (fun _ => False) := by
  refine Met.ofW (cc := b_Mo_isPlace) (maxL := 1) (ret := (some .boolean)) (by decide) rfl ?_
  intro p e s m args below meth c s₁ B hml hv
  obtain rfl := hv
  have hx := B.exec
  have hb := B.bytes
  have hr := B.returns
  have hts : ∀ w ∈ w_all, w.before _ s = true := fun w hw => atoms_spec (ws := z_Mo_isPlace) B.pre w (List.mem_cons_of_mem _ hw)
  have hown : s.vm.findClass R_Mo = some m.cls := findClass_of_methodNamed B.named
  have hlocks := B.notSynchronized
  have hF : CallFix p m c b_Mo_isPlace 1 s _ w_all R_Mo := ⟨hx, hb, hml, hown, hts⟩
  have hl := lv_entry ([.int a0]) (n := 1) (Nat.le_of_ble_eq_true rfl)
  rw [lg_entry_eq]
  generalize (lg_sl ([.int a0]) ++ List.replicate (1 - (lg_sl ([.int a0])).length) Slot.unset).toArray = ls at hl ⊢
  have hl : lv_has ls 1 [(0, .int a0)] := hl
  refine lv_iload_n hx hb d_Mo_isPlace_0 rfl (lv_at hl 0 rfl) ?_
  refine lv_ldc (v := (-10000000)) hx hb hown (hts _ m_262) d_Mo_isPlace_1 ?_
  refine lv_ldc (v := 10000000) hx hb hown (hts _ m_263) d_Mo_isPlace_3 ?_
  refine r_Mo_in hF m_195 hl.1 ⟨Nat.le_of_ble_eq_true rfl, Nat.le_of_ble_eq_true rfl⟩ ⟨Nat.zero_le _, Nat.zero_le _⟩ (Nat.le_of_ble_eq_true rfl) d_Mo_isPlace_5 ?_
  have hv : (f_Mo_in a0 (-10000000) 10000000 : Int32) = f_Mo_isPlace a0 := by rw [f_Mo_isPlace]
  exact W.zret (ty := .boolean) (v := f_Mo_in a0 (-10000000) 10000000) hx hb hr (by unfold f_Mo_in; (repeat' split) <;> rfl) (fun t ht hW => ⟨congrArg (fun z => Outcome.returned (some (Value.int z))) hv, ht⟩) (fun _ h9 => nomatch h9) d_Mo_isPlace_8
set_option maxHeartbeats 1000000 in
theorem r_Mo_isPlace {p : Program} {l : Launch} {e : Env} {R : Room} {s : State} {m : MethodId} {args : Array Value} {below : List Frame} {meth : Method} {c : Code} {H : Heap} {locs : List Loc} {cells slots : Nat} {Q : State → Prop} {cc : ByteArray} {nL pc idx : Nat} {ls : Array Slot} {rest : List Value} {a0 : Int32} (hF : CallFix p m c cc nL s args w_all R_Mo) (hlk : Cond.methodLink R_Mo idx y_Mo_isPlace ∈ w_all) (hsz : ls.size = nL) (hR : (rmD 1).frames + 1 ≤ R.frames ∧ 8 + (1 + 11) + (rmD 1).locals ≤ R.locals) (hc : cells ≤ R.cells ∧ slots ≤ R.slots) (hrs : (rest.map fun v => v.category).sum ≤ 8) (hdg : decode cc pc = .ok (.invokestatic idx, 3)) (kk : W p l e R s m args below meth c H locs cells slots Q (F0 m (pc + 3) ls (.int (f_Mo_isPlace a0) :: rest))) : W p l e R s m args below meth c H locs cells slots Q (F0 m pc ls (.int a0 :: rest)) :=
  W.callR (W.runS (As := [.int a0]) (rest := rest) hF (c_Mo_isPlace l a0) (cwS 1 hF.2.2.2.2 (gS hlk m_264 m_187 m_265) rfl rfl rfl (by decide +kernel) hR) preEq rfl rfl hsz rfl (lv_room hrs) hdg hc) kk
theorem d_Mo_apart_0 : decode b_Mo_apart 0 = .ok (.iload_n 2, 1) := by decide +kernel
theorem d_Mo_apart_1 : decode b_Mo_apart 1 = .ok (.iload_n 1, 1) := by decide +kernel
theorem d_Mo_apart_2 : decode b_Mo_apart 2 = .ok (.if_icmp .le 10, 3) := by decide +kernel
theorem d_Mo_apart_5 : decode b_Mo_apart 5 = .ok (.iload_n 2, 1) := by decide +kernel
theorem d_Mo_apart_6 : decode b_Mo_apart 6 = .ok (.iload_n 1, 1) := by decide +kernel
theorem d_Mo_apart_7 : decode b_Mo_apart 7 = .ok (.isub, 1) := by decide +kernel
theorem d_Mo_apart_8 : decode b_Mo_apart 8 = .ok (.i2l, 1) := by decide +kernel
theorem d_Mo_apart_9 : decode b_Mo_apart 9 = .ok (.goto 16, 3) := by decide +kernel
theorem d_Mo_apart_12 : decode b_Mo_apart 12 = .ok (.iload_n 0, 1) := by decide +kernel
theorem d_Mo_apart_13 : decode b_Mo_apart 13 = .ok (.iload_n 3, 1) := by decide +kernel
theorem d_Mo_apart_14 : decode b_Mo_apart 14 = .ok (.if_icmp .le 10, 3) := by decide +kernel
theorem d_Mo_apart_17 : decode b_Mo_apart 17 = .ok (.iload_n 0, 1) := by decide +kernel
theorem d_Mo_apart_18 : decode b_Mo_apart 18 = .ok (.iload_n 3, 1) := by decide +kernel
theorem d_Mo_apart_19 : decode b_Mo_apart 19 = .ok (.isub, 1) := by decide +kernel
theorem d_Mo_apart_20 : decode b_Mo_apart 20 = .ok (.i2l, 1) := by decide +kernel
theorem d_Mo_apart_21 : decode b_Mo_apart 21 = .ok (.goto 4, 3) := by decide +kernel
theorem d_Mo_apart_24 : decode b_Mo_apart 24 = .ok (.lconst 0, 1) := by decide +kernel
theorem d_Mo_apart_25 : decode b_Mo_apart 25 = .ok (.lreturn, 1) := by decide +kernel
set_option maxHeartbeats 4000000 in
set_option maxRecDepth 100000 in
theorem c_Mo_apart (l : Launch) (a0 : Int32) (a1 : Int32) (a2 : Int32) (a3 : Int32) : Met l y_Mo_apart z_Mo_apart (rmD 0) (fun v _ => v = ([.int a0, .int a1, .int a2, .int a3] : List Value).toArray) (QcReadL (f_Mo_apart a0 a1 a2 a3)) 0 0 (fun _ => False) := by
  refine Met.ofW (cc := b_Mo_apart) (maxL := 4) (ret := (some .long)) (by decide) rfl ?_
  intro p e s m args below meth c s₁ B hml hv
  obtain rfl := hv
  have hx := B.exec
  have hb := B.bytes
  have hr := B.returns
  have hts : ∀ w ∈ w_all, w.before _ s = true := fun w hw => atoms_spec (ws := z_Mo_apart) B.pre w (List.mem_cons_of_mem _ hw)
  have hown : s.vm.findClass R_Mo = some m.cls := findClass_of_methodNamed B.named
  have hlocks := B.notSynchronized
  have hF : CallFix p m c b_Mo_apart 4 s _ w_all R_Mo := ⟨hx, hb, hml, hown, hts⟩
  have hl := lv_entry ([.int a0, .int a1, .int a2, .int a3]) (n := 4) (Nat.le_of_ble_eq_true rfl)
  rw [lg_entry_eq]
  generalize (lg_sl ([.int a0, .int a1, .int a2, .int a3]) ++ List.replicate (4 - (lg_sl ([.int a0, .int a1, .int a2, .int a3])).length) Slot.unset).toArray = ls at hl ⊢
  have hl : lv_has ls 4 [(0, .int a0), (1, .int a1), (2, .int a2), (3, .int a3)] := hl
  refine lv_iload_n hx hb d_Mo_apart_0 rfl (lv_at hl 2 rfl) ?_
  refine lv_iload_n hx hb d_Mo_apart_1 rfl (lv_at hl 1 rfl) ?_
  refine lv_icmp_le (tgt := 12) hx hb d_Mo_apart_2 (by decide) (fun c2 => ?_) (fun c2 => ?_)
  · refine lv_iload_n hx hb d_Mo_apart_12 rfl (lv_at hl 0 rfl) ?_
    refine lv_iload_n hx hb d_Mo_apart_13 rfl (lv_at hl 3 rfl) ?_
    refine lv_icmp_le (tgt := 24) hx hb d_Mo_apart_14 (by decide) (fun c14 => ?_) (fun c14 => ?_)
    · refine lv_lconst (v := 0) hx hb d_Mo_apart_24 (by decide) ?_
      have hv : (0 : Int64) = f_Mo_apart a0 a1 a2 a3 := by rw [f_Mo_apart, if_pos c2, if_pos c14]
      exact W.lret (v := 0) hx hb hr (fun t ht hW => ⟨congrArg (fun z => Outcome.returned (some (Value.long z))) hv, ht⟩) (fun _ h9 => nomatch h9) d_Mo_apart_25
    · refine lv_iload_n hx hb d_Mo_apart_17 rfl (lv_at hl 0 rfl) ?_
      refine lv_iload_n hx hb d_Mo_apart_18 rfl (lv_at hl 3 rfl) ?_
      refine lv_isub hx hb d_Mo_apart_19 ?_
      refine lv_i2l hx hb d_Mo_apart_20 rfl ?_
      refine lv_goto (tgt := 25) hx hb d_Mo_apart_21 (by decide) ?_
      have hv : ((a0 - a3).toInt64 : Int64) = f_Mo_apart a0 a1 a2 a3 := by rw [f_Mo_apart, if_pos c2, if_neg c14]
      exact W.lret (v := (a0 - a3).toInt64) hx hb hr (fun t ht hW => ⟨congrArg (fun z => Outcome.returned (some (Value.long z))) hv, ht⟩) (fun _ h9 => nomatch h9) d_Mo_apart_25
  · refine lv_iload_n hx hb d_Mo_apart_5 rfl (lv_at hl 2 rfl) ?_
    refine lv_iload_n hx hb d_Mo_apart_6 rfl (lv_at hl 1 rfl) ?_
    refine lv_isub hx hb d_Mo_apart_7 ?_
    refine lv_i2l hx hb d_Mo_apart_8 rfl ?_
    refine lv_goto (tgt := 25) hx hb d_Mo_apart_9 (by decide) ?_
    have hv : ((a2 - a1).toInt64 : Int64) = f_Mo_apart a0 a1 a2 a3 := by rw [f_Mo_apart, if_neg c2]
    exact W.lret (v := (a2 - a1).toInt64) hx hb hr (fun t ht hW => ⟨congrArg (fun z => Outcome.returned (some (Value.long z))) hv, ht⟩) (fun _ h9 => nomatch h9) d_Mo_apart_25
set_option maxHeartbeats 1000000 in
theorem r_Mo_apart {p : Program} {l : Launch} {e : Env} {R : Room} {s : State} {m : MethodId} {args : Array Value} {below : List Frame} {meth : Method} {c : Code} {H : Heap} {locs : List Loc} {cells slots : Nat} {Q : State → Prop} {cc : ByteArray} {nL pc idx : Nat} {ls : Array Slot} {rest : List Value} {a0 : Int32} {a1 : Int32} {a2 : Int32} {a3 : Int32} (hF : CallFix p m c cc nL s args w_all R_Mo) (hlk : Cond.methodLink R_Mo idx y_Mo_apart ∈ w_all) (hsz : ls.size = nL) (hR : (rmD 0).frames + 1 ≤ R.frames ∧ 8 + (4 + 11) + (rmD 0).locals ≤ R.locals) (hc : cells ≤ R.cells ∧ slots ≤ R.slots) (hrs : (rest.map fun v => v.category).sum ≤ 8) (hdg : decode cc pc = .ok (.invokestatic idx, 3)) (kk : W p l e R s m args below meth c H locs cells slots Q (F0 m (pc + 3) ls (.long (f_Mo_apart a0 a1 a2 a3) :: rest))) : W p l e R s m args below meth c H locs cells slots Q (F0 m pc ls (.int a3 :: .int a2 :: .int a1 :: .int a0 :: rest)) :=
  cv_callL (W.runS (As := [.int a0, .int a1, .int a2, .int a3]) (rest := rest) hF (c_Mo_apart l a0 a1 a2 a3) (cwS 4 hF.2.2.2.2 (gS hlk m_266 m_187 m_267) rfl rfl rfl (by decide +kernel) hR) preEq rfl rfl hsz rfl (lv_room hrs) hdg hc) kk
theorem d_Mo_isNear_0 : decode b_Mo_isNear 0 = .ok (.aload_n 0, 1) := by decide +kernel
theorem d_Mo_isNear_1 : decode b_Mo_isNear 1 = .ok (.getfield 82, 3) := by decide +kernel
theorem d_Mo_isNear_4 : decode b_Mo_isNear 4 = .ok (.bipush 120, 2) := by decide +kernel
theorem d_Mo_isNear_6 : decode b_Mo_isNear 6 = .ok (.iaload, 1) := by decide +kernel
theorem d_Mo_isNear_7 : decode b_Mo_isNear 7 = .ok (.aload_n 0, 1) := by decide +kernel
theorem d_Mo_isNear_8 : decode b_Mo_isNear 8 = .ok (.getfield 82, 3) := by decide +kernel
theorem d_Mo_isNear_11 : decode b_Mo_isNear 11 = .ok (.bipush 122, 2) := by decide +kernel
theorem d_Mo_isNear_13 : decode b_Mo_isNear 13 = .ok (.iaload, 1) := by decide +kernel
theorem d_Mo_isNear_14 : decode b_Mo_isNear 14 = .ok (.aload_n 0, 1) := by decide +kernel
theorem d_Mo_isNear_15 : decode b_Mo_isNear 15 = .ok (.getfield 82, 3) := by decide +kernel
theorem d_Mo_isNear_18 : decode b_Mo_isNear 18 = .ok (.iconst 4, 1) := by decide +kernel
theorem d_Mo_isNear_19 : decode b_Mo_isNear 19 = .ok (.iload_n 1, 1) := by decide +kernel
theorem d_Mo_isNear_20 : decode b_Mo_isNear 20 = .ok (.imul, 1) := by decide +kernel
theorem d_Mo_isNear_21 : decode b_Mo_isNear 21 = .ok (.iaload, 1) := by decide +kernel
theorem d_Mo_isNear_22 : decode b_Mo_isNear 22 = .ok (.aload_n 0, 1) := by decide +kernel
theorem d_Mo_isNear_23 : decode b_Mo_isNear 23 = .ok (.getfield 82, 3) := by decide +kernel
theorem d_Mo_isNear_26 : decode b_Mo_isNear 26 = .ok (.iconst 4, 1) := by decide +kernel
theorem d_Mo_isNear_27 : decode b_Mo_isNear 27 = .ok (.iload_n 1, 1) := by decide +kernel
theorem d_Mo_isNear_28 : decode b_Mo_isNear 28 = .ok (.imul, 1) := by decide +kernel
theorem d_Mo_isNear_29 : decode b_Mo_isNear 29 = .ok (.iconst 2, 1) := by decide +kernel
theorem d_Mo_isNear_30 : decode b_Mo_isNear 30 = .ok (.iadd, 1) := by decide +kernel
theorem d_Mo_isNear_31 : decode b_Mo_isNear 31 = .ok (.iaload, 1) := by decide +kernel
theorem d_Mo_isNear_32 : decode b_Mo_isNear 32 = .ok (.invokestatic 177, 3) := by decide +kernel
theorem d_Mo_isNear_35 : decode b_Mo_isNear 35 = .ok (.lstore_n 2, 1) := by decide +kernel
theorem d_Mo_isNear_36 : decode b_Mo_isNear 36 = .ok (.aload_n 0, 1) := by decide +kernel
theorem d_Mo_isNear_37 : decode b_Mo_isNear 37 = .ok (.getfield 82, 3) := by decide +kernel
theorem d_Mo_isNear_40 : decode b_Mo_isNear 40 = .ok (.bipush 121, 2) := by decide +kernel
theorem d_Mo_isNear_42 : decode b_Mo_isNear 42 = .ok (.iaload, 1) := by decide +kernel
theorem d_Mo_isNear_43 : decode b_Mo_isNear 43 = .ok (.aload_n 0, 1) := by decide +kernel
theorem d_Mo_isNear_44 : decode b_Mo_isNear 44 = .ok (.getfield 82, 3) := by decide +kernel
theorem d_Mo_isNear_47 : decode b_Mo_isNear 47 = .ok (.bipush 123, 2) := by decide +kernel
theorem d_Mo_isNear_49 : decode b_Mo_isNear 49 = .ok (.iaload, 1) := by decide +kernel
theorem d_Mo_isNear_50 : decode b_Mo_isNear 50 = .ok (.aload_n 0, 1) := by decide +kernel
theorem d_Mo_isNear_51 : decode b_Mo_isNear 51 = .ok (.getfield 82, 3) := by decide +kernel
theorem d_Mo_isNear_54 : decode b_Mo_isNear 54 = .ok (.iconst 4, 1) := by decide +kernel
theorem d_Mo_isNear_55 : decode b_Mo_isNear 55 = .ok (.iload_n 1, 1) := by decide +kernel
theorem d_Mo_isNear_56 : decode b_Mo_isNear 56 = .ok (.imul, 1) := by decide +kernel
theorem d_Mo_isNear_57 : decode b_Mo_isNear 57 = .ok (.iconst 1, 1) := by decide +kernel
theorem d_Mo_isNear_58 : decode b_Mo_isNear 58 = .ok (.iadd, 1) := by decide +kernel
theorem d_Mo_isNear_59 : decode b_Mo_isNear 59 = .ok (.iaload, 1) := by decide +kernel
theorem d_Mo_isNear_60 : decode b_Mo_isNear 60 = .ok (.aload_n 0, 1) := by decide +kernel
theorem d_Mo_isNear_61 : decode b_Mo_isNear 61 = .ok (.getfield 82, 3) := by decide +kernel
theorem d_Mo_isNear_64 : decode b_Mo_isNear 64 = .ok (.iconst 4, 1) := by decide +kernel
theorem d_Mo_isNear_65 : decode b_Mo_isNear 65 = .ok (.iload_n 1, 1) := by decide +kernel
theorem d_Mo_isNear_66 : decode b_Mo_isNear 66 = .ok (.imul, 1) := by decide +kernel
theorem d_Mo_isNear_67 : decode b_Mo_isNear 67 = .ok (.iconst 3, 1) := by decide +kernel
theorem d_Mo_isNear_68 : decode b_Mo_isNear 68 = .ok (.iadd, 1) := by decide +kernel
theorem d_Mo_isNear_69 : decode b_Mo_isNear 69 = .ok (.iaload, 1) := by decide +kernel
theorem d_Mo_isNear_70 : decode b_Mo_isNear 70 = .ok (.invokestatic 177, 3) := by decide +kernel
theorem d_Mo_isNear_73 : decode b_Mo_isNear 73 = .ok (.lstore 4, 2) := by decide +kernel
theorem d_Mo_isNear_75 : decode b_Mo_isNear 75 = .ok (.lload_n 2, 1) := by decide +kernel
theorem d_Mo_isNear_76 : decode b_Mo_isNear 76 = .ok (.lload_n 2, 1) := by decide +kernel
theorem d_Mo_isNear_77 : decode b_Mo_isNear 77 = .ok (.lmul, 1) := by decide +kernel
theorem d_Mo_isNear_78 : decode b_Mo_isNear 78 = .ok (.lload 4, 2) := by decide +kernel
theorem d_Mo_isNear_80 : decode b_Mo_isNear 80 = .ok (.lload 4, 2) := by decide +kernel
theorem d_Mo_isNear_82 : decode b_Mo_isNear 82 = .ok (.lmul, 1) := by decide +kernel
theorem d_Mo_isNear_83 : decode b_Mo_isNear 83 = .ok (.ladd, 1) := by decide +kernel
theorem d_Mo_isNear_84 : decode b_Mo_isNear 84 = .ok (.aload_n 0, 1) := by decide +kernel
theorem d_Mo_isNear_85 : decode b_Mo_isNear 85 = .ok (.getfield 79, 3) := by decide +kernel
theorem d_Mo_isNear_88 : decode b_Mo_isNear 88 = .ok (.i2l, 1) := by decide +kernel
theorem d_Mo_isNear_89 : decode b_Mo_isNear 89 = .ok (.aload_n 0, 1) := by decide +kernel
theorem d_Mo_isNear_90 : decode b_Mo_isNear 90 = .ok (.getfield 79, 3) := by decide +kernel
theorem d_Mo_isNear_93 : decode b_Mo_isNear 93 = .ok (.i2l, 1) := by decide +kernel
theorem d_Mo_isNear_94 : decode b_Mo_isNear 94 = .ok (.lmul, 1) := by decide +kernel
theorem d_Mo_isNear_95 : decode b_Mo_isNear 95 = .ok (.lcmp, 1) := by decide +kernel
theorem d_Mo_isNear_96 : decode b_Mo_isNear 96 = .ok (.ifCond .ge 7, 3) := by decide +kernel
theorem d_Mo_isNear_99 : decode b_Mo_isNear 99 = .ok (.iconst 1, 1) := by decide +kernel
theorem d_Mo_isNear_100 : decode b_Mo_isNear 100 = .ok (.goto 4, 3) := by decide +kernel
theorem d_Mo_isNear_103 : decode b_Mo_isNear 103 = .ok (.iconst 0, 1) := by decide +kernel
theorem d_Mo_isNear_104 : decode b_Mo_isNear 104 = .ok (.ireturn, 1) := by decide +kernel
set_option maxHeartbeats 4000000 in
set_option maxRecDepth 100000 in
theorem c_Mo_isNear (l : Launch) (dC : Nat → ClassId) (dI : Nat → Nat → Nat) (L : Nat → Nat) (cA : Nat → ClassId) (ar : Nat → Nat → Int32) (sc : Nat → Int32) (a0 : Int32) (h : p_Mo_isNear ar sc a0) : Met l y_Mo_isNear z_Mo_isNear (rmD 1) (va_Pc [.ref (L 0), .int a0] (fun U => xw_M dC dI L cA ar sc U)) (QcRead (f_Mo_isNear ar sc a0)) 0 0 (fun _ => False) := by
  refine Met.ofW (cc := b_Mo_isNear) (maxL := 6) (ret := (some .boolean)) (by decide) rfl ?_
  intro p e s m args below meth c s₁ B hml hv
  obtain ⟨rfl, ⟨hP, hK⟩⟩ := hv
  have hx := B.exec
  have hb := B.bytes
  have hr := B.returns
  have hts : ∀ w ∈ w_all, w.before _ s = true := fun w hw => atoms_spec (ws := z_Mo_isNear) B.pre w (List.mem_cons_of_mem _ hw)
  have hown : s.vm.findClass R_Mo = some m.cls := findClass_of_methodNamed B.named
  have hlocks := B.notSynchronized
  have hF : CallFix p m c b_Mo_isNear 6 s _ w_all R_Mo := ⟨hx, hb, hml, hown, hts⟩
  have hl := lv_entry ([.ref (L 0), .int a0]) (n := 6) (Nat.le_of_ble_eq_true rfl)
  rw [lg_entry_eq]
  generalize (lg_sl ([.ref (L 0), .int a0]) ++ List.replicate (6 - (lg_sl ([.ref (L 0), .int a0])).length) Slot.unset).toArray = ls at hl ⊢
  have hl : lv_has ls 6 [(0, .ref (L 0)), (1, .int a0)] := hl
  unfold p_Mo_isNear at h
  refine lv_aload_n hx hb d_Mo_isNear_0 rfl (lv_at hl 0 rfl) ?_
  refine gf_Mo_grounds hF hK hP m_268 d_Mo_isNear_1 ?_
  refine lv_bipush (v := 120) hx hb d_Mo_isNear_4 (by decide) ?_
  have k6 := h.1
  have h := h.2
  refine alM_22 hF hK hP k6 d_Mo_isNear_6 ?_
  refine lv_aload_n hx hb d_Mo_isNear_7 rfl (lv_at hl 0 rfl) ?_
  refine gf_Mo_grounds hF hK hP m_268 d_Mo_isNear_8 ?_
  refine lv_bipush (v := 122) hx hb d_Mo_isNear_11 (by decide) ?_
  have k13 := h.1
  have h := h.2
  refine alM_22 hF hK hP k13 d_Mo_isNear_13 ?_
  refine lv_aload_n hx hb d_Mo_isNear_14 rfl (lv_at hl 0 rfl) ?_
  refine gf_Mo_grounds hF hK hP m_268 d_Mo_isNear_15 ?_
  refine lv_iconst (v := 4) hx hb d_Mo_isNear_18 (by decide) ?_
  refine lv_iload_n hx hb d_Mo_isNear_19 rfl (lv_at hl 1 rfl) ?_
  refine lv_imul hx hb d_Mo_isNear_20 ?_
  have k21 := h.1
  have h := h.2
  refine alM_22 hF hK hP k21 d_Mo_isNear_21 ?_
  refine lv_aload_n hx hb d_Mo_isNear_22 rfl (lv_at hl 0 rfl) ?_
  refine gf_Mo_grounds hF hK hP m_268 d_Mo_isNear_23 ?_
  refine lv_iconst (v := 4) hx hb d_Mo_isNear_26 (by decide) ?_
  refine lv_iload_n hx hb d_Mo_isNear_27 rfl (lv_at hl 1 rfl) ?_
  refine lv_imul hx hb d_Mo_isNear_28 ?_
  refine lv_iconst (v := 2) hx hb d_Mo_isNear_29 (by decide) ?_
  refine lv_iadd hx hb d_Mo_isNear_30 ?_
  have k31 := h.1
  have h := h.2
  refine alM_22 hF hK hP k31 d_Mo_isNear_31 ?_
  refine r_Mo_apart hF m_269 hl.1 ⟨Nat.le_of_ble_eq_true rfl, Nat.le_of_ble_eq_true rfl⟩ ⟨Nat.zero_le _, Nat.zero_le _⟩ (Nat.le_of_ble_eq_true rfl) d_Mo_isNear_32 ?_
  refine lv_lstore_n (lv' := [(2, .long (f_Mo_apart (ar 22 ((120 : Int32).toNatClampNeg)) (ar 22 ((122 : Int32).toNatClampNeg)) (ar 22 ((4 * a0 : Int32).toNatClampNeg)) (ar 22 (((4 * a0) + 2).toNatClampNeg)))), (0, .ref (L 0)), (1, .int a0)]) hx hb d_Mo_isNear_35 rfl hl (by decide) rfl (fun ls hl => ?_)
  refine lv_aload_n hx hb d_Mo_isNear_36 rfl (lv_at hl 1 rfl) ?_
  refine gf_Mo_grounds hF hK hP m_268 d_Mo_isNear_37 ?_
  refine lv_bipush (v := 121) hx hb d_Mo_isNear_40 (by decide) ?_
  have k42 := h.1
  have h := h.2
  refine alM_22 hF hK hP k42 d_Mo_isNear_42 ?_
  refine lv_aload_n hx hb d_Mo_isNear_43 rfl (lv_at hl 1 rfl) ?_
  refine gf_Mo_grounds hF hK hP m_268 d_Mo_isNear_44 ?_
  refine lv_bipush (v := 123) hx hb d_Mo_isNear_47 (by decide) ?_
  have k49 := h.1
  have h := h.2
  refine alM_22 hF hK hP k49 d_Mo_isNear_49 ?_
  refine lv_aload_n hx hb d_Mo_isNear_50 rfl (lv_at hl 1 rfl) ?_
  refine gf_Mo_grounds hF hK hP m_268 d_Mo_isNear_51 ?_
  refine lv_iconst (v := 4) hx hb d_Mo_isNear_54 (by decide) ?_
  refine lv_iload_n hx hb d_Mo_isNear_55 rfl (lv_at hl 2 rfl) ?_
  refine lv_imul hx hb d_Mo_isNear_56 ?_
  refine lv_iconst (v := 1) hx hb d_Mo_isNear_57 (by decide) ?_
  refine lv_iadd hx hb d_Mo_isNear_58 ?_
  have k59 := h.1
  have h := h.2
  refine alM_22 hF hK hP k59 d_Mo_isNear_59 ?_
  refine lv_aload_n hx hb d_Mo_isNear_60 rfl (lv_at hl 1 rfl) ?_
  refine gf_Mo_grounds hF hK hP m_268 d_Mo_isNear_61 ?_
  refine lv_iconst (v := 4) hx hb d_Mo_isNear_64 (by decide) ?_
  refine lv_iload_n hx hb d_Mo_isNear_65 rfl (lv_at hl 2 rfl) ?_
  refine lv_imul hx hb d_Mo_isNear_66 ?_
  refine lv_iconst (v := 3) hx hb d_Mo_isNear_67 (by decide) ?_
  refine lv_iadd hx hb d_Mo_isNear_68 ?_
  have k69 := h
  refine alM_22 hF hK hP k69 d_Mo_isNear_69 ?_
  refine r_Mo_apart hF m_269 hl.1 ⟨Nat.le_of_ble_eq_true rfl, Nat.le_of_ble_eq_true rfl⟩ ⟨Nat.zero_le _, Nat.zero_le _⟩ (Nat.le_of_ble_eq_true rfl) d_Mo_isNear_70 ?_
  refine lv_lstore (lv' := [(4, .long (f_Mo_apart (ar 22 ((121 : Int32).toNatClampNeg)) (ar 22 ((123 : Int32).toNatClampNeg)) (ar 22 (((4 * a0) + 1).toNatClampNeg)) (ar 22 (((4 * a0) + 3).toNatClampNeg)))), (2, .long (f_Mo_apart (ar 22 ((120 : Int32).toNatClampNeg)) (ar 22 ((122 : Int32).toNatClampNeg)) (ar 22 ((4 * a0 : Int32).toNatClampNeg)) (ar 22 (((4 * a0) + 2).toNatClampNeg)))), (0, .ref (L 0)), (1, .int a0)]) hx hb d_Mo_isNear_73 hl (by decide) rfl (fun ls hl => ?_)
  refine lv_lload_n hx hb d_Mo_isNear_75 rfl (lv_at hl 1 rfl) ?_
  refine lv_lload_n hx hb d_Mo_isNear_76 rfl (lv_at hl 1 rfl) ?_
  refine lv_lmul hx hb d_Mo_isNear_77 ?_
  refine lv_lload hx hb d_Mo_isNear_78 (lv_at hl 0 rfl) ?_
  refine lv_lload hx hb d_Mo_isNear_80 (lv_at hl 0 rfl) ?_
  refine lv_lmul hx hb d_Mo_isNear_82 ?_
  refine lv_ladd hx hb d_Mo_isNear_83 ?_
  refine lv_aload_n hx hb d_Mo_isNear_84 rfl (lv_at hl 2 rfl) ?_
  refine gf_Mo_distance hF hK hP m_270 d_Mo_isNear_85 ?_
  refine lv_i2l hx hb d_Mo_isNear_88 rfl ?_
  refine lv_aload_n hx hb d_Mo_isNear_89 rfl (lv_at hl 2 rfl) ?_
  refine gf_Mo_distance hF hK hP m_270 d_Mo_isNear_90 ?_
  refine lv_i2l hx hb d_Mo_isNear_93 rfl ?_
  refine lv_lmul hx hb d_Mo_isNear_94 ?_
  refine W.lcmp hx hb d_Mo_isNear_95 ?_
  refine lv_if_ge (tgt := 103) hx hb d_Mo_isNear_96 (by decide) (fun c96 => ?_) (fun c96 => ?_)
  · refine lv_iconst (v := 0) hx hb d_Mo_isNear_103 (by decide) ?_
    have hv : (0 : Int32) = f_Mo_isNear ar sc a0 := by rw [f_Mo_isNear, if_pos c96]
    exact W.zret (ty := .boolean) (v := 0) hx hb hr rfl (fun t ht hW => ⟨congrArg (fun z => Outcome.returned (some (Value.int z))) hv, ht⟩) (fun _ h9 => nomatch h9) d_Mo_isNear_104
  · refine lv_iconst (v := 1) hx hb d_Mo_isNear_99 (by decide) ?_
    refine lv_goto (tgt := 104) hx hb d_Mo_isNear_100 (by decide) ?_
    have hv : (1 : Int32) = f_Mo_isNear ar sc a0 := by rw [f_Mo_isNear, if_neg c96]
    exact W.zret (ty := .boolean) (v := 1) hx hb hr rfl (fun t ht hW => ⟨congrArg (fun z => Outcome.returned (some (Value.int z))) hv, ht⟩) (fun _ h9 => nomatch h9) d_Mo_isNear_104
set_option maxHeartbeats 1000000 in
theorem r_Mo_isNear {p : Program} {l : Launch} {e : Env} {R : Room} {s : State} {m : MethodId} {args : Array Value} {below : List Frame} {meth : Method} {c : Code} {H : Heap} {locs : List Loc} {cells slots : Nat} {Q : State → Prop} {cc : ByteArray} {nL pc idx : Nat} {ls : Array Slot} {rest : List Value} {own : String} {dC : Nat → ClassId} {dI : Nat → Nat → Nat} {L : Nat → Nat} {cA : Nat → ClassId} {ar : Nat → Nat → Int32} {sc : Nat → Int32} {a0 : Int32} (hF : CallFix p m c cc nL s args w_all own) (hK : kW_M dC dI cA s) (hP : va_P (dC, dI) classes (wM L cA ar sc) H) (h : p_Mo_isNear ar sc a0) (hlk : Cond.methodLink own idx y_Mo_isNear ∈ w_all) (hsz : ls.size = nL) (hR : (rmD 1).frames + 1 ≤ R.frames ∧ 8 + (6 + 11) + (rmD 1).locals ≤ R.locals) (hc : cells ≤ R.cells ∧ slots ≤ R.slots) (hrs : (rest.map fun v => v.category).sum ≤ 8) (hdg : decode cc pc = .ok (.invokevirtual idx, 3)) (kk : W p l e R s m args below meth c H locs cells slots Q (F0 m (pc + 3) ls (.int (f_Mo_isNear ar sc a0) :: rest))) : W p l e R s m args below meth c H locs cells slots Q (F0 m pc ls (.int a0 :: .ref (L 0) :: rest)) :=
  W.callR (W.runV (As := [.int a0]) (rest := rest) hF (c_Mo_isNear l dC dI L cA ar sc a0 h) (cwV 1 hF.2.2.2.2 (gV hlk m_271 m_272 m_187 m_273) rfl rfl rfl (by decide +kernel) hR) ⟨xb_M, va_recv hK.1 hP (ci := 7) (q0 := 0) rfl rfl, fun U hU hW => ⟨rfl, by rw [hU]; exact hP, kW_M_warm hW hK⟩⟩ rfl rfl hsz rfl (lv_room hrs) hdg hc) kk
theorem d_Mo_refusal_0 : decode b_Mo_refusal 0 = .ok (.aload_n 0, 1) := by decide +kernel
theorem d_Mo_refusal_1 : decode b_Mo_refusal 1 = .ok (.getfield 173, 3) := by decide +kernel
theorem d_Mo_refusal_4 : decode b_Mo_refusal 4 = .ok (.ifCond .ne 6, 3) := by decide +kernel
theorem d_Mo_refusal_7 : decode b_Mo_refusal 7 = .ok (.bipush (-2), 2) := by decide +kernel
theorem d_Mo_refusal_9 : decode b_Mo_refusal 9 = .ok (.ireturn, 1) := by decide +kernel
theorem d_Mo_refusal_10 : decode b_Mo_refusal 10 = .ok (.aload_n 0, 1) := by decide +kernel
theorem d_Mo_refusal_11 : decode b_Mo_refusal 11 = .ok (.getfield 82, 3) := by decide +kernel
theorem d_Mo_refusal_14 : decode b_Mo_refusal 14 = .ok (.bipush 122, 2) := by decide +kernel
theorem d_Mo_refusal_16 : decode b_Mo_refusal 16 = .ok (.iaload, 1) := by decide +kernel
theorem d_Mo_refusal_17 : decode b_Mo_refusal 17 = .ok (.aload_n 0, 1) := by decide +kernel
theorem d_Mo_refusal_18 : decode b_Mo_refusal 18 = .ok (.getfield 82, 3) := by decide +kernel
theorem d_Mo_refusal_21 : decode b_Mo_refusal 21 = .ok (.bipush 120, 2) := by decide +kernel
theorem d_Mo_refusal_23 : decode b_Mo_refusal 23 = .ok (.iaload, 1) := by decide +kernel
theorem d_Mo_refusal_24 : decode b_Mo_refusal 24 = .ok (.isub, 1) := by decide +kernel
theorem d_Mo_refusal_25 : decode b_Mo_refusal 25 = .ok (.i2l, 1) := by decide +kernel
theorem d_Mo_refusal_26 : decode b_Mo_refusal 26 = .ok (.aload_n 0, 1) := by decide +kernel
theorem d_Mo_refusal_27 : decode b_Mo_refusal 27 = .ok (.getfield 82, 3) := by decide +kernel
theorem d_Mo_refusal_30 : decode b_Mo_refusal 30 = .ok (.bipush 123, 2) := by decide +kernel
theorem d_Mo_refusal_32 : decode b_Mo_refusal 32 = .ok (.iaload, 1) := by decide +kernel
theorem d_Mo_refusal_33 : decode b_Mo_refusal 33 = .ok (.aload_n 0, 1) := by decide +kernel
theorem d_Mo_refusal_34 : decode b_Mo_refusal 34 = .ok (.getfield 82, 3) := by decide +kernel
theorem d_Mo_refusal_37 : decode b_Mo_refusal 37 = .ok (.bipush 121, 2) := by decide +kernel
theorem d_Mo_refusal_39 : decode b_Mo_refusal 39 = .ok (.iaload, 1) := by decide +kernel
theorem d_Mo_refusal_40 : decode b_Mo_refusal 40 = .ok (.isub, 1) := by decide +kernel
theorem d_Mo_refusal_41 : decode b_Mo_refusal 41 = .ok (.i2l, 1) := by decide +kernel
theorem d_Mo_refusal_42 : decode b_Mo_refusal 42 = .ok (.lmul, 1) := by decide +kernel
theorem d_Mo_refusal_43 : decode b_Mo_refusal 43 = .ok (.lstore 4, 2) := by decide +kernel
theorem d_Mo_refusal_45 : decode b_Mo_refusal 45 = .ok (.lload 4, 2) := by decide +kernel
theorem d_Mo_refusal_47 : decode b_Mo_refusal 47 = .ok (.aload_n 0, 1) := by decide +kernel
theorem d_Mo_refusal_48 : decode b_Mo_refusal 48 = .ok (.getfield 75, 3) := by decide +kernel
theorem d_Mo_refusal_51 : decode b_Mo_refusal 51 = .ok (.i2l, 1) := by decide +kernel
theorem d_Mo_refusal_52 : decode b_Mo_refusal 52 = .ok (.iload_n 3, 1) := by decide +kernel
theorem d_Mo_refusal_53 : decode b_Mo_refusal 53 = .ok (.i2l, 1) := by decide +kernel
theorem d_Mo_refusal_54 : decode b_Mo_refusal 54 = .ok (.lmul, 1) := by decide +kernel
theorem d_Mo_refusal_55 : decode b_Mo_refusal 55 = .ok (.lcmp, 1) := by decide +kernel
theorem d_Mo_refusal_56 : decode b_Mo_refusal 56 = .ok (.ifCond .ge 6, 3) := by decide +kernel
theorem d_Mo_refusal_59 : decode b_Mo_refusal 59 = .ok (.bipush (-3), 2) := by decide +kernel
theorem d_Mo_refusal_61 : decode b_Mo_refusal 61 = .ok (.ireturn, 1) := by decide +kernel
theorem d_Mo_refusal_62 : decode b_Mo_refusal 62 = .ok (.iconst 0, 1) := by decide +kernel
theorem d_Mo_refusal_63 : decode b_Mo_refusal 63 = .ok (.istore 6, 2) := by decide +kernel
theorem d_Mo_refusal_65 : decode b_Mo_refusal 65 = .ok (.iload 6, 2) := by decide +kernel
theorem d_Mo_refusal_67 : decode b_Mo_refusal 67 = .ok (.aload_n 0, 1) := by decide +kernel
theorem d_Mo_refusal_68 : decode b_Mo_refusal 68 = .ok (.getfield 181, 3) := by decide +kernel
theorem d_Mo_refusal_71 : decode b_Mo_refusal 71 = .ok (.if_icmp .ge 43, 3) := by decide +kernel
theorem d_Mo_refusal_74 : decode b_Mo_refusal 74 = .ok (.aload_n 0, 1) := by decide +kernel
theorem d_Mo_refusal_75 : decode b_Mo_refusal 75 = .ok (.getfield 85, 3) := by decide +kernel
theorem d_Mo_refusal_78 : decode b_Mo_refusal 78 = .ok (.iload 6, 2) := by decide +kernel
theorem d_Mo_refusal_80 : decode b_Mo_refusal 80 = .ok (.iaload, 1) := by decide +kernel
theorem d_Mo_refusal_81 : decode b_Mo_refusal 81 = .ok (.iload_n 2, 1) := by decide +kernel
theorem d_Mo_refusal_82 : decode b_Mo_refusal 82 = .ok (.if_icmp .ge 26, 3) := by decide +kernel
theorem d_Mo_refusal_85 : decode b_Mo_refusal 85 = .ok (.iload_n 1, 1) := by decide +kernel
theorem d_Mo_refusal_86 : decode b_Mo_refusal 86 = .ok (.aload_n 0, 1) := by decide +kernel
theorem d_Mo_refusal_87 : decode b_Mo_refusal 87 = .ok (.getfield 88, 3) := by decide +kernel
theorem d_Mo_refusal_90 : decode b_Mo_refusal 90 = .ok (.iload 6, 2) := by decide +kernel
theorem d_Mo_refusal_92 : decode b_Mo_refusal 92 = .ok (.iaload, 1) := by decide +kernel
theorem d_Mo_refusal_93 : decode b_Mo_refusal 93 = .ok (.if_icmp .ge 15, 3) := by decide +kernel
theorem d_Mo_refusal_96 : decode b_Mo_refusal 96 = .ok (.aload_n 0, 1) := by decide +kernel
theorem d_Mo_refusal_97 : decode b_Mo_refusal 97 = .ok (.iload 6, 2) := by decide +kernel
theorem d_Mo_refusal_99 : decode b_Mo_refusal 99 = .ok (.invokevirtual 184, 3) := by decide +kernel
theorem d_Mo_refusal_102 : decode b_Mo_refusal 102 = .ok (.ifCond .eq 6, 3) := by decide +kernel
theorem d_Mo_refusal_105 : decode b_Mo_refusal 105 = .ok (.iload 6, 2) := by decide +kernel
theorem d_Mo_refusal_107 : decode b_Mo_refusal 107 = .ok (.ireturn, 1) := by decide +kernel
theorem d_Mo_refusal_108 : decode b_Mo_refusal 108 = .ok (.iinc 6 1, 3) := by decide +kernel
theorem d_Mo_refusal_111 : decode b_Mo_refusal 111 = .ok (.goto (-46), 3) := by decide +kernel
theorem d_Mo_refusal_114 : decode b_Mo_refusal 114 = .ok (.iconst (-1), 1) := by decide +kernel
theorem d_Mo_refusal_115 : decode b_Mo_refusal 115 = .ok (.ireturn, 1) := by decide +kernel
set_option maxHeartbeats 4000000 in
set_option maxRecDepth 100000 in
theorem l_Mo_refusal_65 {p : Program} {l : Launch} {e : Env} {s : State} {m : MethodId} {args : Array Value} {below : List Frame} {meth : Method} {c : Code} {dC : Nat → ClassId} {dI : Nat → Nat → Nat} {L : Nat → Nat} {cA : Nat → ClassId} {ar : Nat → Nat → Int32} {sc : Nat → Int32} (a0 : Int32) (a1 : Int32) (a2 : Int32) (u4 : Int64) (hF : CallFix p m c b_Mo_refusal 7 s args w_all R_Mo) (hK : kW_M dC dI cA s) (hP : va_P (dC, dI) classes (wM L cA ar sc) s.heap) (hr : meth.sig.returnType = (some .int)) (hlocks : meth.locks = false) : ∀ (n : Nat) (v6 : Int32), q_Mo_refusal_65 ar sc a0 a1 a2 u4 n v6 → ∀ (ls : Array Slot), lv_has ls 7 [(6, .int v6), (0, .ref (L 0)), (1, .int a0), (2, .int a1), (3, .int a2), (4, .long u4)] → W p l e (rmD 2) s m args below meth c s.heap [] 0 0 (MQ below (QcRead (g_Mo_refusal_65 ar sc a0 a1 a2 u4 n v6)) args s 0 0 (fun _ => False)) (F0 m 65 ls []) := by
  have hx := hF.1
  have hb := hF.2.1
  have hown := hF.2.2.2.1
  have hts := hF.2.2.2.2
  intro n
  induction n with
  | zero => intro v6 h; exact False.elim h
  | succ n ih =>
    intro v6 h ls hl
    rw [q_Mo_refusal_65] at h
    refine lv_iload hx hb d_Mo_refusal_65 (lv_at hl 0 rfl) ?_
    refine lv_aload_n hx hb d_Mo_refusal_67 rfl (lv_at hl 1 rfl) ?_
    refine gf_Mo_permits hF hK hP m_274 d_Mo_refusal_68 ?_
    refine lv_icmp_ge (tgt := 114) hx hb d_Mo_refusal_71 (by decide) (fun c71 => ?_) (fun c71 => ?_)
    · have h := h.1 c71
      refine lv_iconst (v := (-1)) hx hb d_Mo_refusal_114 (by decide) ?_
      have hv : ((-1) : Int32) = g_Mo_refusal_65 ar sc a0 a1 a2 u4 (n + 1) v6 := by rw [g_Mo_refusal_65, if_pos c71]
      exact W.iret (v := (-1)) hx hb hr (fun t ht hW => ⟨congrArg (fun z => Outcome.returned (some (Value.int z))) hv, ht⟩) (fun _ h9 => nomatch h9) d_Mo_refusal_115
    · have h := h.2 c71
      refine lv_aload_n hx hb d_Mo_refusal_74 rfl (lv_at hl 1 rfl) ?_
      refine gf_Mo_from hF hK hP m_275 d_Mo_refusal_75 ?_
      refine lv_iload hx hb d_Mo_refusal_78 (lv_at hl 0 rfl) ?_
      have k80 := h.1
      have h := h.2
      refine alM_23 hF hK hP k80 d_Mo_refusal_80 ?_
      refine lv_iload_n hx hb d_Mo_refusal_81 rfl (lv_at hl 3 rfl) ?_
      refine lv_icmp_ge (tgt := 108) hx hb d_Mo_refusal_82 (by decide) (fun c82 => ?_) (fun c82 => ?_)
      · have h := h.1 c82
        refine lv_iinc (v := v6 + 1) (lv' := [(6, .int (v6 + 1)), (0, .ref (L 0)), (1, .int a0), (2, .int a1), (3, .int a2), (4, .long u4)]) hx hb d_Mo_refusal_108 hl (k := 0) rfl rfl (by decide) rfl (fun ls hl => ?_)
        refine lv_goto (tgt := 65) hx hb d_Mo_refusal_111 (by decide) ?_
        have hv : g_Mo_refusal_65 ar sc a0 a1 a2 u4 (n + 1) v6 = g_Mo_refusal_65 ar sc a0 a1 a2 u4 n (v6 + 1) := by rw [g_Mo_refusal_65, if_neg c71, if_pos c82]
        rw [hv]
        exact ih (v6 + 1) h ls (lv_sub hl [0, 1, 2, 3, 4, 5] rfl)
      · have h := h.2 c82
        refine lv_iload_n hx hb d_Mo_refusal_85 rfl (lv_at hl 2 rfl) ?_
        refine lv_aload_n hx hb d_Mo_refusal_86 rfl (lv_at hl 1 rfl) ?_
        refine gf_Mo_to hF hK hP m_276 d_Mo_refusal_87 ?_
        refine lv_iload hx hb d_Mo_refusal_90 (lv_at hl 0 rfl) ?_
        have k92 := h.1
        have h := h.2
        refine alM_24 hF hK hP k92 d_Mo_refusal_92 ?_
        refine lv_icmp_ge (tgt := 108) hx hb d_Mo_refusal_93 (by decide) (fun c93 => ?_) (fun c93 => ?_)
        · have h := h.1 c93
          refine lv_iinc (v := v6 + 1) (lv' := [(6, .int (v6 + 1)), (0, .ref (L 0)), (1, .int a0), (2, .int a1), (3, .int a2), (4, .long u4)]) hx hb d_Mo_refusal_108 hl (k := 0) rfl rfl (by decide) rfl (fun ls hl => ?_)
          refine lv_goto (tgt := 65) hx hb d_Mo_refusal_111 (by decide) ?_
          have hv : g_Mo_refusal_65 ar sc a0 a1 a2 u4 (n + 1) v6 = g_Mo_refusal_65 ar sc a0 a1 a2 u4 n (v6 + 1) := by rw [g_Mo_refusal_65, if_neg c71, if_neg c82, if_pos c93]
          rw [hv]
          exact ih (v6 + 1) h ls (lv_sub hl [0, 1, 2, 3, 4, 5] rfl)
        · have h := h.2 c93
          refine lv_aload_n hx hb d_Mo_refusal_96 rfl (lv_at hl 1 rfl) ?_
          refine lv_iload hx hb d_Mo_refusal_97 (lv_at hl 0 rfl) ?_
          have k99 := h.1
          have h := h.2
          refine r_Mo_isNear hF hK hP k99 m_277 hl.1 ⟨Nat.le_of_ble_eq_true rfl, Nat.le_of_ble_eq_true rfl⟩ ⟨Nat.zero_le _, Nat.zero_le _⟩ (Nat.le_of_ble_eq_true rfl) d_Mo_refusal_99 ?_
          refine lv_if_eq (tgt := 108) hx hb d_Mo_refusal_102 (by decide) (fun c102 => ?_) (fun c102 => ?_)
          · have h := h.1 c102
            refine lv_iinc (v := v6 + 1) (lv' := [(6, .int (v6 + 1)), (0, .ref (L 0)), (1, .int a0), (2, .int a1), (3, .int a2), (4, .long u4)]) hx hb d_Mo_refusal_108 hl (k := 0) rfl rfl (by decide) rfl (fun ls hl => ?_)
            refine lv_goto (tgt := 65) hx hb d_Mo_refusal_111 (by decide) ?_
            have hv : g_Mo_refusal_65 ar sc a0 a1 a2 u4 (n + 1) v6 = g_Mo_refusal_65 ar sc a0 a1 a2 u4 n (v6 + 1) := by rw [g_Mo_refusal_65, if_neg c71, if_neg c82, if_neg c93, if_pos c102]
            rw [hv]
            exact ih (v6 + 1) h ls (lv_sub hl [0, 1, 2, 3, 4, 5] rfl)
          · have h := h.2 c102
            refine lv_iload hx hb d_Mo_refusal_105 (lv_at hl 0 rfl) ?_
            have hv : (v6 : Int32) = g_Mo_refusal_65 ar sc a0 a1 a2 u4 (n + 1) v6 := by rw [g_Mo_refusal_65, if_neg c71, if_neg c82, if_neg c93, if_neg c102]
            exact W.iret (v := v6) hx hb hr (fun t ht hW => ⟨congrArg (fun z => Outcome.returned (some (Value.int z))) hv, ht⟩) (fun _ h9 => nomatch h9) d_Mo_refusal_107
set_option maxHeartbeats 4000000 in
set_option maxRecDepth 100000 in
theorem c_Mo_refusal (l : Launch) (dC : Nat → ClassId) (dI : Nat → Nat → Nat) (L : Nat → Nat) (cA : Nat → ClassId) (ar : Nat → Nat → Int32) (sc : Nat → Int32) (a0 : Int32) (a1 : Int32) (a2 : Int32) (h : p_Mo_refusal ar sc a0 a1 a2) : Met l y_Mo_refusal z_Mo_refusal (rmD 2) (va_Pc [.ref (L 0), .int a0, .int a1, .int a2] (fun U => xw_M dC dI L cA ar sc U)) (QcRead (f_Mo_refusal ar sc a0 a1 a2)) 0 0 (fun _ => False) := by
  refine Met.ofW (cc := b_Mo_refusal) (maxL := 7) (ret := (some .int)) (by decide) rfl ?_
  intro p e s m args below meth c s₁ B hml hv
  obtain ⟨rfl, ⟨hP, hK⟩⟩ := hv
  have hx := B.exec
  have hb := B.bytes
  have hr := B.returns
  have hts : ∀ w ∈ w_all, w.before _ s = true := fun w hw => atoms_spec (ws := z_Mo_refusal) B.pre w (List.mem_cons_of_mem _ hw)
  have hown : s.vm.findClass R_Mo = some m.cls := findClass_of_methodNamed B.named
  have hlocks := B.notSynchronized
  have hF : CallFix p m c b_Mo_refusal 7 s _ w_all R_Mo := ⟨hx, hb, hml, hown, hts⟩
  have hl := lv_entry ([.ref (L 0), .int a0, .int a1, .int a2]) (n := 7) (Nat.le_of_ble_eq_true rfl)
  rw [lg_entry_eq]
  generalize (lg_sl ([.ref (L 0), .int a0, .int a1, .int a2]) ++ List.replicate (7 - (lg_sl ([.ref (L 0), .int a0, .int a1, .int a2])).length) Slot.unset).toArray = ls at hl ⊢
  have hl : lv_has ls 7 [(0, .ref (L 0)), (1, .int a0), (2, .int a1), (3, .int a2)] := hl
  unfold p_Mo_refusal at h
  refine lv_aload_n hx hb d_Mo_refusal_0 rfl (lv_at hl 0 rfl) ?_
  refine gf_Mo_ground hF hK hP m_278 d_Mo_refusal_1 ?_
  refine lv_if_ne (tgt := 10) hx hb d_Mo_refusal_4 (by decide) (fun c4 => ?_) (fun c4 => ?_)
  · have h := h.2 c4
    refine lv_aload_n hx hb d_Mo_refusal_10 rfl (lv_at hl 0 rfl) ?_
    refine gf_Mo_grounds hF hK hP m_268 d_Mo_refusal_11 ?_
    refine lv_bipush (v := 122) hx hb d_Mo_refusal_14 (by decide) ?_
    have k16 := h.1
    have h := h.2
    refine alM_22 hF hK hP k16 d_Mo_refusal_16 ?_
    refine lv_aload_n hx hb d_Mo_refusal_17 rfl (lv_at hl 0 rfl) ?_
    refine gf_Mo_grounds hF hK hP m_268 d_Mo_refusal_18 ?_
    refine lv_bipush (v := 120) hx hb d_Mo_refusal_21 (by decide) ?_
    have k23 := h.1
    have h := h.2
    refine alM_22 hF hK hP k23 d_Mo_refusal_23 ?_
    refine lv_isub hx hb d_Mo_refusal_24 ?_
    refine lv_i2l hx hb d_Mo_refusal_25 rfl ?_
    refine lv_aload_n hx hb d_Mo_refusal_26 rfl (lv_at hl 0 rfl) ?_
    refine gf_Mo_grounds hF hK hP m_268 d_Mo_refusal_27 ?_
    refine lv_bipush (v := 123) hx hb d_Mo_refusal_30 (by decide) ?_
    have k32 := h.1
    have h := h.2
    refine alM_22 hF hK hP k32 d_Mo_refusal_32 ?_
    refine lv_aload_n hx hb d_Mo_refusal_33 rfl (lv_at hl 0 rfl) ?_
    refine gf_Mo_grounds hF hK hP m_268 d_Mo_refusal_34 ?_
    refine lv_bipush (v := 121) hx hb d_Mo_refusal_37 (by decide) ?_
    have k39 := h.1
    have h := h.2
    refine alM_22 hF hK hP k39 d_Mo_refusal_39 ?_
    refine lv_isub hx hb d_Mo_refusal_40 ?_
    refine lv_i2l hx hb d_Mo_refusal_41 rfl ?_
    refine lv_lmul hx hb d_Mo_refusal_42 ?_
    refine lv_lstore (lv' := [(4, .long ((((ar 22 ((122 : Int32).toNatClampNeg)) - (ar 22 ((120 : Int32).toNatClampNeg))).toInt64) * (((ar 22 ((123 : Int32).toNatClampNeg)) - (ar 22 ((121 : Int32).toNatClampNeg))).toInt64))), (0, .ref (L 0)), (1, .int a0), (2, .int a1), (3, .int a2)]) hx hb d_Mo_refusal_43 hl (by decide) rfl (fun ls hl => ?_)
    refine lv_lload hx hb d_Mo_refusal_45 (lv_at hl 0 rfl) ?_
    refine lv_aload_n hx hb d_Mo_refusal_47 rfl (lv_at hl 1 rfl) ?_
    refine gf_Mo_space hF hK hP m_279 d_Mo_refusal_48 ?_
    refine lv_i2l hx hb d_Mo_refusal_51 rfl ?_
    refine lv_iload_n hx hb d_Mo_refusal_52 rfl (lv_at hl 4 rfl) ?_
    refine lv_i2l hx hb d_Mo_refusal_53 rfl ?_
    refine lv_lmul hx hb d_Mo_refusal_54 ?_
    refine W.lcmp hx hb d_Mo_refusal_55 ?_
    refine lv_if_ge (tgt := 62) hx hb d_Mo_refusal_56 (by decide) (fun c56 => ?_) (fun c56 => ?_)
    · have h := h.1 c56
      refine lv_iconst (v := 0) hx hb d_Mo_refusal_62 (by decide) ?_
      refine lv_istore (lv' := [(6, .int 0), (4, .long ((((ar 22 ((122 : Int32).toNatClampNeg)) - (ar 22 ((120 : Int32).toNatClampNeg))).toInt64) * (((ar 22 ((123 : Int32).toNatClampNeg)) - (ar 22 ((121 : Int32).toNatClampNeg))).toInt64))), (0, .ref (L 0)), (1, .int a0), (2, .int a1), (3, .int a2)]) hx hb d_Mo_refusal_63 hl (by decide) rfl (fun ls hl => ?_)
      have kL65 := h
      have hv : f_Mo_refusal ar sc a0 a1 a2 = g_Mo_refusal_65 ar sc a0 a1 a2 ((((ar 22 ((122 : Int32).toNatClampNeg)) - (ar 22 ((120 : Int32).toNatClampNeg))).toInt64) * (((ar 22 ((123 : Int32).toNatClampNeg)) - (ar 22 ((121 : Int32).toNatClampNeg))).toInt64)) 200 0 := by rw [f_Mo_refusal, if_neg c4, if_pos c56]
      rw [hv]
      exact l_Mo_refusal_65 a0 a1 a2 ((((ar 22 ((122 : Int32).toNatClampNeg)) - (ar 22 ((120 : Int32).toNatClampNeg))).toInt64) * (((ar 22 ((123 : Int32).toNatClampNeg)) - (ar 22 ((121 : Int32).toNatClampNeg))).toInt64)) hF hK hP hr hlocks 200 0 kL65 ls (lv_sub hl [0, 2, 3, 4, 5, 1] rfl)
    · have h := h.2 c56
      refine lv_bipush (v := (-3)) hx hb d_Mo_refusal_59 (by decide) ?_
      have hv : ((-3) : Int32) = f_Mo_refusal ar sc a0 a1 a2 := by rw [f_Mo_refusal, if_neg c4, if_neg c56]
      exact W.iret (v := (-3)) hx hb hr (fun t ht hW => ⟨congrArg (fun z => Outcome.returned (some (Value.int z))) hv, ht⟩) (fun _ h9 => nomatch h9) d_Mo_refusal_61
  · have h := h.1 c4
    refine lv_bipush (v := (-2)) hx hb d_Mo_refusal_7 (by decide) ?_
    have hv : ((-2) : Int32) = f_Mo_refusal ar sc a0 a1 a2 := by rw [f_Mo_refusal, if_pos c4]
    exact W.iret (v := (-2)) hx hb hr (fun t ht hW => ⟨congrArg (fun z => Outcome.returned (some (Value.int z))) hv, ht⟩) (fun _ h9 => nomatch h9) d_Mo_refusal_9
set_option maxHeartbeats 1000000 in
theorem r_Mo_refusal {p : Program} {l : Launch} {e : Env} {R : Room} {s : State} {m : MethodId} {args : Array Value} {below : List Frame} {meth : Method} {c : Code} {H : Heap} {locs : List Loc} {cells slots : Nat} {Q : State → Prop} {cc : ByteArray} {nL pc idx : Nat} {ls : Array Slot} {rest : List Value} {own : String} {dC : Nat → ClassId} {dI : Nat → Nat → Nat} {L : Nat → Nat} {cA : Nat → ClassId} {ar : Nat → Nat → Int32} {sc : Nat → Int32} {a0 : Int32} {a1 : Int32} {a2 : Int32} (hF : CallFix p m c cc nL s args w_all own) (hK : kW_M dC dI cA s) (hP : va_P (dC, dI) classes (wM L cA ar sc) H) (h : p_Mo_refusal ar sc a0 a1 a2) (hlk : Cond.methodLink own idx y_Mo_refusal ∈ w_all) (hsz : ls.size = nL) (hR : (rmD 2).frames + 1 ≤ R.frames ∧ 8 + (7 + 11) + (rmD 2).locals ≤ R.locals) (hc : cells ≤ R.cells ∧ slots ≤ R.slots) (hrs : (rest.map fun v => v.category).sum ≤ 8) (hdg : decode cc pc = .ok (.invokevirtual idx, 3)) (kk : W p l e R s m args below meth c H locs cells slots Q (F0 m (pc + 3) ls (.int (f_Mo_refusal ar sc a0 a1 a2) :: rest))) : W p l e R s m args below meth c H locs cells slots Q (F0 m pc ls (.int a2 :: .int a1 :: .int a0 :: .ref (L 0) :: rest)) :=
  W.callR (W.runV (As := [.int a0, .int a1, .int a2]) (rest := rest) hF (c_Mo_refusal l dC dI L cA ar sc a0 a1 a2 h) (cwV 3 hF.2.2.2.2 (gV hlk m_280 m_281 m_187 m_282) rfl rfl rfl (by decide +kernel) hR) ⟨xb_M, va_recv hK.1 hP (ci := 7) (q0 := 0) rfl rfl, fun U hU hW => ⟨rfl, by rw [hU]; exact hP, kW_M_warm hW hK⟩⟩ rfl rfl hsz rfl (lv_room hrs) hdg hc) kk
