theorem uw209 : Cond.fieldLink RR 45 "KinNumbersModel" "n" "I" ∈ uT := uk (um2 (List.mem_of_getElem? (i := 148) (by decide +kernel))) rfl
theorem uw210 : Cond.methodLink RR 49 yR_is ∈ uT := uk (um2 (List.mem_of_getElem? (i := 192) (by decide +kernel))) rfl
theorem uw211 : Cond.instanceMethod yR_is ∈ uT := uk (um2 (List.mem_of_getElem? (i := 194) (by decide +kernel))) rfl
theorem uw212 : Cond.selects RR yR_is yR_is ∈ uT := uk (um0 (List.mem_of_getElem? (i := 24) (by decide +kernel))) rfl
theorem uw213 : Cond.initialized RR ∈ uT := uk (um1 (List.mem_of_getElem? (i := 6) (by decide +kernel))) rfl
theorem uw214 : Cond.fieldLink RR 41 "KinNumbersModel" "kin" "[J" ∈ uT := uk (um2 (List.mem_of_getElem? (i := 160) (by decide +kernel))) rfl
theorem uw215 : Cond.fieldLink RR 32 "KinNumbersModel" "above" "[Z" ∈ uT := uk (um2 (List.mem_of_getElem? (i := 157) (by decide +kernel))) rfl
theorem uw216 : Cond.fieldLink RR 35 "KinNumbersModel" "steps" "[I" ∈ uT := uk (um2 (List.mem_of_getElem? (i := 158) (by decide +kernel))) rfl
theorem uw217 : Cond.fieldLink RR 7 "KinNumbersModel" "mother" "[I" ∈ uT := uk (um2 (List.mem_of_getElem? (i := 149) (by decide +kernel))) rfl
theorem uw218 : Cond.fieldLink RR 13 "KinNumbersModel" "father" "[I" ∈ uT := uk (um2 (List.mem_of_getElem? (i := 150) (by decide +kernel))) rfl
theorem uw219 : Cond.fieldLink RR 38 "KinNumbersModel" "row" "[I" ∈ uT := uk (um2 (List.mem_of_getElem? (i := 159) (by decide +kernel))) rfl
theorem uw220 : Cond.methodLink RR 53 yR_find ∈ uT := uk (um2 (List.mem_of_getElem? (i := 200) (by decide +kernel))) rfl
theorem uw221 : Cond.instanceMethod yR_find ∈ uT := uk (um2 (List.mem_of_getElem? (i := 202) (by decide +kernel))) rfl
theorem uw222 : Cond.selects RR yR_find yR_find ∈ uT := uk (um0 (List.mem_of_getElem? (i := 26) (by decide +kernel))) rfl
theorem uw223 : Cond.methodLink RR 56 yR_kinOf ∈ uT := uk (um3 (List.mem_of_getElem? (i := 1) (by decide +kernel))) rfl
theorem uw224 : Cond.instanceMethod yR_kinOf ∈ uT := uk (um3 (List.mem_of_getElem? (i := 3) (by decide +kernel))) rfl
theorem uw225 : Cond.selects RR yR_kinOf yR_kinOf ∈ uT := uk (um0 (List.mem_of_getElem? (i := 31) (by decide +kernel))) rfl
theorem uw226 : Cond.constantLong RR 60 (2) ∈ uT := uk (um3 (List.mem_of_getElem? (i := 5) (by decide +kernel))) rfl
theorem uw227 : Cond.constantLong RR 62 (1125899906842624) ∈ uT := uk (um3 (List.mem_of_getElem? (i := 6) (by decide +kernel))) rfl
theorem uw228 : Cond.fieldLink RR 29 "KinNumbersModel" "ring" "[I" ∈ uT := uk (um2 (List.mem_of_getElem? (i := 156) (by decide +kernel))) rfl
theorem uw229 : Cond.fieldLink RR 64 "KinNumbersModel" "rings" "I" ∈ uT := uk (um2 (List.mem_of_getElem? (i := 155) (by decide +kernel))) rfl
theorem uw230 : Cond.methodLink RR 67 yR_leads ∈ uT := uk (um2 (List.mem_of_getElem? (i := 204) (by decide +kernel))) rfl
theorem uw231 : Cond.instanceMethod yR_leads ∈ uT := uk (um2 (List.mem_of_getElem? (i := 206) (by decide +kernel))) rfl
theorem uw232 : Cond.selects RR yR_leads yR_leads ∈ uT := uk (um0 (List.mem_of_getElem? (i := 27) (by decide +kernel))) rfl
theorem uw233 : Cond.fieldLink RR 19 "KinNumbersModel" "day" "[I" ∈ uT := uk (um2 (List.mem_of_getElem? (i := 152) (by decide +kernel))) rfl
theorem uw234 : Cond.methodLink RR 71 yR_isOrNone ∈ uT := uk (um2 (List.mem_of_getElem? (i := 196) (by decide +kernel))) rfl
theorem uw235 : Cond.instanceMethod yR_isOrNone ∈ uT := uk (um2 (List.mem_of_getElem? (i := 198) (by decide +kernel))) rfl
theorem uw236 : Cond.selects RR yR_isOrNone yR_isOrNone ∈ uT := uk (um0 (List.mem_of_getElem? (i := 25) (by decide +kernel))) rfl
theorem uw237 : Cond.methodLink RR 78 yR_isOlder ∈ uT := uk (um2 (List.mem_of_getElem? (i := 212) (by decide +kernel))) rfl
theorem uw238 : Cond.instanceMethod yR_isOlder ∈ uT := uk (um2 (List.mem_of_getElem? (i := 214) (by decide +kernel))) rfl
theorem uw239 : Cond.selects RR yR_isOlder yR_isOlder ∈ uT := uk (um0 (List.mem_of_getElem? (i := 29) (by decide +kernel))) rfl
theorem uw240 : Cond.fieldLink RR 16 "KinNumbersModel" "sex" "[I" ∈ uT := uk (um2 (List.mem_of_getElem? (i := 151) (by decide +kernel))) rfl
theorem uw241 : Cond.methodLink RR 74 yR_tellRing ∈ uT := uk (um2 (List.mem_of_getElem? (i := 208) (by decide +kernel))) rfl
theorem uw242 : Cond.instanceMethod yR_tellRing ∈ uT := uk (um2 (List.mem_of_getElem? (i := 210) (by decide +kernel))) rfl
theorem uw243 : Cond.selects RR yR_tellRing yR_tellRing ∈ uT := uk (um0 (List.mem_of_getElem? (i := 28) (by decide +kernel))) rfl
theorem uw244 : Cond.constant RR 82 (99999) ∈ uT := uk (um2 (List.mem_of_getElem? (i := 224) (by decide +kernel))) rfl
theorem uw245 : Cond.fieldLink RR 22 "KinNumbersModel" "gone" "[Z" ∈ uT := uk (um2 (List.mem_of_getElem? (i := 153) (by decide +kernel))) rfl
theorem uw246 : Cond.constantLong RR 86 (-1) ∈ uT := uk (um2 (List.mem_of_getElem? (i := 236) (by decide +kernel))) rfl
theorem uw247 : Cond.methodLink RR 83 yR_isPart ∈ uT := uk (um2 (List.mem_of_getElem? (i := 233) (by decide +kernel))) rfl
theorem uw248 : Cond.static yR_isPart ∈ uT := uk (um2 (List.mem_of_getElem? (i := 234) (by decide +kernel))) rfl
theorem uw249 : Cond.methodLink RR 88 yR_findKin ∈ uT := uk (um2 (List.mem_of_getElem? (i := 237) (by decide +kernel))) rfl
theorem uw250 : Cond.instanceMethod yR_findKin ∈ uT := uk (um2 (List.mem_of_getElem? (i := 239) (by decide +kernel))) rfl
theorem uw251 : Cond.selects RR yR_findKin yR_findKin ∈ uT := uk (um0 (List.mem_of_getElem? (i := 30) (by decide +kernel))) rfl
theorem uw252 : Cond.methodLink RR 91 yR_lowest ∈ uT := uk (um3 (List.mem_of_getElem? (i := 7) (by decide +kernel))) rfl
theorem uw253 : Cond.static yR_lowest ∈ uT := uk (um3 (List.mem_of_getElem? (i := 8) (by decide +kernel))) rfl
theorem uw254 : Cond.methodLink RR 95 yR_inbredOf ∈ uT := uk (um3 (List.mem_of_getElem? (i := 14) (by decide +kernel))) rfl
theorem uw255 : Cond.instanceMethod yR_inbredOf ∈ uT := uk (um3 (List.mem_of_getElem? (i := 16) (by decide +kernel))) rfl
theorem uw256 : Cond.selects RR yR_inbredOf yR_inbredOf ∈ uT := uk (um0 (List.mem_of_getElem? (i := 32) (by decide +kernel))) rfl
theorem uw257 : Cond.constantLong RR 99 (4503599627370496) ∈ uT := uk (um3 (List.mem_of_getElem? (i := 22) (by decide +kernel))) rfl
theorem uw258 : Cond.methodLink RR 101 yR_isFounder ∈ uT := uk (um3 (List.mem_of_getElem? (i := 27) (by decide +kernel))) rfl
theorem uw259 : Cond.instanceMethod yR_isFounder ∈ uT := uk (um3 (List.mem_of_getElem? (i := 29) (by decide +kernel))) rfl
theorem uw260 : Cond.selects RR yR_isFounder yR_isFounder ∈ uT := uk (um0 (List.mem_of_getElem? (i := 33) (by decide +kernel))) rfl
theorem uw261 : Cond.fieldLink RR 26 "KinNumbersModel" "form" "[I" ∈ uT := uk (um2 (List.mem_of_getElem? (i := 154) (by decide +kernel))) rfl
theorem uw262 : Cond.methodLink RR 104 yR_isLeftOut ∈ uT := uk (um3 (List.mem_of_getElem? (i := 47) (by decide +kernel))) rfl
theorem uw263 : Cond.instanceMethod yR_isLeftOut ∈ uT := uk (um3 (List.mem_of_getElem? (i := 49) (by decide +kernel))) rfl
theorem uw264 : Cond.selects RR yR_isLeftOut yR_isLeftOut ∈ uT := uk (um0 (List.mem_of_getElem? (i := 34) (by decide +kernel))) rfl
theorem uw265 : Cond.constantLong RR 107 (4) ∈ uT := uk (um3 (List.mem_of_getElem? (i := 55) (by decide +kernel))) rfl
