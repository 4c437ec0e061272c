def tbZ : List Cond := lw_tbl.filter goodWord
theorem tb_in : GoodIn tbZ tbZ := fun w hw => ⟨hw, good_of_word (List.mem_filter.mp hw).2⟩
theorem tb_lw : ∀ w ∈ tbZ, w ∈ lw_tbl := fun w hw => (List.mem_filter.mp hw).1
theorem inZ1 : ∀ w ∈ u_ws RX1 TX1 13, w ∈ tbZ := fun w h => List.mem_filter.mpr ⟨inX1 w h, (by decide +kernel : ∀ w ∈ u_ws RX1 TX1 13, goodWord w = true) w h⟩
theorem kgV {big : List Cond} {own C : String} {idx : Nat} {y : MethodName} {c : Cond} (hb : ∀ w ∈ tbZ, w ∈ big) (h1 : Cond.methodLink own idx y ∈ tbZ) (h2 : Cond.instanceMethod y ∈ tbZ) (h3 : Cond.selects C y y ∈ tbZ) (h4 : Cond.initialized C ∈ tbZ) (h5 : c ∈ tbZ) : GoodIn big (wsV own idx C y (c :: tbZ)) := by
  have g : ∀ w ∈ tbZ, w ∈ big ∧ ((w.onTables && w.keeps) = true ∨ ∃ ty, w = .arrayClass ty) := fun w h => ⟨hb w h, (tb_in w h).2⟩
  intro w hw
  rcases List.mem_append.mp hw with q | q
  · simp only [List.mem_cons, List.not_mem_nil, or_false] at q
    rcases q with rfl | rfl | rfl | rfl
    · exact g _ h1
    · exact g _ h2
    · exact g _ h3
    · exact g _ h4
  · rcases List.mem_cons.mp q with rfl | q
    · exact g _ h5
    · exact g _ q
theorem kgS {big : List Cond} {own : String} {idx : Nat} {y : MethodName} {c : Cond} (hb : ∀ w ∈ tbZ, w ∈ big) (h1 : Cond.methodLink own idx y ∈ tbZ) (h2 : Cond.static y ∈ tbZ) (h4 : Cond.initialized own ∈ tbZ) (h5 : c ∈ tbZ) : GoodIn big (wsS own idx y (c :: tbZ)) := by
  have g : ∀ w ∈ tbZ, w ∈ big ∧ ((w.onTables && w.keeps) = true ∨ ∃ ty, w = .arrayClass ty) := fun w h => ⟨hb w h, (tb_in w h).2⟩
  intro w hw
  rcases List.mem_append.mp hw with q | q
  · simp only [List.mem_cons, List.not_mem_nil, or_false] at q
    rcases q with rfl | rfl | rfl
    · exact g _ h1
    · exact g _ h2
    · exact g _ h4
  · rcases List.mem_cons.mp q with rfl | q
    · exact g _ h5
    · exact g _ q
theorem tk_iniM : Cond.initialized RX1 ∈ tbZ := List.mem_filter.mpr ⟨List.mem_of_getElem? (i := 23) (by decide +kernel), rfl⟩
theorem tk_code_isKind : Cond.code yX1_isKind cX1_isKind 2 (some .boolean) ∈ tbZ := List.mem_filter.mpr ⟨List.mem_of_getElem? (i := 254) rfl, rfl⟩
theorem tk_im_isKind : Cond.instanceMethod yX1_isKind ∈ tbZ := List.mem_filter.mpr ⟨List.mem_of_getElem? (i := 253) (by decide +kernel), rfl⟩
theorem tk_se_isKind : Cond.selects RX1 yX1_isKind yX1_isKind ∈ tbZ := List.mem_filter.mpr ⟨List.mem_of_getElem? (i := 12) (by decide +kernel), rfl⟩
def wsZ1_isKind : List Cond := .code yX1_isKind cX1_isKind 2 (some .boolean) :: tbZ
theorem tk_code_isPlain : Cond.code yX1_isPlain cX1_isPlain 1 (some .boolean) ∈ tbZ := List.mem_filter.mpr ⟨List.mem_of_getElem? (i := 280) rfl, rfl⟩
theorem tk_st_isPlain : Cond.static yX1_isPlain ∈ tbZ := List.mem_filter.mpr ⟨List.mem_of_getElem? (i := 279) (by decide +kernel), rfl⟩
def wsZ1_isPlain : List Cond := .code yX1_isPlain cX1_isPlain 1 (some .boolean) :: tbZ
theorem tk_code_isReference : Cond.code yX1_isReference cX1_isReference 1 (some .boolean) ∈ tbZ := List.mem_filter.mpr ⟨List.mem_of_getElem? (i := 265) rfl, rfl⟩
theorem tk_st_isReference : Cond.static yX1_isReference ∈ tbZ := List.mem_filter.mpr ⟨List.mem_of_getElem? (i := 264) (by decide +kernel), rfl⟩
def wsZ1_isReference : List Cond := .code yX1_isReference cX1_isReference 1 (some .boolean) :: tbZ
theorem tk_code_isBox : Cond.code yX1_isBox cX1_isBox 1 (some .boolean) ∈ tbZ := List.mem_filter.mpr ⟨List.mem_of_getElem? (i := 286) rfl, rfl⟩
theorem tk_st_isBox : Cond.static yX1_isBox ∈ tbZ := List.mem_filter.mpr ⟨List.mem_of_getElem? (i := 285) (by decide +kernel), rfl⟩
def wsZ1_isBox : List Cond := .code yX1_isBox cX1_isBox 1 (some .boolean) :: tbZ
theorem tk_code_isBelow : Cond.code yX1_isBelow cX1_isBelow 4 (some .boolean) ∈ tbZ := List.mem_filter.mpr ⟨List.mem_of_getElem? (i := 262) rfl, rfl⟩
theorem tk_im_isBelow : Cond.instanceMethod yX1_isBelow ∈ tbZ := List.mem_filter.mpr ⟨List.mem_of_getElem? (i := 261) (by decide +kernel), rfl⟩
theorem tk_se_isBelow : Cond.selects RX1 yX1_isBelow yX1_isBelow ∈ tbZ := List.mem_filter.mpr ⟨List.mem_of_getElem? (i := 13) (by decide +kernel), rfl⟩
def wsZ1_isBelow : List Cond := .code yX1_isBelow cX1_isBelow 4 (some .boolean) :: tbZ
theorem tk_code_widens : Cond.code yX1_widens cX1_widens 2 (some .boolean) ∈ tbZ := List.mem_filter.mpr ⟨List.mem_of_getElem? (i := 283) rfl, rfl⟩
theorem tk_st_widens : Cond.static yX1_widens ∈ tbZ := List.mem_filter.mpr ⟨List.mem_of_getElem? (i := 282) (by decide +kernel), rfl⟩
def wsZ1_widens : List Cond := .code yX1_widens cX1_widens 2 (some .boolean) :: tbZ
theorem tk_code_mayPass : Cond.code yX1_mayPass cX1_mayPass 5 (some .boolean) ∈ tbZ := List.mem_filter.mpr ⟨List.mem_of_getElem? (i := 277) rfl, rfl⟩
theorem tk_im_mayPass : Cond.instanceMethod yX1_mayPass ∈ tbZ := List.mem_filter.mpr ⟨List.mem_of_getElem? (i := 276) (by decide +kernel), rfl⟩
theorem tk_se_mayPass : Cond.selects RX1 yX1_mayPass yX1_mayPass ∈ tbZ := List.mem_filter.mpr ⟨List.mem_of_getElem? (i := 14) (by decide +kernel), rfl⟩
def wsZ1_mayPass : List Cond := .code yX1_mayPass cX1_mayPass 5 (some .boolean) :: tbZ
theorem tk_code_forcedTo : Cond.code yX1_forcedTo cX1_forcedTo 3 (some .long) ∈ tbZ := List.mem_filter.mpr ⟨List.mem_of_getElem? (i := 297) rfl, rfl⟩
theorem tk_st_forcedTo : Cond.static yX1_forcedTo ∈ tbZ := List.mem_filter.mpr ⟨List.mem_of_getElem? (i := 296) (by decide +kernel), rfl⟩
def wsZ1_forcedTo : List Cond := .code yX1_forcedTo cX1_forcedTo 3 (some .long) :: tbZ
theorem tk_code_findType : Cond.code yX1_findType cX1_findType 6 (some .int) ∈ tbZ := List.mem_filter.mpr ⟨List.mem_of_getElem? (i := 330) rfl, rfl⟩
theorem tk_im_findType : Cond.instanceMethod yX1_findType ∈ tbZ := List.mem_filter.mpr ⟨List.mem_of_getElem? (i := 329) (by decide +kernel), rfl⟩
theorem tk_se_findType : Cond.selects RX1 yX1_findType yX1_findType ∈ tbZ := List.mem_filter.mpr ⟨List.mem_of_getElem? (i := 18) (by decide +kernel), rfl⟩
def wsZ1_findType : List Cond := .code yX1_findType cX1_findType 6 (some .int) :: tbZ
theorem tk_code_madeType : Cond.code yX1_madeType cX1_madeType 3 (some .int) ∈ tbZ := List.mem_filter.mpr ⟨List.mem_of_getElem? (i := 326) rfl, rfl⟩
theorem tk_im_madeType : Cond.instanceMethod yX1_madeType ∈ tbZ := List.mem_filter.mpr ⟨List.mem_of_getElem? (i := 325) (by decide +kernel), rfl⟩
theorem tk_se_madeType : Cond.selects RX1 yX1_madeType yX1_madeType ∈ tbZ := List.mem_filter.mpr ⟨List.mem_of_getElem? (i := 17) (by decide +kernel), rfl⟩
def wsZ1_madeType : List Cond := .code yX1_madeType cX1_madeType 3 (some .int) :: tbZ
theorem tk_code_isType : Cond.code yX1_isType cX1_isType 2 (some .boolean) ∈ tbZ := List.mem_filter.mpr ⟨List.mem_of_getElem? (i := 338) rfl, rfl⟩
theorem tk_im_isType : Cond.instanceMethod yX1_isType ∈ tbZ := List.mem_filter.mpr ⟨List.mem_of_getElem? (i := 337) (by decide +kernel), rfl⟩
theorem tk_se_isType : Cond.selects RX1 yX1_isType yX1_isType ∈ tbZ := List.mem_filter.mpr ⟨List.mem_of_getElem? (i := 19) (by decide +kernel), rfl⟩
def wsZ1_isType : List Cond := .code yX1_isType cX1_isType 2 (some .boolean) :: tbZ
theorem tk_code_isNumber : Cond.code yX1_isNumber cX1_isNumber 3 (some .boolean) ∈ tbZ := List.mem_filter.mpr ⟨List.mem_of_getElem? (i := 294) rfl, rfl⟩
theorem tk_st_isNumber : Cond.static yX1_isNumber ∈ tbZ := List.mem_filter.mpr ⟨List.mem_of_getElem? (i := 293) (by decide +kernel), rfl⟩
def wsZ1_isNumber : List Cond := .code yX1_isNumber cX1_isNumber 3 (some .boolean) :: tbZ
theorem tk_code_isObject : Cond.code yX1_isObject cX1_isObject 2 (some .boolean) ∈ tbZ := List.mem_filter.mpr ⟨List.mem_of_getElem? (i := 306) rfl, rfl⟩
theorem tk_im_isObject : Cond.instanceMethod yX1_isObject ∈ tbZ := List.mem_filter.mpr ⟨List.mem_of_getElem? (i := 305) (by decide +kernel), rfl⟩
theorem tk_se_isObject : Cond.selects RX1 yX1_isObject yX1_isObject ∈ tbZ := List.mem_filter.mpr ⟨List.mem_of_getElem? (i := 16) (by decide +kernel), rfl⟩
def wsZ1_isObject : List Cond := .code yX1_isObject cX1_isObject 2 (some .boolean) :: tbZ
theorem tk_code_newClass : Cond.code yX1_newClass cX1_newClass 2 (some .int) ∈ tbZ := List.mem_filter.mpr ⟨List.mem_of_getElem? (i := 250) rfl, rfl⟩
theorem tk_im_newClass : Cond.instanceMethod yX1_newClass ∈ tbZ := List.mem_filter.mpr ⟨List.mem_of_getElem? (i := 248) (by decide +kernel), rfl⟩
theorem tk_se_newClass : Cond.selects RX1 yX1_newClass yX1_newClass ∈ tbZ := List.mem_filter.mpr ⟨List.mem_of_getElem? (i := 249) (by decide +kernel), rfl⟩
def wsZ1_newClass : List Cond := .code yX1_newClass cX1_newClass 2 (some .int) :: tbZ
theorem tk_code_below : Cond.code yX1_below cX1_below 3 (some .boolean) ∈ tbZ := List.mem_filter.mpr ⟨List.mem_of_getElem? (i := 258) rfl, rfl⟩
theorem tk_im_below : Cond.instanceMethod yX1_below ∈ tbZ := List.mem_filter.mpr ⟨List.mem_of_getElem? (i := 256) (by decide +kernel), rfl⟩
theorem tk_se_below : Cond.selects RX1 yX1_below yX1_below ∈ tbZ := List.mem_filter.mpr ⟨List.mem_of_getElem? (i := 257) (by decide +kernel), rfl⟩
def wsZ1_below : List Cond := .code yX1_below cX1_below 3 (some .boolean) :: tbZ
theorem tk_code_meet : Cond.code yX1_meet cX1_meet 6 (some .int) ∈ tbZ := List.mem_filter.mpr ⟨List.mem_of_getElem? (i := 269) rfl, rfl⟩
theorem tk_im_meet : Cond.instanceMethod yX1_meet ∈ tbZ := List.mem_filter.mpr ⟨List.mem_of_getElem? (i := 267) (by decide +kernel), rfl⟩
theorem tk_se_meet : Cond.selects RX1 yX1_meet yX1_meet ∈ tbZ := List.mem_filter.mpr ⟨List.mem_of_getElem? (i := 268) (by decide +kernel), rfl⟩
def wsZ1_meet : List Cond := .code yX1_meet cX1_meet 6 (some .int) :: tbZ
theorem tk_code_may : Cond.code yX1_may cX1_may 5 (some .boolean) ∈ tbZ := List.mem_filter.mpr ⟨List.mem_of_getElem? (i := 273) rfl, rfl⟩
theorem tk_im_may : Cond.instanceMethod yX1_may ∈ tbZ := List.mem_filter.mpr ⟨List.mem_of_getElem? (i := 271) (by decide +kernel), rfl⟩
theorem tk_se_may : Cond.selects RX1 yX1_may yX1_may ∈ tbZ := List.mem_filter.mpr ⟨List.mem_of_getElem? (i := 272) (by decide +kernel), rfl⟩
def wsZ1_may : List Cond := .code yX1_may cX1_may 5 (some .boolean) :: tbZ
theorem tk_code_kept : Cond.code yX1_kept cX1_kept 4 (some .int) ∈ tbZ := List.mem_filter.mpr ⟨List.mem_of_getElem? (i := 302) rfl, rfl⟩
theorem tk_im_kept : Cond.instanceMethod yX1_kept ∈ tbZ := List.mem_filter.mpr ⟨List.mem_of_getElem? (i := 301) (by decide +kernel), rfl⟩
theorem tk_se_kept : Cond.selects RX1 yX1_kept yX1_kept ∈ tbZ := List.mem_filter.mpr ⟨List.mem_of_getElem? (i := 15) (by decide +kernel), rfl⟩
def wsZ1_kept : List Cond := .code yX1_kept cX1_kept 4 (some .int) :: tbZ
theorem tk_code_pass : Cond.code yX1_pass cX1_pass 7 (some .int) ∈ tbZ := List.mem_filter.mpr ⟨List.mem_of_getElem? (i := 290) rfl, rfl⟩
theorem tk_im_pass : Cond.instanceMethod yX1_pass ∈ tbZ := List.mem_filter.mpr ⟨List.mem_of_getElem? (i := 288) (by decide +kernel), rfl⟩
theorem tk_se_pass : Cond.selects RX1 yX1_pass yX1_pass ∈ tbZ := List.mem_filter.mpr ⟨List.mem_of_getElem? (i := 289) (by decide +kernel), rfl⟩
def wsZ1_pass : List Cond := .code yX1_pass cX1_pass 7 (some .int) :: tbZ
theorem tk_code_kind : Cond.code yX1_kind cX1_kind 1 (some .int) ∈ tbZ := List.mem_filter.mpr ⟨List.mem_of_getElem? (i := 310) rfl, rfl⟩
theorem tk_im_kind : Cond.instanceMethod yX1_kind ∈ tbZ := List.mem_filter.mpr ⟨List.mem_of_getElem? (i := 308) (by decide +kernel), rfl⟩
theorem tk_se_kind : Cond.selects RX1 yX1_kind yX1_kind ∈ tbZ := List.mem_filter.mpr ⟨List.mem_of_getElem? (i := 309) (by decide +kernel), rfl⟩
def wsZ1_kind : List Cond := .code yX1_kind cX1_kind 1 (some .int) :: tbZ
theorem tk_code_number : Cond.code yX1_number cX1_number 1 (some .long) ∈ tbZ := List.mem_filter.mpr ⟨List.mem_of_getElem? (i := 314) rfl, rfl⟩
theorem tk_im_number : Cond.instanceMethod yX1_number ∈ tbZ := List.mem_filter.mpr ⟨List.mem_of_getElem? (i := 312) (by decide +kernel), rfl⟩
theorem tk_se_number : Cond.selects RX1 yX1_number yX1_number ∈ tbZ := List.mem_filter.mpr ⟨List.mem_of_getElem? (i := 313) (by decide +kernel), rfl⟩
def wsZ1_number : List Cond := .code yX1_number cX1_number 1 (some .long) :: tbZ
theorem tk_code_put : Cond.code yX1_put cX1_put 2 (some .boolean) ∈ tbZ := List.mem_filter.mpr ⟨List.mem_of_getElem? (i := 318) rfl, rfl⟩
theorem tk_im_put : Cond.instanceMethod yX1_put ∈ tbZ := List.mem_filter.mpr ⟨List.mem_of_getElem? (i := 316) (by decide +kernel), rfl⟩
theorem tk_se_put : Cond.selects RX1 yX1_put yX1_put ∈ tbZ := List.mem_filter.mpr ⟨List.mem_of_getElem? (i := 317) (by decide +kernel), rfl⟩
def wsZ1_put : List Cond := .code yX1_put cX1_put 2 (some .boolean) :: tbZ
theorem tk_code_type : Cond.code yX1_type cX1_type 5 (some .int) ∈ tbZ := List.mem_filter.mpr ⟨List.mem_of_getElem? (i := 322) rfl, rfl⟩
theorem tk_im_type : Cond.instanceMethod yX1_type ∈ tbZ := List.mem_filter.mpr ⟨List.mem_of_getElem? (i := 320) (by decide +kernel), rfl⟩
theorem tk_se_type : Cond.selects RX1 yX1_type yX1_type ∈ tbZ := List.mem_filter.mpr ⟨List.mem_of_getElem? (i := 321) (by decide +kernel), rfl⟩
def wsZ1_type : List Cond := .code yX1_type cX1_type 5 (some .int) :: tbZ
theorem tk_code_typeAbout : Cond.code yX1_typeAbout cX1_typeAbout 3 (some .int) ∈ tbZ := List.mem_filter.mpr ⟨List.mem_of_getElem? (i := 334) rfl, rfl⟩
theorem tk_im_typeAbout : Cond.instanceMethod yX1_typeAbout ∈ tbZ := List.mem_filter.mpr ⟨List.mem_of_getElem? (i := 332) (by decide +kernel), rfl⟩
theorem tk_se_typeAbout : Cond.selects RX1 yX1_typeAbout yX1_typeAbout ∈ tbZ := List.mem_filter.mpr ⟨List.mem_of_getElem? (i := 333) (by decide +kernel), rfl⟩
def wsZ1_typeAbout : List Cond := .code yX1_typeAbout cX1_typeAbout 3 (some .int) :: tbZ
theorem tk_code_mayBe : Cond.code yX1_mayBe cX1_mayBe 5 (some .boolean) ∈ tbZ := List.mem_filter.mpr ⟨List.mem_of_getElem? (i := 342) rfl, rfl⟩
theorem tk_im_mayBe : Cond.instanceMethod yX1_mayBe ∈ tbZ := List.mem_filter.mpr ⟨List.mem_of_getElem? (i := 340) (by decide +kernel), rfl⟩
theorem tk_se_mayBe : Cond.selects RX1 yX1_mayBe yX1_mayBe ∈ tbZ := List.mem_filter.mpr ⟨List.mem_of_getElem? (i := 341) (by decide +kernel), rfl⟩
def wsZ1_mayBe : List Cond := .code yX1_mayBe cX1_mayBe 5 (some .boolean) :: tbZ
theorem tk_code_changed : Cond.code yX1_changed cX1_changed 6 (some .int) ∈ tbZ := List.mem_filter.mpr ⟨List.mem_of_getElem? (i := 346) rfl, rfl⟩
theorem tk_im_changed : Cond.instanceMethod yX1_changed ∈ tbZ := List.mem_filter.mpr ⟨List.mem_of_getElem? (i := 344) (by decide +kernel), rfl⟩
theorem tk_se_changed : Cond.selects RX1 yX1_changed yX1_changed ∈ tbZ := List.mem_filter.mpr ⟨List.mem_of_getElem? (i := 345) (by decide +kernel), rfl⟩
def wsZ1_changed : List Cond := .code yX1_changed cX1_changed 6 (some .int) :: tbZ
theorem tk_code_add : Cond.code yX1_add cX1_add 2 none ∈ tbZ := List.mem_filter.mpr ⟨List.mem_of_getElem? (i := 350) rfl, rfl⟩
theorem tk_im_add : Cond.instanceMethod yX1_add ∈ tbZ := List.mem_filter.mpr ⟨List.mem_of_getElem? (i := 349) (by decide +kernel), rfl⟩
theorem tk_se_add : Cond.selects RX1 yX1_add yX1_add ∈ tbZ := List.mem_filter.mpr ⟨List.mem_of_getElem? (i := 20) (by decide +kernel), rfl⟩
def wsZ1_add : List Cond := .code yX1_add cX1_add 2 none :: tbZ
theorem tk_cl_49 : Cond.constantLong RX1 49 65535 ∈ tbZ := List.mem_filter.mpr ⟨List.mem_of_getElem? (i := 298) (by decide +kernel), rfl⟩
theorem tk_fl_13 : Cond.fieldLink RX1 13 "KindTableModel" "typeResult" "[I" ∈ tbZ := List.mem_filter.mpr ⟨List.mem_of_getElem? (i := 209) (by decide +kernel), rfl⟩
theorem tk_fl_16 : Cond.fieldLink RX1 16 "KindTableModel" "typeMany" "[I" ∈ tbZ := List.mem_filter.mpr ⟨List.mem_of_getElem? (i := 210) (by decide +kernel), rfl⟩
theorem tk_fl_19 : Cond.fieldLink RX1 19 "KindTableModel" "typePlace" "[I" ∈ tbZ := List.mem_filter.mpr ⟨List.mem_of_getElem? (i := 211) (by decide +kernel), rfl⟩
theorem tk_fl_22 : Cond.fieldLink RX1 22 "KindTableModel" "row" "[I" ∈ tbZ := List.mem_filter.mpr ⟨List.mem_of_getElem? (i := 213) (by decide +kernel), rfl⟩
theorem tk_fl_25 : Cond.fieldLink RX1 25 "KindTableModel" "newPlace" "[I" ∈ tbZ := List.mem_filter.mpr ⟨List.mem_of_getElem? (i := 217) (by decide +kernel), rfl⟩
theorem tk_fl_28 : Cond.fieldLink RX1 28 "KindTableModel" "classes" "I" ∈ tbZ := List.mem_filter.mpr ⟨List.mem_of_getElem? (i := 208) (by decide +kernel), rfl⟩
theorem tk_fl_51 : Cond.fieldLink RX1 51 "KindTableModel" "types" "I" ∈ tbZ := List.mem_filter.mpr ⟨List.mem_of_getElem? (i := 212) (by decide +kernel), rfl⟩
theorem tk_fl_54 : Cond.fieldLink RX1 54 "KindTableModel" "newMany" "I" ∈ tbZ := List.mem_filter.mpr ⟨List.mem_of_getElem? (i := 216) (by decide +kernel), rfl⟩
theorem tk_fl_57 : Cond.fieldLink RX1 57 "KindTableModel" "newResult" "I" ∈ tbZ := List.mem_filter.mpr ⟨List.mem_of_getElem? (i := 215) (by decide +kernel), rfl⟩
theorem tk_fl_7 : Cond.fieldLink RX1 7 "KindTableModel" "parent" "[I" ∈ tbZ := List.mem_filter.mpr ⟨List.mem_of_getElem? (i := 207) (by decide +kernel), rfl⟩
theorem tk_fl_75 : Cond.fieldLink RX1 75 "KindTableModel" "keptKind" "I" ∈ tbZ := List.mem_filter.mpr ⟨List.mem_of_getElem? (i := 218) (by decide +kernel), rfl⟩
theorem tk_fl_78 : Cond.fieldLink RX1 78 "KindTableModel" "keptNumber" "J" ∈ tbZ := List.mem_filter.mpr ⟨List.mem_of_getElem? (i := 219) (by decide +kernel), rfl⟩
theorem tk_fl_96 : Cond.fieldLink RX1 96 "KindTableModel" "rowSize" "I" ∈ tbZ := List.mem_filter.mpr ⟨List.mem_of_getElem? (i := 214) (by decide +kernel), rfl⟩
theorem tk_ml_L_17 : Cond.methodLink RL 17 yX1_newClass ∈ tbZ := List.mem_filter.mpr ⟨List.mem_of_getElem? (i := 247) (by decide +kernel), rfl⟩
theorem gZL_newClass : GoodIn lw_tbl (wsV RL 17 RX1 yX1_newClass wsZ1_newClass) := kgV tb_lw tk_ml_L_17 tk_im_newClass tk_se_newClass tk_iniM tk_code_newClass
theorem tk_ml_L_22 : Cond.methodLink RL 22 yX1_below ∈ tbZ := List.mem_filter.mpr ⟨List.mem_of_getElem? (i := 255) (by decide +kernel), rfl⟩
theorem gZL_below : GoodIn lw_tbl (wsV RL 22 RX1 yX1_below wsZ1_below) := kgV tb_lw tk_ml_L_22 tk_im_below tk_se_below tk_iniM tk_code_below
theorem tk_ml_L_27 : Cond.methodLink RL 27 yX1_meet ∈ tbZ := List.mem_filter.mpr ⟨List.mem_of_getElem? (i := 266) (by decide +kernel), rfl⟩
theorem gZL_meet : GoodIn lw_tbl (wsV RL 27 RX1 yX1_meet wsZ1_meet) := kgV tb_lw tk_ml_L_27 tk_im_meet tk_se_meet tk_iniM tk_code_meet
theorem tk_ml_L_32 : Cond.methodLink RL 32 yX1_may ∈ tbZ := List.mem_filter.mpr ⟨List.mem_of_getElem? (i := 270) (by decide +kernel), rfl⟩
theorem gZL_may : GoodIn lw_tbl (wsV RL 32 RX1 yX1_may wsZ1_may) := kgV tb_lw tk_ml_L_32 tk_im_may tk_se_may tk_iniM tk_code_may
theorem tk_ml_L_39 : Cond.methodLink RL 39 yX1_pass ∈ tbZ := List.mem_filter.mpr ⟨List.mem_of_getElem? (i := 287) (by decide +kernel), rfl⟩
theorem gZL_pass : GoodIn lw_tbl (wsV RL 39 RX1 yX1_pass wsZ1_pass) := kgV tb_lw tk_ml_L_39 tk_im_pass tk_se_pass tk_iniM tk_code_pass
theorem tk_ml_L_44 : Cond.methodLink RL 44 yX1_kind ∈ tbZ := List.mem_filter.mpr ⟨List.mem_of_getElem? (i := 307) (by decide +kernel), rfl⟩
theorem gZL_kind : GoodIn lw_tbl (wsV RL 44 RX1 yX1_kind wsZ1_kind) := kgV tb_lw tk_ml_L_44 tk_im_kind tk_se_kind tk_iniM tk_code_kind
theorem tk_ml_L_49 : Cond.methodLink RL 49 yX1_number ∈ tbZ := List.mem_filter.mpr ⟨List.mem_of_getElem? (i := 311) (by decide +kernel), rfl⟩
theorem gZL_number : GoodIn lw_tbl (wsV RL 49 RX1 yX1_number wsZ1_number) := kgV tb_lw tk_ml_L_49 tk_im_number tk_se_number tk_iniM tk_code_number
theorem tk_ml_L_54 : Cond.methodLink RL 54 yX1_put ∈ tbZ := List.mem_filter.mpr ⟨List.mem_of_getElem? (i := 315) (by decide +kernel), rfl⟩
theorem gZL_put : GoodIn lw_tbl (wsV RL 54 RX1 yX1_put wsZ1_put) := kgV tb_lw tk_ml_L_54 tk_im_put tk_se_put tk_iniM tk_code_put
theorem tk_ml_L_58 : Cond.methodLink RL 58 yX1_type ∈ tbZ := List.mem_filter.mpr ⟨List.mem_of_getElem? (i := 319) (by decide +kernel), rfl⟩
theorem gZL_type : GoodIn lw_tbl (wsV RL 58 RX1 yX1_type wsZ1_type) := kgV tb_lw tk_ml_L_58 tk_im_type tk_se_type tk_iniM tk_code_type
theorem tk_ml_L_62 : Cond.methodLink RL 62 yX1_typeAbout ∈ tbZ := List.mem_filter.mpr ⟨List.mem_of_getElem? (i := 331) (by decide +kernel), rfl⟩
theorem gZL_typeAbout : GoodIn lw_tbl (wsV RL 62 RX1 yX1_typeAbout wsZ1_typeAbout) := kgV tb_lw tk_ml_L_62 tk_im_typeAbout tk_se_typeAbout tk_iniM tk_code_typeAbout
theorem tk_ml_L_67 : Cond.methodLink RL 67 yX1_mayBe ∈ tbZ := List.mem_filter.mpr ⟨List.mem_of_getElem? (i := 339) (by decide +kernel), rfl⟩
theorem gZL_mayBe : GoodIn lw_tbl (wsV RL 67 RX1 yX1_mayBe wsZ1_mayBe) := kgV tb_lw tk_ml_L_67 tk_im_mayBe tk_se_mayBe tk_iniM tk_code_mayBe
theorem tk_ml_L_72 : Cond.methodLink RL 72 yX1_changed ∈ tbZ := List.mem_filter.mpr ⟨List.mem_of_getElem? (i := 343) (by decide +kernel), rfl⟩
theorem gZL_changed : GoodIn lw_tbl (wsV RL 72 RX1 yX1_changed wsZ1_changed) := kgV tb_lw tk_ml_L_72 tk_im_changed tk_se_changed tk_iniM tk_code_changed
theorem tk_ml_X1_103 : Cond.methodLink RX1 103 yX1_isType ∈ tbZ := List.mem_filter.mpr ⟨List.mem_of_getElem? (i := 335) (by decide +kernel), rfl⟩
theorem gZ_changed_isType : GoodIn wsZ1_changed (wsV RX1 103 RX1 yX1_isType wsZ1_isType) := kgV (fun w h => List.mem_cons_of_mem _ h) tk_ml_X1_103 tk_im_isType tk_se_isType tk_iniM tk_code_isType
theorem gZ_mayBe_isType : GoodIn wsZ1_mayBe (wsV RX1 103 RX1 yX1_isType wsZ1_isType) := kgV (fun w h => List.mem_cons_of_mem _ h) tk_ml_X1_103 tk_im_isType tk_se_isType tk_iniM tk_code_isType
theorem gZ_typeAbout_isType : GoodIn wsZ1_typeAbout (wsV RX1 103 RX1 yX1_isType wsZ1_isType) := kgV (fun w h => List.mem_cons_of_mem _ h) tk_ml_X1_103 tk_im_isType tk_se_isType tk_iniM tk_code_isType
theorem tk_ml_X1_106 : Cond.methodLink RX1 106 yX1_add ∈ tbZ := List.mem_filter.mpr ⟨List.mem_of_getElem? (i := 347) (by decide +kernel), rfl⟩
theorem gZ_changed_add : GoodIn wsZ1_changed (wsV RX1 106 RX1 yX1_add wsZ1_add) := kgV (fun w h => List.mem_cons_of_mem _ h) tk_ml_X1_106 tk_im_add tk_se_add tk_iniM tk_code_add
theorem tk_ml_X1_32 : Cond.methodLink RX1 32 yX1_isReference ∈ tbZ := List.mem_filter.mpr ⟨List.mem_of_getElem? (i := 263) (by decide +kernel), rfl⟩
theorem gZ_isBelow_isReference : GoodIn wsZ1_isBelow (wsS RX1 32 yX1_isReference wsZ1_isReference) := kgS (fun w h => List.mem_cons_of_mem _ h) tk_ml_X1_32 tk_st_isReference tk_iniM tk_code_isReference
theorem gZ_mayPass_isReference : GoodIn wsZ1_mayPass (wsS RX1 32 yX1_isReference wsZ1_isReference) := kgS (fun w h => List.mem_cons_of_mem _ h) tk_ml_X1_32 tk_st_isReference tk_iniM tk_code_isReference
theorem gZ_pass_isReference : GoodIn wsZ1_pass (wsS RX1 32 yX1_isReference wsZ1_isReference) := kgS (fun w h => List.mem_cons_of_mem _ h) tk_ml_X1_32 tk_st_isReference tk_iniM tk_code_isReference
theorem tk_ml_X1_36 : Cond.methodLink RX1 36 yX1_isPlain ∈ tbZ := List.mem_filter.mpr ⟨List.mem_of_getElem? (i := 278) (by decide +kernel), rfl⟩
theorem gZ_mayPass_isPlain : GoodIn wsZ1_mayPass (wsS RX1 36 yX1_isPlain wsZ1_isPlain) := kgS (fun w h => List.mem_cons_of_mem _ h) tk_ml_X1_36 tk_st_isPlain tk_iniM tk_code_isPlain
theorem gZ_pass_isPlain : GoodIn wsZ1_pass (wsS RX1 36 yX1_isPlain wsZ1_isPlain) := kgS (fun w h => List.mem_cons_of_mem _ h) tk_ml_X1_36 tk_st_isPlain tk_iniM tk_code_isPlain
theorem tk_ml_X1_39 : Cond.methodLink RX1 39 yX1_widens ∈ tbZ := List.mem_filter.mpr ⟨List.mem_of_getElem? (i := 281) (by decide +kernel), rfl⟩
theorem gZ_mayPass_widens : GoodIn wsZ1_mayPass (wsS RX1 39 yX1_widens wsZ1_widens) := kgS (fun w h => List.mem_cons_of_mem _ h) tk_ml_X1_39 tk_st_widens tk_iniM tk_code_widens
theorem gZ_pass_widens : GoodIn wsZ1_pass (wsS RX1 39 yX1_widens wsZ1_widens) := kgS (fun w h => List.mem_cons_of_mem _ h) tk_ml_X1_39 tk_st_widens tk_iniM tk_code_widens
theorem tk_ml_X1_43 : Cond.methodLink RX1 43 yX1_isBelow ∈ tbZ := List.mem_filter.mpr ⟨List.mem_of_getElem? (i := 259) (by decide +kernel), rfl⟩
theorem gZ_below_isBelow : GoodIn wsZ1_below (wsV RX1 43 RX1 yX1_isBelow wsZ1_isBelow) := kgV (fun w h => List.mem_cons_of_mem _ h) tk_ml_X1_43 tk_im_isBelow tk_se_isBelow tk_iniM tk_code_isBelow
theorem gZ_mayPass_isBelow : GoodIn wsZ1_mayPass (wsV RX1 43 RX1 yX1_isBelow wsZ1_isBelow) := kgV (fun w h => List.mem_cons_of_mem _ h) tk_ml_X1_43 tk_im_isBelow tk_se_isBelow tk_iniM tk_code_isBelow
theorem gZ_meet_isBelow : GoodIn wsZ1_meet (wsV RX1 43 RX1 yX1_isBelow wsZ1_isBelow) := kgV (fun w h => List.mem_cons_of_mem _ h) tk_ml_X1_43 tk_im_isBelow tk_se_isBelow tk_iniM tk_code_isBelow
theorem gZ_pass_isBelow : GoodIn wsZ1_pass (wsV RX1 43 RX1 yX1_isBelow wsZ1_isBelow) := kgV (fun w h => List.mem_cons_of_mem _ h) tk_ml_X1_43 tk_im_isBelow tk_se_isBelow tk_iniM tk_code_isBelow
theorem tk_ml_X1_46 : Cond.methodLink RX1 46 yX1_isBox ∈ tbZ := List.mem_filter.mpr ⟨List.mem_of_getElem? (i := 284) (by decide +kernel), rfl⟩
theorem gZ_mayPass_isBox : GoodIn wsZ1_mayPass (wsS RX1 46 yX1_isBox wsZ1_isBox) := kgS (fun w h => List.mem_cons_of_mem _ h) tk_ml_X1_46 tk_st_isBox tk_iniM tk_code_isBox
theorem gZ_pass_isBox : GoodIn wsZ1_pass (wsS RX1 46 yX1_isBox wsZ1_isBox) := kgS (fun w h => List.mem_cons_of_mem _ h) tk_ml_X1_46 tk_st_isBox tk_iniM tk_code_isBox
theorem tk_ml_X1_60 : Cond.methodLink RX1 60 yX1_findType ∈ tbZ := List.mem_filter.mpr ⟨List.mem_of_getElem? (i := 327) (by decide +kernel), rfl⟩
theorem gZ_madeType_findType : GoodIn wsZ1_madeType (wsV RX1 60 RX1 yX1_findType wsZ1_findType) := kgV (fun w h => List.mem_cons_of_mem _ h) tk_ml_X1_60 tk_im_findType tk_se_findType tk_iniM tk_code_findType
theorem tk_ml_X1_64 : Cond.methodLink RX1 64 yX1_forcedTo ∈ tbZ := List.mem_filter.mpr ⟨List.mem_of_getElem? (i := 295) (by decide +kernel), rfl⟩
theorem gZ_isNumber_forcedTo : GoodIn wsZ1_isNumber (wsS RX1 64 yX1_forcedTo wsZ1_forcedTo) := kgS (fun w h => List.mem_cons_of_mem _ h) tk_ml_X1_64 tk_st_forcedTo tk_iniM tk_code_forcedTo
theorem gZ_pass_forcedTo : GoodIn wsZ1_pass (wsS RX1 64 yX1_forcedTo wsZ1_forcedTo) := kgS (fun w h => List.mem_cons_of_mem _ h) tk_ml_X1_64 tk_st_forcedTo tk_iniM tk_code_forcedTo
theorem tk_ml_X1_68 : Cond.methodLink RX1 68 yX1_isKind ∈ tbZ := List.mem_filter.mpr ⟨List.mem_of_getElem? (i := 251) (by decide +kernel), rfl⟩
theorem gZ_below_isKind : GoodIn wsZ1_below (wsV RX1 68 RX1 yX1_isKind wsZ1_isKind) := kgV (fun w h => List.mem_cons_of_mem _ h) tk_ml_X1_68 tk_im_isKind tk_se_isKind tk_iniM tk_code_isKind
theorem gZ_isObject_isKind : GoodIn wsZ1_isObject (wsV RX1 68 RX1 yX1_isKind wsZ1_isKind) := kgV (fun w h => List.mem_cons_of_mem _ h) tk_ml_X1_68 tk_im_isKind tk_se_isKind tk_iniM tk_code_isKind
theorem gZ_may_isKind : GoodIn wsZ1_may (wsV RX1 68 RX1 yX1_isKind wsZ1_isKind) := kgV (fun w h => List.mem_cons_of_mem _ h) tk_ml_X1_68 tk_im_isKind tk_se_isKind tk_iniM tk_code_isKind
theorem gZ_meet_isKind : GoodIn wsZ1_meet (wsV RX1 68 RX1 yX1_isKind wsZ1_isKind) := kgV (fun w h => List.mem_cons_of_mem _ h) tk_ml_X1_68 tk_im_isKind tk_se_isKind tk_iniM tk_code_isKind
theorem gZ_newClass_isKind : GoodIn wsZ1_newClass (wsV RX1 68 RX1 yX1_isKind wsZ1_isKind) := kgV (fun w h => List.mem_cons_of_mem _ h) tk_ml_X1_68 tk_im_isKind tk_se_isKind tk_iniM tk_code_isKind
theorem gZ_type_isKind : GoodIn wsZ1_type (wsV RX1 68 RX1 yX1_isKind wsZ1_isKind) := kgV (fun w h => List.mem_cons_of_mem _ h) tk_ml_X1_68 tk_im_isKind tk_se_isKind tk_iniM tk_code_isKind
theorem tk_ml_X1_71 : Cond.methodLink RX1 71 yX1_mayPass ∈ tbZ := List.mem_filter.mpr ⟨List.mem_of_getElem? (i := 274) (by decide +kernel), rfl⟩
theorem gZ_may_mayPass : GoodIn wsZ1_may (wsV RX1 71 RX1 yX1_mayPass wsZ1_mayPass) := kgV (fun w h => List.mem_cons_of_mem _ h) tk_ml_X1_71 tk_im_mayPass tk_se_mayPass tk_iniM tk_code_mayPass
theorem gZ_mayBe_mayPass : GoodIn wsZ1_mayBe (wsV RX1 71 RX1 yX1_mayPass wsZ1_mayPass) := kgV (fun w h => List.mem_cons_of_mem _ h) tk_ml_X1_71 tk_im_mayPass tk_se_mayPass tk_iniM tk_code_mayPass
theorem tk_ml_X1_82 : Cond.methodLink RX1 82 yX1_may ∈ tbZ := List.mem_filter.mpr ⟨List.mem_of_getElem? (i := 291) (by decide +kernel), rfl⟩
theorem gZ_pass_may : GoodIn wsZ1_pass (wsV RX1 82 RX1 yX1_may wsZ1_may) := kgV (fun w h => List.mem_cons_of_mem _ h) tk_ml_X1_82 tk_im_may tk_se_may tk_iniM tk_code_may
theorem tk_ml_X1_85 : Cond.methodLink RX1 85 yX1_isNumber ∈ tbZ := List.mem_filter.mpr ⟨List.mem_of_getElem? (i := 292) (by decide +kernel), rfl⟩
theorem gZ_pass_isNumber : GoodIn wsZ1_pass (wsS RX1 85 yX1_isNumber wsZ1_isNumber) := kgS (fun w h => List.mem_cons_of_mem _ h) tk_ml_X1_85 tk_st_isNumber tk_iniM tk_code_isNumber
theorem tk_ml_X1_89 : Cond.methodLink RX1 89 yX1_kept ∈ tbZ := List.mem_filter.mpr ⟨List.mem_of_getElem? (i := 299) (by decide +kernel), rfl⟩
theorem gZ_pass_kept : GoodIn wsZ1_pass (wsV RX1 89 RX1 yX1_kept wsZ1_kept) := kgV (fun w h => List.mem_cons_of_mem _ h) tk_ml_X1_89 tk_im_kept tk_se_kept tk_iniM tk_code_kept
theorem tk_ml_X1_93 : Cond.methodLink RX1 93 yX1_isObject ∈ tbZ := List.mem_filter.mpr ⟨List.mem_of_getElem? (i := 303) (by decide +kernel), rfl⟩
theorem gZ_pass_isObject : GoodIn wsZ1_pass (wsV RX1 93 RX1 yX1_isObject wsZ1_isObject) := kgV (fun w h => List.mem_cons_of_mem _ h) tk_ml_X1_93 tk_im_isObject tk_se_isObject tk_iniM tk_code_isObject
theorem tk_ml_X1_99 : Cond.methodLink RX1 99 yX1_madeType ∈ tbZ := List.mem_filter.mpr ⟨List.mem_of_getElem? (i := 323) (by decide +kernel), rfl⟩
theorem gZ_changed_madeType : GoodIn wsZ1_changed (wsV RX1 99 RX1 yX1_madeType wsZ1_madeType) := kgV (fun w h => List.mem_cons_of_mem _ h) tk_ml_X1_99 tk_im_madeType tk_se_madeType tk_iniM tk_code_madeType
theorem gZ_type_madeType : GoodIn wsZ1_type (wsV RX1 99 RX1 yX1_madeType wsZ1_madeType) := kgV (fun w h => List.mem_cons_of_mem _ h) tk_ml_X1_99 tk_im_madeType tk_se_madeType tk_iniM tk_code_madeType
