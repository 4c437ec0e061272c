-- ===== PART A: goes FIRST, ahead of the names: the tables' words, and 'selects' of the private methods out of them =====
/-- a private method of a class that the tables say can be made, by its rows of tables_1 -/
def lw_okq (q : MethodName × Nat) : Prop := (q.1.cls ≠ "java/lang/invoke/MethodHandle" ∧ q.1.cls ≠ "java/lang/invoke/VarHandle") ∧ Cond.instantiable q.1.cls q.2 ∈ tables_1 ∧ Cond.privateMethod q.1 ∈ tables_1 ∧ Cond.instanceMethod q.1 ∈ tables_1
theorem lw_p0 : lw_okq (⟨"KindTable", "mayBeParent", "(I)Z"⟩, 8) := ⟨⟨by decide +kernel, by decide +kernel⟩, List.mem_of_getElem? (i := 4) (by decide +kernel), List.mem_of_getElem? (i := 52) (by decide +kernel), List.mem_of_getElem? (i := 53) (by decide +kernel)⟩
theorem lw_p1 : lw_okq (⟨"KindTable", "isKind", "(I)Z"⟩, 8) := ⟨⟨by decide +kernel, by decide +kernel⟩, List.mem_of_getElem? (i := 4) (by decide +kernel), List.mem_of_getElem? (i := 56) (by decide +kernel), List.mem_of_getElem? (i := 57) (by decide +kernel)⟩
theorem lw_p2 : lw_okq (⟨"KindTable", "isBelow", "(II)Z"⟩, 8) := ⟨⟨by decide +kernel, by decide +kernel⟩, List.mem_of_getElem? (i := 4) (by decide +kernel), List.mem_of_getElem? (i := 64) (by decide +kernel), List.mem_of_getElem? (i := 65) (by decide +kernel)⟩
theorem lw_p3 : lw_okq (⟨"KindTable", "mayPass", "(IIZ)Z"⟩, 8) := ⟨⟨by decide +kernel, by decide +kernel⟩, List.mem_of_getElem? (i := 4) (by decide +kernel), List.mem_of_getElem? (i := 76) (by decide +kernel), List.mem_of_getElem? (i := 77) (by decide +kernel)⟩
theorem lw_p4 : lw_okq (⟨"KindTable", "passPlain", "(IIJ)I"⟩, 8) := ⟨⟨by decide +kernel, by decide +kernel⟩, List.mem_of_getElem? (i := 4) (by decide +kernel), List.mem_of_getElem? (i := 100) (by decide +kernel), List.mem_of_getElem? (i := 101) (by decide +kernel)⟩
theorem lw_p5 : lw_okq (⟨"KindTable", "keep", "(IJ)I"⟩, 8) := ⟨⟨by decide +kernel, by decide +kernel⟩, List.mem_of_getElem? (i := 4) (by decide +kernel), List.mem_of_getElem? (i := 104) (by decide +kernel), List.mem_of_getElem? (i := 105) (by decide +kernel)⟩
theorem lw_p6 : lw_okq (⟨"KindTable", "passNull", "(IZ)I"⟩, 8) := ⟨⟨by decide +kernel, by decide +kernel⟩, List.mem_of_getElem? (i := 4) (by decide +kernel), List.mem_of_getElem? (i := 108) (by decide +kernel), List.mem_of_getElem? (i := 109) (by decide +kernel)⟩
theorem lw_p7 : lw_okq (⟨"KindTable", "isObject", "(IJ)Z"⟩, 8) := ⟨⟨by decide +kernel, by decide +kernel⟩, List.mem_of_getElem? (i := 4) (by decide +kernel), List.mem_of_getElem? (i := 112) (by decide +kernel), List.mem_of_getElem? (i := 113) (by decide +kernel)⟩
theorem lw_p8 : lw_okq (⟨"KindTable", "passAsPlain", "(IZIJ)I"⟩, 8) := ⟨⟨by decide +kernel, by decide +kernel⟩, List.mem_of_getElem? (i := 4) (by decide +kernel), List.mem_of_getElem? (i := 116) (by decide +kernel), List.mem_of_getElem? (i := 117) (by decide +kernel)⟩
theorem lw_p9 : lw_okq (⟨"KindTable", "passAsReference", "(IIJ)I"⟩, 8) := ⟨⟨by decide +kernel, by decide +kernel⟩, List.mem_of_getElem? (i := 4) (by decide +kernel), List.mem_of_getElem? (i := 120) (by decide +kernel), List.mem_of_getElem? (i := 121) (by decide +kernel)⟩
theorem lw_p10 : lw_okq (⟨"KindTable", "numberOf", "(J)I"⟩, 8) := ⟨⟨by decide +kernel, by decide +kernel⟩, List.mem_of_getElem? (i := 4) (by decide +kernel), List.mem_of_getElem? (i := 151) (by decide +kernel), List.mem_of_getElem? (i := 152) (by decide +kernel)⟩
theorem lw_p11 : lw_okq (⟨"KindTable", "isType", "(I)Z"⟩, 8) := ⟨⟨by decide +kernel, by decide +kernel⟩, List.mem_of_getElem? (i := 4) (by decide +kernel), List.mem_of_getElem? (i := 159) (by decide +kernel), List.mem_of_getElem? (i := 160) (by decide +kernel)⟩
theorem lw_p12 : lw_okq (⟨"KindTableModel", "isKind", "(I)Z"⟩, 13) := ⟨⟨by decide +kernel, by decide +kernel⟩, List.mem_of_getElem? (i := 181) (by decide +kernel), List.mem_of_getElem? (i := 231) (by decide +kernel), List.mem_of_getElem? (i := 232) (by decide +kernel)⟩
theorem lw_p13 : lw_okq (⟨"KindTableModel", "isBelow", "(II)Z"⟩, 13) := ⟨⟨by decide +kernel, by decide +kernel⟩, List.mem_of_getElem? (i := 181) (by decide +kernel), List.mem_of_getElem? (i := 239) (by decide +kernel), List.mem_of_getElem? (i := 240) (by decide +kernel)⟩
theorem lw_p14 : lw_okq (⟨"KindTableModel", "mayPass", "(IIZZ)Z"⟩, 13) := ⟨⟨by decide +kernel, by decide +kernel⟩, List.mem_of_getElem? (i := 181) (by decide +kernel), List.mem_of_getElem? (i := 254) (by decide +kernel), List.mem_of_getElem? (i := 255) (by decide +kernel)⟩
theorem lw_p15 : lw_okq (⟨"KindTableModel", "kept", "(IJ)I"⟩, 13) := ⟨⟨by decide +kernel, by decide +kernel⟩, List.mem_of_getElem? (i := 181) (by decide +kernel), List.mem_of_getElem? (i := 279) (by decide +kernel), List.mem_of_getElem? (i := 280) (by decide +kernel)⟩
def lw_privs_1 : List (MethodName × Nat) := [(⟨"KindTable", "mayBeParent", "(I)Z"⟩, 8), (⟨"KindTable", "isKind", "(I)Z"⟩, 8), (⟨"KindTable", "isBelow", "(II)Z"⟩, 8), (⟨"KindTable", "mayPass", "(IIZ)Z"⟩, 8), (⟨"KindTable", "passPlain", "(IIJ)I"⟩, 8), (⟨"KindTable", "keep", "(IJ)I"⟩, 8), (⟨"KindTable", "passNull", "(IZ)I"⟩, 8), (⟨"KindTable", "isObject", "(IJ)Z"⟩, 8), (⟨"KindTable", "passAsPlain", "(IZIJ)I"⟩, 8), (⟨"KindTable", "passAsReference", "(IIJ)I"⟩, 8), (⟨"KindTable", "numberOf", "(J)I"⟩, 8), (⟨"KindTable", "isType", "(I)Z"⟩, 8), (⟨"KindTableModel", "isKind", "(I)Z"⟩, 13), (⟨"KindTableModel", "isBelow", "(II)Z"⟩, 13), (⟨"KindTableModel", "mayPass", "(IIZZ)Z"⟩, 13), (⟨"KindTableModel", "kept", "(IJ)I"⟩, 13)]
theorem lw_r1 : ∀ q ∈ lw_privs_1, lw_okq q := List.forall_mem_cons.mpr ⟨lw_p0, List.forall_mem_cons.mpr ⟨lw_p1, List.forall_mem_cons.mpr ⟨lw_p2, List.forall_mem_cons.mpr ⟨lw_p3, List.forall_mem_cons.mpr ⟨lw_p4, List.forall_mem_cons.mpr ⟨lw_p5, List.forall_mem_cons.mpr ⟨lw_p6, List.forall_mem_cons.mpr ⟨lw_p7, List.forall_mem_cons.mpr ⟨lw_p8, List.forall_mem_cons.mpr ⟨lw_p9, List.forall_mem_cons.mpr ⟨lw_p10, List.forall_mem_cons.mpr ⟨lw_p11, List.forall_mem_cons.mpr ⟨lw_p12, List.forall_mem_cons.mpr ⟨lw_p13, List.forall_mem_cons.mpr ⟨lw_p14, List.forall_mem_cons.mpr ⟨lw_p15, fun _ h => absurd h List.not_mem_nil⟩⟩⟩⟩⟩⟩⟩⟩⟩⟩⟩⟩⟩⟩⟩⟩
theorem lw_p16 : lw_okq (⟨"KindTableModel", "isObject", "(I)Z"⟩, 13) := ⟨⟨by decide +kernel, by decide +kernel⟩, List.mem_of_getElem? (i := 181) (by decide +kernel), List.mem_of_getElem? (i := 283) (by decide +kernel), List.mem_of_getElem? (i := 284) (by decide +kernel)⟩
theorem lw_p17 : lw_okq (⟨"KindTableModel", "madeType", "()I"⟩, 13) := ⟨⟨by decide +kernel, by decide +kernel⟩, List.mem_of_getElem? (i := 181) (by decide +kernel), List.mem_of_getElem? (i := 303) (by decide +kernel), List.mem_of_getElem? (i := 304) (by decide +kernel)⟩
theorem lw_p18 : lw_okq (⟨"KindTableModel", "findType", "(II)I"⟩, 13) := ⟨⟨by decide +kernel, by decide +kernel⟩, List.mem_of_getElem? (i := 181) (by decide +kernel), List.mem_of_getElem? (i := 307) (by decide +kernel), List.mem_of_getElem? (i := 308) (by decide +kernel)⟩
theorem lw_p19 : lw_okq (⟨"KindTableModel", "isType", "(I)Z"⟩, 13) := ⟨⟨by decide +kernel, by decide +kernel⟩, List.mem_of_getElem? (i := 181) (by decide +kernel), List.mem_of_getElem? (i := 315) (by decide +kernel), List.mem_of_getElem? (i := 316) (by decide +kernel)⟩
theorem lw_p20 : lw_okq (⟨"KindTableModel", "add", "(I)V"⟩, 13) := ⟨⟨by decide +kernel, by decide +kernel⟩, List.mem_of_getElem? (i := 181) (by decide +kernel), List.mem_of_getElem? (i := 327) (by decide +kernel), List.mem_of_getElem? (i := 328) (by decide +kernel)⟩
def lw_privs_2 : List (MethodName × Nat) := [(⟨"KindTableModel", "isObject", "(I)Z"⟩, 13), (⟨"KindTableModel", "madeType", "()I"⟩, 13), (⟨"KindTableModel", "findType", "(II)I"⟩, 13), (⟨"KindTableModel", "isType", "(I)Z"⟩, 13), (⟨"KindTableModel", "add", "(I)V"⟩, 13)]
theorem lw_r2 : ∀ q ∈ lw_privs_2, lw_okq q := List.forall_mem_cons.mpr ⟨lw_p16, List.forall_mem_cons.mpr ⟨lw_p17, List.forall_mem_cons.mpr ⟨lw_p18, List.forall_mem_cons.mpr ⟨lw_p19, List.forall_mem_cons.mpr ⟨lw_p20, fun _ h => absurd h List.not_mem_nil⟩⟩⟩⟩⟩
def lw_privs : List (MethodName × Nat) := lw_privs_1 ++ (lw_privs_2)
def lw_tbl : List Cond := k2_sels lw_privs ++ tables_1
theorem lw_privs_ok : ∀ q ∈ lw_privs, lw_okq q := by
  show ∀ q ∈ lw_privs_1 ++ (lw_privs_2), lw_okq q
  exact List.forall_mem_append.mpr ⟨lw_r1, lw_r2⟩
/-! ===== BEGIN words of one list among another's, by their places ===== -/
theorem goodIn_r {big : List Cond} (ws : List Cond) (ps : List Nat) (hp : ws = ps.filterMap (fun i => big[i]?)) (h : ws.all goodWord = true) : GoodIn big ws := by
  intro w hw
  have h1 := List.all_eq_true.mp h w hw
  rw [hp] at hw
  obtain ⟨i, -, hi⟩ := List.mem_filterMap.mp hw
  have hm : w ∈ big := by first | exact List.mem_of_getElem? hi | exact List.getElem?_mem hi
  exact ⟨hm, good_of_word h1⟩
theorem goodIn_app {big a b : List Cond} (ha : GoodIn big a) (hb : GoodIn big b) : GoodIn big (a ++ b) := fun w h => (List.mem_append.mp h).elim (ha w) (hb w)
theorem goodIn_ca {big a b : List Cond} {c : Cond} (ha : GoodIn big (c :: a)) (hb : GoodIn big b) : GoodIn big (c :: (a ++ b)) := fun w h => (List.mem_cons.mp h).elim (fun e => ha w (List.mem_cons.mpr (Or.inl e))) (fun h => (List.mem_append.mp h).elim (fun h => ha w (List.mem_cons.mpr (Or.inr h))) (hb w))
theorem goodIn_sub {big ws : List Cond} (hm : ∀ w ∈ ws, w ∈ big) (h : ws.all goodWord = true) : GoodIn big ws := fun w hw => ⟨hm w hw, good_of_word (List.all_eq_true.mp h w hw)⟩
/-! ===== END ===== -/

/-! ===== BEGIN printed: names, fields, word lists, decode rows ===== -/
def RX0 : String := "KindTable"
def TX0 : u_T := fun k => match k with
  | 0 => ("KindTable", "above", "[I", true)
  | 1 => ("KindTable", "kindCount", "I", false)
  | 2 => ("KindTable", "row", "[I", true)
  | 3 => ("KindTable", "rowLength", "I", false)
  | 4 => ("KindTable", "types", "[J", true)
  | 5 => ("KindTable", "typeCount", "I", false)
  | 6 => ("KindTable", "passedKind", "I", false)
  | _ => ("KindTable", "passedNumber", "J", false)
def tyX0 : Nat → FieldType := fun k => match k with
  | 0 => .array .int
  | 1 => .int
  | 2 => .array .int
  | 3 => .int
  | 4 => .array .long
  | 5 => .int
  | 6 => .int
  | _ => .long
abbrev wsX00 : List Cond := u_ws RX0 TX0 8
theorem nmX0 : ∀ a, a < 8 → ∀ b, b < 8 → a ≠ b → (TX0 a).2.1 ≠ (TX0 b).2.1 := by decide +kernel
theorem tyX0_ok : ∀ k, k < 8 → parseFieldDescriptor (TX0 k).2.2.1 = some (tyX0 k) := by decide +kernel
abbrev cX0_init : ByteArray := prog_1_method_1_code
def yX0_init : MethodName := ⟨RX0, "<init>", "()V"⟩
abbrev cX0_newClass : ByteArray := prog_1_method_2_code
def yX0_newClass : MethodName := ⟨RX0, "newClass", "(I)I"⟩
abbrev cX0_below : ByteArray := prog_1_method_3_code
def yX0_below : MethodName := ⟨RX0, "below", "(II)Z"⟩
abbrev cX0_meet : ByteArray := prog_1_method_4_code
def yX0_meet : MethodName := ⟨RX0, "meet", "(II)I"⟩
abbrev cX0_may : ByteArray := prog_1_method_5_code
def yX0_may : MethodName := ⟨RX0, "may", "(IIZZ)Z"⟩
abbrev cX0_pass : ByteArray := prog_1_method_6_code
def yX0_pass : MethodName := ⟨RX0, "pass", "(IIZIJ)I"⟩
abbrev cX0_kind : ByteArray := prog_1_method_7_code
def yX0_kind : MethodName := ⟨RX0, "kind", "()I"⟩
abbrev cX0_number : ByteArray := prog_1_method_8_code
def yX0_number : MethodName := ⟨RX0, "number", "()J"⟩
abbrev cX0_put : ByteArray := prog_1_method_9_code
def yX0_put : MethodName := ⟨RX0, "put", "(I)Z"⟩
abbrev cX0_type : ByteArray := prog_1_method_10_code
def yX0_type : MethodName := ⟨RX0, "type", "(I)I"⟩
abbrev cX0_typeAbout : ByteArray := prog_1_method_11_code
def yX0_typeAbout : MethodName := ⟨RX0, "typeAbout", "(II)I"⟩
abbrev cX0_mayBe : ByteArray := prog_1_method_12_code
def yX0_mayBe : MethodName := ⟨RX0, "mayBe", "(IIZ)Z"⟩
abbrev cX0_changed : ByteArray := prog_1_method_13_code
def yX0_changed : MethodName := ⟨RX0, "changed", "(IIII)I"⟩
abbrev cX0_firstAbove : ByteArray := prog_1_method_14_code
def yX0_firstAbove : MethodName := ⟨RX0, "firstAbove", "(I)I"⟩
abbrev cX0_isPlain : ByteArray := prog_1_method_15_code
def yX0_isPlain : MethodName := ⟨RX0, "isPlain", "(I)Z"⟩
abbrev cX0_isBox : ByteArray := prog_1_method_16_code
def yX0_isBox : MethodName := ⟨RX0, "isBox", "(I)Z"⟩
abbrev cX0_isOfNumbers : ByteArray := prog_1_method_17_code
def yX0_isOfNumbers : MethodName := ⟨RX0, "isOfNumbers", "(I)Z"⟩
abbrev cX0_isKind : ByteArray := prog_1_method_18_code
def yX0_isKind : MethodName := ⟨RX0, "isKind", "(I)Z"⟩
abbrev cX0_mayBeParent : ByteArray := prog_1_method_19_code
def yX0_mayBeParent : MethodName := ⟨RX0, "mayBeParent", "(I)Z"⟩
abbrev cX0_isBelow : ByteArray := prog_1_method_20_code
def yX0_isBelow : MethodName := ⟨RX0, "isBelow", "(II)Z"⟩
abbrev cX0_isObject : ByteArray := prog_1_method_21_code
def yX0_isObject : MethodName := ⟨RX0, "isObject", "(IJ)Z"⟩
abbrev cX0_mayPass : ByteArray := prog_1_method_22_code
def yX0_mayPass : MethodName := ⟨RX0, "mayPass", "(IIZ)Z"⟩
abbrev cX0_mayWiden : ByteArray := prog_1_method_23_code
def yX0_mayWiden : MethodName := ⟨RX0, "mayWiden", "(II)Z"⟩
abbrev cX0_mayUnbox : ByteArray := prog_1_method_24_code
def yX0_mayUnbox : MethodName := ⟨RX0, "mayUnbox", "(II)Z"⟩
abbrev cX0_lowest : ByteArray := prog_1_method_25_code
def yX0_lowest : MethodName := ⟨RX0, "lowest", "(IJ)J"⟩
abbrev cX0_fits : ByteArray := prog_1_method_26_code
def yX0_fits : MethodName := ⟨RX0, "fits", "(IJ)Z"⟩
abbrev cX0_passPlain : ByteArray := prog_1_method_27_code
def yX0_passPlain : MethodName := ⟨RX0, "passPlain", "(IIJ)I"⟩
abbrev cX0_passNull : ByteArray := prog_1_method_28_code
def yX0_passNull : MethodName := ⟨RX0, "passNull", "(IZ)I"⟩
abbrev cX0_passAsPlain : ByteArray := prog_1_method_29_code
def yX0_passAsPlain : MethodName := ⟨RX0, "passAsPlain", "(IZIJ)I"⟩
abbrev cX0_passAsReference : ByteArray := prog_1_method_30_code
def yX0_passAsReference : MethodName := ⟨RX0, "passAsReference", "(IIJ)I"⟩
abbrev cX0_keep : ByteArray := prog_1_method_31_code
def yX0_keep : MethodName := ⟨RX0, "keep", "(IJ)I"⟩
abbrev cX0_isType : ByteArray := prog_1_method_32_code
def yX0_isType : MethodName := ⟨RX0, "isType", "(I)Z"⟩
abbrev cX0_resultOf : ByteArray := prog_1_method_33_code
def yX0_resultOf : MethodName := ⟨RX0, "resultOf", "(J)I"⟩
abbrev cX0_placesOf : ByteArray := prog_1_method_34_code
def yX0_placesOf : MethodName := ⟨RX0, "placesOf", "(J)I"⟩
abbrev cX0_placeOf : ByteArray := prog_1_method_35_code
def yX0_placeOf : MethodName := ⟨RX0, "placeOf", "(JI)I"⟩
abbrev cX0_placeBit : ByteArray := prog_1_method_36_code
def yX0_placeBit : MethodName := ⟨RX0, "placeBit", "(I)I"⟩
abbrev cX0_withPlace : ByteArray := prog_1_method_37_code
def yX0_withPlace : MethodName := ⟨RX0, "withPlace", "(JI)J"⟩
abbrev cX0_withPlacesOf : ByteArray := prog_1_method_38_code
def yX0_withPlacesOf : MethodName := ⟨RX0, "withPlacesOf", "(JJII)J"⟩
abbrev cX0_numberOf : ByteArray := prog_1_method_39_code
def yX0_numberOf : MethodName := ⟨RX0, "numberOf", "(J)I"⟩
def RX1 : String := "KindTableModel"
def TX1 : u_T := fun k => match k with
  | 0 => ("KindTableModel", "parent", "[I", true)
  | 1 => ("KindTableModel", "classes", "I", false)
  | 2 => ("KindTableModel", "typeResult", "[I", true)
  | 3 => ("KindTableModel", "typeMany", "[I", true)
  | 4 => ("KindTableModel", "typePlace", "[I", true)
  | 5 => ("KindTableModel", "types", "I", false)
  | 6 => ("KindTableModel", "row", "[I", true)
  | 7 => ("KindTableModel", "rowSize", "I", false)
  | 8 => ("KindTableModel", "newResult", "I", false)
  | 9 => ("KindTableModel", "newMany", "I", false)
  | 10 => ("KindTableModel", "newPlace", "[I", true)
  | 11 => ("KindTableModel", "keptKind", "I", false)
  | _ => ("KindTableModel", "keptNumber", "J", false)
def tyX1 : Nat → FieldType := fun k => match k with
  | 0 => .array .int
  | 1 => .int
  | 2 => .array .int
  | 3 => .array .int
  | 4 => .array .int
  | 5 => .int
  | 6 => .array .int
  | 7 => .int
  | 8 => .int
  | 9 => .int
  | 10 => .array .int
  | 11 => .int
  | _ => .long
abbrev wsX10 : List Cond := u_ws RX1 TX1 13
theorem nmX1 : ∀ a, a < 13 → ∀ b, b < 13 → a ≠ b → (TX1 a).2.1 ≠ (TX1 b).2.1 := by decide +kernel
theorem tyX1_ok : ∀ k, k < 13 → parseFieldDescriptor (TX1 k).2.2.1 = some (tyX1 k) := by decide +kernel
abbrev cX1_init : ByteArray := prog_3_method_1_code
def yX1_init : MethodName := ⟨RX1, "<init>", "()V"⟩
abbrev cX1_isKind : ByteArray := prog_3_method_3_code
def yX1_isKind : MethodName := ⟨RX1, "isKind", "(I)Z"⟩
abbrev cX1_newClass : ByteArray := prog_3_method_16_code
def yX1_newClass : MethodName := ⟨RX1, "newClass", "(I)I"⟩
abbrev cX1_below : ByteArray := prog_3_method_17_code
def yX1_below : MethodName := ⟨RX1, "below", "(II)Z"⟩
def RL : String := "KindTableLaw"
abbrev cL_law : ByteArray := code
def yL_law : MethodName := ⟨RL, "law", "([I)Z"⟩
def wsX0_isBox : List Cond := .code yX0_isBox cX0_isBox 1 (some .boolean) :: ([])
def wsX0_isOfNumbers : List Cond := .code yX0_isOfNumbers cX0_isOfNumbers 1 (some .boolean) :: ([])
def wsX0_firstAbove : List Cond := .code yX0_firstAbove cX0_firstAbove 2 (some .int) :: ([.methodLink RX0 110 yX0_isBox, .static yX0_isBox, .initialized RX0, .code yX0_isBox cX0_isBox 1 (some .boolean), .methodLink RX0 113 yX0_isOfNumbers, .static yX0_isOfNumbers, .code yX0_isOfNumbers cX0_isOfNumbers 1 (some .boolean)])
def wsX0_init : List Cond := .code yX0_init cX0_init 2 none :: ([.methodLink RX0 3 objectInit, .instanceMethod objectInit, .code objectInit ⟨#[0xb1]⟩ 1 none, .arrayClass .int, .fieldLink RX0 9 "KindTable" "above" "[I", .fieldLink RX0 17 "KindTable" "kindCount" "I", .fieldLink RX0 21 "KindTable" "row" "[I", .fieldLink RX0 24 "KindTable" "rowLength" "I", .arrayClass .long, .fieldLink RX0 27 "KindTable" "types" "[J", .fieldLink RX0 31 "KindTable" "typeCount" "I", .fieldLink RX0 34 "KindTable" "passedKind" "I", .fieldLink RX0 37 "KindTable" "passedNumber" "J", .methodLink RX0 13 yX0_firstAbove, .static yX0_firstAbove, .initialized RX0, .code yX0_firstAbove cX0_firstAbove 2 (some .int), .methodLink RX0 110 yX0_isBox, .static yX0_isBox, .code yX0_isBox cX0_isBox 1 (some .boolean), .methodLink RX0 113 yX0_isOfNumbers, .static yX0_isOfNumbers, .code yX0_isOfNumbers cX0_isOfNumbers 1 (some .boolean)] ++ wsX00)
def wsX0_isKind : List Cond := .code yX0_isKind cX0_isKind 2 (some .boolean) :: ([.fieldLink RX0 17 "KindTable" "kindCount" "I"] ++ wsX00)
def wsX0_mayBeParent : List Cond := .code yX0_mayBeParent cX0_mayBeParent 2 (some .boolean) :: ([.methodLink RX0 45 yX0_isKind, .instanceMethod yX0_isKind, .selects RX0 yX0_isKind yX0_isKind, .initialized RX0, .code yX0_isKind cX0_isKind 2 (some .boolean), .fieldLink RX0 17 "KindTable" "kindCount" "I"] ++ wsX00)
def wsX0_newClass : List Cond := .code yX0_newClass cX0_newClass 3 (some .int) :: ([.fieldLink RX0 17 "KindTable" "kindCount" "I", .fieldLink RX0 9 "KindTable" "above" "[I", .methodLink RX0 41 yX0_mayBeParent, .instanceMethod yX0_mayBeParent, .selects RX0 yX0_mayBeParent yX0_mayBeParent, .initialized RX0, .code yX0_mayBeParent cX0_mayBeParent 2 (some .boolean), .methodLink RX0 45 yX0_isKind, .instanceMethod yX0_isKind, .selects RX0 yX0_isKind yX0_isKind, .code yX0_isKind cX0_isKind 2 (some .boolean)] ++ wsX00)
def wsX0_isBelow : List Cond := .code yX0_isBelow cX0_isBelow 3 (some .boolean) :: ([.fieldLink RX0 9 "KindTable" "above" "[I"] ++ wsX00)
def wsX0_below : List Cond := .code yX0_below cX0_below 3 (some .boolean) :: ([.methodLink RX0 45 yX0_isKind, .instanceMethod yX0_isKind, .selects RX0 yX0_isKind yX0_isKind, .initialized RX0, .code yX0_isKind cX0_isKind 2 (some .boolean), .fieldLink RX0 17 "KindTable" "kindCount" "I", .methodLink RX0 48 yX0_isBelow, .instanceMethod yX0_isBelow, .selects RX0 yX0_isBelow yX0_isBelow, .code yX0_isBelow cX0_isBelow 3 (some .boolean), .fieldLink RX0 9 "KindTable" "above" "[I"] ++ wsX00)
def wsX0_meet : List Cond := .code yX0_meet cX0_meet 5 (some .int) :: ([.fieldLink RX0 9 "KindTable" "above" "[I", .fieldLink RX0 17 "KindTable" "kindCount" "I", .methodLink RX0 45 yX0_isKind, .instanceMethod yX0_isKind, .selects RX0 yX0_isKind yX0_isKind, .initialized RX0, .code yX0_isKind cX0_isKind 2 (some .boolean)] ++ wsX00)
def wsX0_isPlain : List Cond := .code yX0_isPlain cX0_isPlain 1 (some .boolean) :: ([])
def wsX0_mayWiden : List Cond := .code yX0_mayWiden cX0_mayWiden 2 (some .boolean) :: ([])
def wsX0_mayUnbox : List Cond := .code yX0_mayUnbox cX0_mayUnbox 2 (some .boolean) :: ([.methodLink RX0 113 yX0_isOfNumbers, .static yX0_isOfNumbers, .initialized RX0, .code yX0_isOfNumbers cX0_isOfNumbers 1 (some .boolean), .methodLink RX0 110 yX0_isBox, .static yX0_isBox, .code yX0_isBox cX0_isBox 1 (some .boolean), .methodLink RX0 116 yX0_mayWiden, .static yX0_mayWiden, .code yX0_mayWiden cX0_mayWiden 2 (some .boolean)])
def wsX0_mayPass : List Cond := .code yX0_mayPass cX0_mayPass 4 (some .boolean) :: ([.methodLink RX0 60 yX0_isPlain, .static yX0_isPlain, .initialized RX0, .code yX0_isPlain cX0_isPlain 1 (some .boolean), .methodLink RX0 116 yX0_mayWiden, .static yX0_mayWiden, .code yX0_mayWiden cX0_mayWiden 2 (some .boolean), .methodLink RX0 48 yX0_isBelow, .instanceMethod yX0_isBelow, .selects RX0 yX0_isBelow yX0_isBelow, .code yX0_isBelow cX0_isBelow 3 (some .boolean), .fieldLink RX0 9 "KindTable" "above" "[I", .methodLink RX0 110 yX0_isBox, .static yX0_isBox, .code yX0_isBox cX0_isBox 1 (some .boolean), .methodLink RX0 119 yX0_mayUnbox, .static yX0_mayUnbox, .code yX0_mayUnbox cX0_mayUnbox 2 (some .boolean), .methodLink RX0 113 yX0_isOfNumbers, .static yX0_isOfNumbers, .code yX0_isOfNumbers cX0_isOfNumbers 1 (some .boolean)] ++ wsX00)
def wsX0_may_r1 : List Cond := [Cond.methodLink RX0 45 yX0_isKind, Cond.instanceMethod yX0_isKind, Cond.selects RX0 yX0_isKind yX0_isKind, Cond.initialized RX0, Cond.code yX0_isKind cX0_isKind 2 (some .boolean), Cond.fieldLink RX0 17 "KindTable" "kindCount" "I", Cond.methodLink RX0 52 yX0_mayPass, Cond.instanceMethod yX0_mayPass, Cond.selects RX0 yX0_mayPass yX0_mayPass, Cond.code yX0_mayPass cX0_mayPass 4 (some .boolean), Cond.methodLink RX0 60 yX0_isPlain, Cond.static yX0_isPlain, Cond.code yX0_isPlain cX0_isPlain 1 (some .boolean), Cond.methodLink RX0 116 yX0_mayWiden, Cond.static yX0_mayWiden, Cond.code yX0_mayWiden cX0_mayWiden 2 (some .boolean), Cond.methodLink RX0 48 yX0_isBelow, Cond.instanceMethod yX0_isBelow, Cond.selects RX0 yX0_isBelow yX0_isBelow, Cond.code yX0_isBelow cX0_isBelow 3 (some .boolean), Cond.fieldLink RX0 9 "KindTable" "above" "[I", Cond.methodLink RX0 110 yX0_isBox, Cond.static yX0_isBox, Cond.code yX0_isBox cX0_isBox 1 (some .boolean)]
def wsX0_may_r2 : List Cond := [Cond.methodLink RX0 119 yX0_mayUnbox, Cond.static yX0_mayUnbox, Cond.code yX0_mayUnbox cX0_mayUnbox 2 (some .boolean), Cond.methodLink RX0 113 yX0_isOfNumbers, Cond.static yX0_isOfNumbers, Cond.code yX0_isOfNumbers cX0_isOfNumbers 1 (some .boolean)]
def wsX0_may : List Cond := .code yX0_may cX0_may 5 (some .boolean) :: ((wsX0_may_r1 ++ wsX0_may_r2) ++ wsX00)
def wsX0_lowest : List Cond := .code yX0_lowest cX0_lowest 3 (some .long) :: ([])
def wsX0_fits : List Cond := .code yX0_fits cX0_fits 3 (some .boolean) :: ([.methodLink RX0 122 yX0_lowest, .static yX0_lowest, .initialized RX0, .code yX0_lowest cX0_lowest 3 (some .long)])
def wsX0_keep : List Cond := .code yX0_keep cX0_keep 4 (some .int) :: ([.fieldLink RX0 34 "KindTable" "passedKind" "I", .fieldLink RX0 37 "KindTable" "passedNumber" "J"] ++ wsX00)
def wsX0_passPlain : List Cond := .code yX0_passPlain cX0_passPlain 5 (some .int) :: ([.methodLink RX0 60 yX0_isPlain, .static yX0_isPlain, .initialized RX0, .code yX0_isPlain cX0_isPlain 1 (some .boolean), .methodLink RX0 122 yX0_lowest, .static yX0_lowest, .code yX0_lowest cX0_lowest 3 (some .long), .methodLink RX0 126 yX0_keep, .instanceMethod yX0_keep, .selects RX0 yX0_keep yX0_keep, .code yX0_keep cX0_keep 4 (some .int), .fieldLink RX0 34 "KindTable" "passedKind" "I", .fieldLink RX0 37 "KindTable" "passedNumber" "J"] ++ wsX00)
def wsX0_passNull : List Cond := .code yX0_passNull cX0_passNull 3 (some .int) :: ([.methodLink RX0 60 yX0_isPlain, .static yX0_isPlain, .initialized RX0, .code yX0_isPlain cX0_isPlain 1 (some .boolean), .methodLink RX0 126 yX0_keep, .instanceMethod yX0_keep, .selects RX0 yX0_keep yX0_keep, .code yX0_keep cX0_keep 4 (some .int), .fieldLink RX0 34 "KindTable" "passedKind" "I", .fieldLink RX0 37 "KindTable" "passedNumber" "J"] ++ wsX00)
def wsX0_isObject : List Cond := .code yX0_isObject cX0_isObject 4 (some .boolean) :: ([.methodLink RX0 45 yX0_isKind, .instanceMethod yX0_isKind, .selects RX0 yX0_isKind yX0_isKind, .initialized RX0, .code yX0_isKind cX0_isKind 2 (some .boolean), .fieldLink RX0 17 "KindTable" "kindCount" "I", .methodLink RX0 110 yX0_isBox, .static yX0_isBox, .code yX0_isBox cX0_isBox 1 (some .boolean), .methodLink RX0 63 yX0_fits, .static yX0_fits, .code yX0_fits cX0_fits 3 (some .boolean), .methodLink RX0 122 yX0_lowest, .static yX0_lowest, .code yX0_lowest cX0_lowest 3 (some .long)] ++ wsX00)
def wsX0_passAsPlain : List Cond := .code yX0_passAsPlain cX0_passAsPlain 6 (some .int) :: ([.methodLink RX0 110 yX0_isBox, .static yX0_isBox, .initialized RX0, .code yX0_isBox cX0_isBox 1 (some .boolean), .methodLink RX0 116 yX0_mayWiden, .static yX0_mayWiden, .code yX0_mayWiden cX0_mayWiden 2 (some .boolean), .methodLink RX0 122 yX0_lowest, .static yX0_lowest, .code yX0_lowest cX0_lowest 3 (some .long), .methodLink RX0 126 yX0_keep, .instanceMethod yX0_keep, .selects RX0 yX0_keep yX0_keep, .code yX0_keep cX0_keep 4 (some .int), .fieldLink RX0 34 "KindTable" "passedKind" "I", .fieldLink RX0 37 "KindTable" "passedNumber" "J"] ++ wsX00)
def wsX0_passAsReference : List Cond := .code yX0_passAsReference cX0_passAsReference 5 (some .int) :: ([.methodLink RX0 48 yX0_isBelow, .instanceMethod yX0_isBelow, .selects RX0 yX0_isBelow yX0_isBelow, .initialized RX0, .code yX0_isBelow cX0_isBelow 3 (some .boolean), .fieldLink RX0 9 "KindTable" "above" "[I", .methodLink RX0 126 yX0_keep, .instanceMethod yX0_keep, .selects RX0 yX0_keep yX0_keep, .code yX0_keep cX0_keep 4 (some .int), .fieldLink RX0 34 "KindTable" "passedKind" "I", .fieldLink RX0 37 "KindTable" "passedNumber" "J"] ++ wsX00)
def wsX0_pass_r1 : List Cond := [Cond.methodLink RX0 56 yX0_may, Cond.instanceMethod yX0_may, Cond.selects RX0 yX0_may yX0_may, Cond.initialized RX0, Cond.code yX0_may cX0_may 5 (some .boolean), Cond.methodLink RX0 45 yX0_isKind, Cond.instanceMethod yX0_isKind, Cond.selects RX0 yX0_isKind yX0_isKind, Cond.code yX0_isKind cX0_isKind 2 (some .boolean), Cond.fieldLink RX0 17 "KindTable" "kindCount" "I", Cond.methodLink RX0 52 yX0_mayPass, Cond.instanceMethod yX0_mayPass, Cond.selects RX0 yX0_mayPass yX0_mayPass, Cond.code yX0_mayPass cX0_mayPass 4 (some .boolean), Cond.methodLink RX0 60 yX0_isPlain, Cond.static yX0_isPlain, Cond.code yX0_isPlain cX0_isPlain 1 (some .boolean), Cond.methodLink RX0 116 yX0_mayWiden, Cond.static yX0_mayWiden, Cond.code yX0_mayWiden cX0_mayWiden 2 (some .boolean), Cond.methodLink RX0 48 yX0_isBelow, Cond.instanceMethod yX0_isBelow, Cond.selects RX0 yX0_isBelow yX0_isBelow, Cond.code yX0_isBelow cX0_isBelow 3 (some .boolean)]
def wsX0_pass_r2 : List Cond := [Cond.fieldLink RX0 9 "KindTable" "above" "[I", Cond.methodLink RX0 110 yX0_isBox, Cond.static yX0_isBox, Cond.code yX0_isBox cX0_isBox 1 (some .boolean), Cond.methodLink RX0 119 yX0_mayUnbox, Cond.static yX0_mayUnbox, Cond.code yX0_mayUnbox cX0_mayUnbox 2 (some .boolean), Cond.methodLink RX0 113 yX0_isOfNumbers, Cond.static yX0_isOfNumbers, Cond.code yX0_isOfNumbers cX0_isOfNumbers 1 (some .boolean), Cond.methodLink RX0 63 yX0_fits, Cond.static yX0_fits, Cond.code yX0_fits cX0_fits 3 (some .boolean), Cond.methodLink RX0 122 yX0_lowest, Cond.static yX0_lowest, Cond.code yX0_lowest cX0_lowest 3 (some .long), Cond.methodLink RX0 67 yX0_passPlain, Cond.instanceMethod yX0_passPlain, Cond.selects RX0 yX0_passPlain yX0_passPlain, Cond.code yX0_passPlain cX0_passPlain 5 (some .int), Cond.methodLink RX0 126 yX0_keep, Cond.instanceMethod yX0_keep, Cond.selects RX0 yX0_keep yX0_keep, Cond.code yX0_keep cX0_keep 4 (some .int)]
def wsX0_pass_r3 : List Cond := [Cond.fieldLink RX0 34 "KindTable" "passedKind" "I", Cond.fieldLink RX0 37 "KindTable" "passedNumber" "J", Cond.methodLink RX0 71 yX0_passNull, Cond.instanceMethod yX0_passNull, Cond.selects RX0 yX0_passNull yX0_passNull, Cond.code yX0_passNull cX0_passNull 3 (some .int), Cond.methodLink RX0 75 yX0_isObject, Cond.instanceMethod yX0_isObject, Cond.selects RX0 yX0_isObject yX0_isObject, Cond.code yX0_isObject cX0_isObject 4 (some .boolean), Cond.methodLink RX0 78 yX0_passAsPlain, Cond.instanceMethod yX0_passAsPlain, Cond.selects RX0 yX0_passAsPlain yX0_passAsPlain, Cond.code yX0_passAsPlain cX0_passAsPlain 6 (some .int), Cond.methodLink RX0 82 yX0_passAsReference, Cond.instanceMethod yX0_passAsReference, Cond.selects RX0 yX0_passAsReference yX0_passAsReference, Cond.code yX0_passAsReference cX0_passAsReference 5 (some .int)]
def wsX0_pass : List Cond := .code yX0_pass cX0_pass 7 (some .int) :: ((wsX0_pass_r1 ++ (wsX0_pass_r2 ++ wsX0_pass_r3)) ++ wsX00)
def wsX0_kind : List Cond := .code yX0_kind cX0_kind 1 (some .int) :: ([.fieldLink RX0 34 "KindTable" "passedKind" "I"] ++ wsX00)
def wsX0_number : List Cond := .code yX0_number cX0_number 1 (some .long) :: ([.fieldLink RX0 37 "KindTable" "passedNumber" "J"] ++ wsX00)
def wsX0_put : List Cond := .code yX0_put cX0_put 2 (some .boolean) :: ([.fieldLink RX0 24 "KindTable" "rowLength" "I", .fieldLink RX0 21 "KindTable" "row" "[I"] ++ wsX00)
def wsX0_placesOf : List Cond := .code yX0_placesOf cX0_placesOf 2 (some .int) :: ([.constantLong RX0 132 (15)])
def wsX0_placeBit : List Cond := .code yX0_placeBit cX0_placeBit 1 (some .int) :: ([])
def wsX0_withPlace : List Cond := .code yX0_withPlace cX0_withPlace 3 (some .long) :: ([.constantLong RX0 137 (32), .methodLink RX0 99 yX0_placesOf, .static yX0_placesOf, .initialized RX0, .code yX0_placesOf cX0_placesOf 2 (some .int), .constantLong RX0 132 (15), .methodLink RX0 134 yX0_placeBit, .static yX0_placeBit, .code yX0_placeBit cX0_placeBit 1 (some .int)])
def wsX0_numberOf : List Cond := .code yX0_numberOf cX0_numberOf 4 (some .int) :: ([.fieldLink RX0 31 "KindTable" "typeCount" "I", .fieldLink RX0 27 "KindTable" "types" "[J"] ++ wsX00)
def wsX0_type_r1 : List Cond := [Cond.fieldLink RX0 24 "KindTable" "rowLength" "I", Cond.fieldLink RX0 21 "KindTable" "row" "[I", Cond.methodLink RX0 45 yX0_isKind, Cond.instanceMethod yX0_isKind, Cond.selects RX0 yX0_isKind yX0_isKind, Cond.initialized RX0, Cond.code yX0_isKind cX0_isKind 2 (some .boolean), Cond.fieldLink RX0 17 "KindTable" "kindCount" "I", Cond.methodLink RX0 85 yX0_withPlace, Cond.static yX0_withPlace, Cond.code yX0_withPlace cX0_withPlace 3 (some .long), Cond.constantLong RX0 137 (32), Cond.methodLink RX0 99 yX0_placesOf, Cond.static yX0_placesOf, Cond.code yX0_placesOf cX0_placesOf 2 (some .int), Cond.constantLong RX0 132 (15), Cond.methodLink RX0 134 yX0_placeBit, Cond.static yX0_placeBit, Cond.code yX0_placeBit cX0_placeBit 1 (some .int), Cond.methodLink RX0 89 yX0_numberOf, Cond.instanceMethod yX0_numberOf, Cond.selects RX0 yX0_numberOf yX0_numberOf, Cond.code yX0_numberOf cX0_numberOf 4 (some .int), Cond.fieldLink RX0 31 "KindTable" "typeCount" "I"]
def wsX0_type_r2 : List Cond := [Cond.fieldLink RX0 27 "KindTable" "types" "[J"]
def wsX0_type : List Cond := .code yX0_type cX0_type 6 (some .int) :: ((wsX0_type_r1 ++ wsX0_type_r2) ++ wsX00)
def wsX0_isType : List Cond := .code yX0_isType cX0_isType 2 (some .boolean) :: ([.fieldLink RX0 31 "KindTable" "typeCount" "I"] ++ wsX00)
def wsX0_resultOf : List Cond := .code yX0_resultOf cX0_resultOf 2 (some .int) :: ([.constantLong RX0 130 (31)])
def wsX0_placeOf : List Cond := .code yX0_placeOf cX0_placeOf 3 (some .int) :: ([.constantLong RX0 130 (31), .methodLink RX0 134 yX0_placeBit, .static yX0_placeBit, .initialized RX0, .code yX0_placeBit cX0_placeBit 1 (some .int)])
def wsX0_typeAbout : List Cond := .code yX0_typeAbout cX0_typeAbout 5 (some .int) :: ([.fieldLink RX0 27 "KindTable" "types" "[J", .methodLink RX0 93 yX0_isType, .instanceMethod yX0_isType, .selects RX0 yX0_isType yX0_isType, .initialized RX0, .code yX0_isType cX0_isType 2 (some .boolean), .fieldLink RX0 31 "KindTable" "typeCount" "I", .methodLink RX0 96 yX0_resultOf, .static yX0_resultOf, .code yX0_resultOf cX0_resultOf 2 (some .int), .constantLong RX0 130 (31), .methodLink RX0 99 yX0_placesOf, .static yX0_placesOf, .code yX0_placesOf cX0_placesOf 2 (some .int), .constantLong RX0 132 (15), .methodLink RX0 102 yX0_placeOf, .static yX0_placeOf, .code yX0_placeOf cX0_placeOf 3 (some .int), .methodLink RX0 134 yX0_placeBit, .static yX0_placeBit, .code yX0_placeBit cX0_placeBit 1 (some .int)] ++ wsX00)
def wsX0_mayBe_r1 : List Cond := [Cond.fieldLink RX0 27 "KindTable" "types" "[J", Cond.methodLink RX0 93 yX0_isType, Cond.instanceMethod yX0_isType, Cond.selects RX0 yX0_isType yX0_isType, Cond.initialized RX0, Cond.code yX0_isType cX0_isType 2 (some .boolean), Cond.fieldLink RX0 31 "KindTable" "typeCount" "I", Cond.methodLink RX0 99 yX0_placesOf, Cond.static yX0_placesOf, Cond.code yX0_placesOf cX0_placesOf 2 (some .int), Cond.constantLong RX0 132 (15), Cond.methodLink RX0 96 yX0_resultOf, Cond.static yX0_resultOf, Cond.code yX0_resultOf cX0_resultOf 2 (some .int), Cond.constantLong RX0 130 (31), Cond.methodLink RX0 56 yX0_may, Cond.instanceMethod yX0_may, Cond.selects RX0 yX0_may yX0_may, Cond.code yX0_may cX0_may 5 (some .boolean), Cond.methodLink RX0 45 yX0_isKind, Cond.instanceMethod yX0_isKind, Cond.selects RX0 yX0_isKind yX0_isKind, Cond.code yX0_isKind cX0_isKind 2 (some .boolean), Cond.fieldLink RX0 17 "KindTable" "kindCount" "I"]
def wsX0_mayBe_r2 : List Cond := [Cond.methodLink RX0 52 yX0_mayPass, Cond.instanceMethod yX0_mayPass, Cond.selects RX0 yX0_mayPass yX0_mayPass, Cond.code yX0_mayPass cX0_mayPass 4 (some .boolean), Cond.methodLink RX0 60 yX0_isPlain, Cond.static yX0_isPlain, Cond.code yX0_isPlain cX0_isPlain 1 (some .boolean), Cond.methodLink RX0 116 yX0_mayWiden, Cond.static yX0_mayWiden, Cond.code yX0_mayWiden cX0_mayWiden 2 (some .boolean), Cond.methodLink RX0 48 yX0_isBelow, Cond.instanceMethod yX0_isBelow, Cond.selects RX0 yX0_isBelow yX0_isBelow, Cond.code yX0_isBelow cX0_isBelow 3 (some .boolean), Cond.fieldLink RX0 9 "KindTable" "above" "[I", Cond.methodLink RX0 110 yX0_isBox, Cond.static yX0_isBox, Cond.code yX0_isBox cX0_isBox 1 (some .boolean), Cond.methodLink RX0 119 yX0_mayUnbox, Cond.static yX0_mayUnbox, Cond.code yX0_mayUnbox cX0_mayUnbox 2 (some .boolean), Cond.methodLink RX0 113 yX0_isOfNumbers, Cond.static yX0_isOfNumbers, Cond.code yX0_isOfNumbers cX0_isOfNumbers 1 (some .boolean)]
def wsX0_mayBe_r3 : List Cond := [Cond.methodLink RX0 102 yX0_placeOf, Cond.static yX0_placeOf, Cond.code yX0_placeOf cX0_placeOf 3 (some .int), Cond.methodLink RX0 134 yX0_placeBit, Cond.static yX0_placeBit, Cond.code yX0_placeBit cX0_placeBit 1 (some .int)]
def wsX0_mayBe : List Cond := .code yX0_mayBe cX0_mayBe 10 (some .boolean) :: ((wsX0_mayBe_r1 ++ (wsX0_mayBe_r2 ++ wsX0_mayBe_r3)) ++ wsX00)
def wsX0_withPlacesOf : List Cond := .code yX0_withPlacesOf cX0_withPlacesOf 9 (some .long) :: ([.methodLink RX0 102 yX0_placeOf, .static yX0_placeOf, .initialized RX0, .code yX0_placeOf cX0_placeOf 3 (some .int), .constantLong RX0 130 (31), .methodLink RX0 134 yX0_placeBit, .static yX0_placeBit, .code yX0_placeBit cX0_placeBit 1 (some .int), .methodLink RX0 85 yX0_withPlace, .static yX0_withPlace, .code yX0_withPlace cX0_withPlace 3 (some .long), .constantLong RX0 137 (32), .methodLink RX0 99 yX0_placesOf, .static yX0_placesOf, .code yX0_placesOf cX0_placesOf 2 (some .int), .constantLong RX0 132 (15)])
def wsX0_changed_r1 : List Cond := [Cond.fieldLink RX0 27 "KindTable" "types" "[J", Cond.methodLink RX0 93 yX0_isType, Cond.instanceMethod yX0_isType, Cond.selects RX0 yX0_isType yX0_isType, Cond.initialized RX0, Cond.code yX0_isType cX0_isType 2 (some .boolean), Cond.fieldLink RX0 31 "KindTable" "typeCount" "I", Cond.methodLink RX0 99 yX0_placesOf, Cond.static yX0_placesOf, Cond.code yX0_placesOf cX0_placesOf 2 (some .int), Cond.constantLong RX0 132 (15), Cond.methodLink RX0 96 yX0_resultOf, Cond.static yX0_resultOf, Cond.code yX0_resultOf cX0_resultOf 2 (some .int), Cond.constantLong RX0 130 (31), Cond.methodLink RX0 106 yX0_withPlacesOf, Cond.static yX0_withPlacesOf, Cond.code yX0_withPlacesOf cX0_withPlacesOf 9 (some .long), Cond.methodLink RX0 102 yX0_placeOf, Cond.static yX0_placeOf, Cond.code yX0_placeOf cX0_placeOf 3 (some .int), Cond.methodLink RX0 134 yX0_placeBit, Cond.static yX0_placeBit, Cond.code yX0_placeBit cX0_placeBit 1 (some .int)]
def wsX0_changed_r2 : List Cond := [Cond.methodLink RX0 85 yX0_withPlace, Cond.static yX0_withPlace, Cond.code yX0_withPlace cX0_withPlace 3 (some .long), Cond.constantLong RX0 137 (32), Cond.methodLink RX0 89 yX0_numberOf, Cond.instanceMethod yX0_numberOf, Cond.selects RX0 yX0_numberOf yX0_numberOf, Cond.code yX0_numberOf cX0_numberOf 4 (some .int)]
def wsX0_changed : List Cond := .code yX0_changed cX0_changed 12 (some .int) :: ((wsX0_changed_r1 ++ wsX0_changed_r2) ++ wsX00)
def wsX1_init : List Cond := .code yX1_init cX1_init 1 none :: ([.methodLink RX1 1 objectInit, .instanceMethod objectInit, .code objectInit ⟨#[0xb1]⟩ 1 none, .arrayClass .int, .fieldLink RX1 7 "KindTableModel" "parent" "[I", .fieldLink RX1 13 "KindTableModel" "typeResult" "[I", .fieldLink RX1 16 "KindTableModel" "typeMany" "[I", .fieldLink RX1 19 "KindTableModel" "typePlace" "[I", .fieldLink RX1 22 "KindTableModel" "row" "[I", .fieldLink RX1 25 "KindTableModel" "newPlace" "[I"] ++ wsX10)
def wsX1_isKind : List Cond := .code yX1_isKind cX1_isKind 2 (some .boolean) :: ([.fieldLink RX1 28 "KindTableModel" "classes" "I"] ++ wsX10)
def wsX1_newClass : List Cond := .code yX1_newClass cX1_newClass 2 (some .int) :: ([.fieldLink RX1 28 "KindTableModel" "classes" "I", .fieldLink RX1 7 "KindTableModel" "parent" "[I", .methodLink RX1 68 yX1_isKind, .instanceMethod yX1_isKind, .selects RX1 yX1_isKind yX1_isKind, .initialized RX1, .code yX1_isKind cX1_isKind 2 (some .boolean)] ++ wsX10)
def wsX1_below : List Cond := .code yX1_below cX1_below 3 (some .boolean) :: ([.methodLink RX1 68 yX1_isKind, .instanceMethod yX1_isKind, .selects RX1 yX1_isKind yX1_isKind, .initialized RX1, .code yX1_isKind cX1_isKind 2 (some .boolean), .fieldLink RX1 28 "KindTableModel" "classes" "I"] ++ wsX10)
def wsL_law_r1 : List Cond := [Cond.classLink RL 7 RX0, Cond.instantiable RX0 8, Cond.initialized RX0, Cond.classLink RL 10 RX1, Cond.instantiable RX1 13, Cond.initialized RX1, Cond.methodLink RL 9 yX0_init, Cond.instanceMethod yX0_init, Cond.code yX0_init cX0_init 2 none, Cond.methodLink RX0 3 objectInit, Cond.instanceMethod objectInit, Cond.code objectInit ⟨#[0xb1]⟩ 1 none, Cond.arrayClass .int, Cond.fieldLink RX0 9 "KindTable" "above" "[I", Cond.fieldLink RX0 17 "KindTable" "kindCount" "I", Cond.fieldLink RX0 21 "KindTable" "row" "[I", Cond.fieldLink RX0 24 "KindTable" "rowLength" "I", Cond.arrayClass .long, Cond.fieldLink RX0 27 "KindTable" "types" "[J", Cond.fieldLink RX0 31 "KindTable" "typeCount" "I", Cond.fieldLink RX0 34 "KindTable" "passedKind" "I", Cond.fieldLink RX0 37 "KindTable" "passedNumber" "J", Cond.methodLink RX0 13 yX0_firstAbove, Cond.static yX0_firstAbove]
def wsL_law_r2 : List Cond := [Cond.code yX0_firstAbove cX0_firstAbove 2 (some .int), Cond.methodLink RX0 110 yX0_isBox, Cond.static yX0_isBox, Cond.code yX0_isBox cX0_isBox 1 (some .boolean), Cond.methodLink RX0 113 yX0_isOfNumbers, Cond.static yX0_isOfNumbers, Cond.code yX0_isOfNumbers cX0_isOfNumbers 1 (some .boolean), Cond.methodLink RL 12 yX1_init, Cond.instanceMethod yX1_init, Cond.code yX1_init cX1_init 1 none, Cond.methodLink RX1 1 objectInit, Cond.fieldLink RX1 7 "KindTableModel" "parent" "[I", Cond.fieldLink RX1 13 "KindTableModel" "typeResult" "[I", Cond.fieldLink RX1 16 "KindTableModel" "typeMany" "[I", Cond.fieldLink RX1 19 "KindTableModel" "typePlace" "[I", Cond.fieldLink RX1 22 "KindTableModel" "row" "[I", Cond.fieldLink RX1 25 "KindTableModel" "newPlace" "[I", Cond.methodLink RL 13 yX0_newClass, Cond.instanceMethod yX0_newClass, Cond.selects RX0 yX0_newClass yX0_newClass, Cond.code yX0_newClass cX0_newClass 3 (some .int), Cond.methodLink RX0 41 yX0_mayBeParent, Cond.instanceMethod yX0_mayBeParent, Cond.selects RX0 yX0_mayBeParent yX0_mayBeParent]
def wsL_law_r3 : List Cond := [Cond.code yX0_mayBeParent cX0_mayBeParent 2 (some .boolean), Cond.methodLink RX0 45 yX0_isKind, Cond.instanceMethod yX0_isKind, Cond.selects RX0 yX0_isKind yX0_isKind, Cond.code yX0_isKind cX0_isKind 2 (some .boolean), Cond.methodLink RL 17 yX1_newClass, Cond.instanceMethod yX1_newClass, Cond.selects RX1 yX1_newClass yX1_newClass, Cond.code yX1_newClass cX1_newClass 2 (some .int), Cond.fieldLink RX1 28 "KindTableModel" "classes" "I", Cond.methodLink RX1 68 yX1_isKind, Cond.instanceMethod yX1_isKind, Cond.selects RX1 yX1_isKind yX1_isKind, Cond.code yX1_isKind cX1_isKind 2 (some .boolean), Cond.methodLink RL 18 yX0_below, Cond.instanceMethod yX0_below, Cond.selects RX0 yX0_below yX0_below, Cond.code yX0_below cX0_below 3 (some .boolean), Cond.methodLink RX0 48 yX0_isBelow, Cond.instanceMethod yX0_isBelow, Cond.selects RX0 yX0_isBelow yX0_isBelow, Cond.code yX0_isBelow cX0_isBelow 3 (some .boolean), Cond.methodLink RL 22 yX1_below, Cond.instanceMethod yX1_below]
def wsL_law_r4 : List Cond := [Cond.selects RX1 yX1_below yX1_below, Cond.code yX1_below cX1_below 3 (some .boolean), Cond.methodLink RL 23 yX0_meet, Cond.instanceMethod yX0_meet, Cond.selects RX0 yX0_meet yX0_meet, Cond.code yX0_meet cX0_meet 5 (some .int), Cond.methodLink RL 28 yX0_may, Cond.instanceMethod yX0_may, Cond.selects RX0 yX0_may yX0_may, Cond.code yX0_may cX0_may 5 (some .boolean), Cond.methodLink RX0 52 yX0_mayPass, Cond.instanceMethod yX0_mayPass, Cond.selects RX0 yX0_mayPass yX0_mayPass, Cond.code yX0_mayPass cX0_mayPass 4 (some .boolean), Cond.methodLink RX0 60 yX0_isPlain, Cond.static yX0_isPlain, Cond.code yX0_isPlain cX0_isPlain 1 (some .boolean), Cond.methodLink RX0 116 yX0_mayWiden, Cond.static yX0_mayWiden, Cond.code yX0_mayWiden cX0_mayWiden 2 (some .boolean), Cond.methodLink RX0 119 yX0_mayUnbox, Cond.static yX0_mayUnbox, Cond.code yX0_mayUnbox cX0_mayUnbox 2 (some .boolean), Cond.methodLink RL 35 yX0_pass]
def wsL_law_r5 : List Cond := [Cond.instanceMethod yX0_pass, Cond.selects RX0 yX0_pass yX0_pass, Cond.code yX0_pass cX0_pass 7 (some .int), Cond.methodLink RX0 56 yX0_may, Cond.methodLink RX0 63 yX0_fits, Cond.static yX0_fits, Cond.code yX0_fits cX0_fits 3 (some .boolean), Cond.methodLink RX0 122 yX0_lowest, Cond.static yX0_lowest, Cond.code yX0_lowest cX0_lowest 3 (some .long), Cond.methodLink RX0 67 yX0_passPlain, Cond.instanceMethod yX0_passPlain, Cond.selects RX0 yX0_passPlain yX0_passPlain, Cond.code yX0_passPlain cX0_passPlain 5 (some .int), Cond.methodLink RX0 126 yX0_keep, Cond.instanceMethod yX0_keep, Cond.selects RX0 yX0_keep yX0_keep, Cond.code yX0_keep cX0_keep 4 (some .int), Cond.methodLink RX0 71 yX0_passNull, Cond.instanceMethod yX0_passNull, Cond.selects RX0 yX0_passNull yX0_passNull, Cond.code yX0_passNull cX0_passNull 3 (some .int), Cond.methodLink RX0 75 yX0_isObject, Cond.instanceMethod yX0_isObject]
def wsL_law_r6 : List Cond := [Cond.selects RX0 yX0_isObject yX0_isObject, Cond.code yX0_isObject cX0_isObject 4 (some .boolean), Cond.methodLink RX0 78 yX0_passAsPlain, Cond.instanceMethod yX0_passAsPlain, Cond.selects RX0 yX0_passAsPlain yX0_passAsPlain, Cond.code yX0_passAsPlain cX0_passAsPlain 6 (some .int), Cond.methodLink RX0 82 yX0_passAsReference, Cond.instanceMethod yX0_passAsReference, Cond.selects RX0 yX0_passAsReference yX0_passAsReference, Cond.code yX0_passAsReference cX0_passAsReference 5 (some .int), Cond.methodLink RL 40 yX0_kind, Cond.instanceMethod yX0_kind, Cond.selects RX0 yX0_kind yX0_kind, Cond.code yX0_kind cX0_kind 1 (some .int), Cond.methodLink RL 45 yX0_number, Cond.instanceMethod yX0_number, Cond.selects RX0 yX0_number yX0_number, Cond.code yX0_number cX0_number 1 (some .long), Cond.methodLink RL 50 yX0_put, Cond.instanceMethod yX0_put, Cond.selects RX0 yX0_put yX0_put, Cond.code yX0_put cX0_put 2 (some .boolean), Cond.methodLink RL 55 yX0_type, Cond.instanceMethod yX0_type]
def wsL_law_r7 : List Cond := [Cond.selects RX0 yX0_type yX0_type, Cond.code yX0_type cX0_type 6 (some .int), Cond.methodLink RX0 85 yX0_withPlace, Cond.static yX0_withPlace, Cond.code yX0_withPlace cX0_withPlace 3 (some .long), Cond.constantLong RX0 137 (32), Cond.methodLink RX0 99 yX0_placesOf, Cond.static yX0_placesOf, Cond.code yX0_placesOf cX0_placesOf 2 (some .int), Cond.constantLong RX0 132 (15), Cond.methodLink RX0 134 yX0_placeBit, Cond.static yX0_placeBit, Cond.code yX0_placeBit cX0_placeBit 1 (some .int), Cond.methodLink RX0 89 yX0_numberOf, Cond.instanceMethod yX0_numberOf, Cond.selects RX0 yX0_numberOf yX0_numberOf, Cond.code yX0_numberOf cX0_numberOf 4 (some .int), Cond.methodLink RL 59 yX0_typeAbout, Cond.instanceMethod yX0_typeAbout, Cond.selects RX0 yX0_typeAbout yX0_typeAbout, Cond.code yX0_typeAbout cX0_typeAbout 5 (some .int), Cond.methodLink RX0 93 yX0_isType, Cond.instanceMethod yX0_isType, Cond.selects RX0 yX0_isType yX0_isType]
def wsL_law_r8 : List Cond := [Cond.code yX0_isType cX0_isType 2 (some .boolean), Cond.methodLink RX0 96 yX0_resultOf, Cond.static yX0_resultOf, Cond.code yX0_resultOf cX0_resultOf 2 (some .int), Cond.constantLong RX0 130 (31), Cond.methodLink RX0 102 yX0_placeOf, Cond.static yX0_placeOf, Cond.code yX0_placeOf cX0_placeOf 3 (some .int), Cond.methodLink RL 63 yX0_mayBe, Cond.instanceMethod yX0_mayBe, Cond.selects RX0 yX0_mayBe yX0_mayBe, Cond.code yX0_mayBe cX0_mayBe 10 (some .boolean), Cond.methodLink RL 68 yX0_changed, Cond.instanceMethod yX0_changed, Cond.selects RX0 yX0_changed yX0_changed, Cond.code yX0_changed cX0_changed 12 (some .int), Cond.methodLink RX0 106 yX0_withPlacesOf, Cond.static yX0_withPlacesOf, Cond.code yX0_withPlacesOf cX0_withPlacesOf 9 (some .long)]
def wsL_law : List Cond := (wsL_law_r1 ++ (wsL_law_r2 ++ (wsL_law_r3 ++ (wsL_law_r4 ++ (wsL_law_r5 ++ (wsL_law_r6 ++ (wsL_law_r7 ++ wsL_law_r8))))))) ++ wsX00 ++ wsX10 ++ ([] : List Cond)
set_option maxRecDepth 20000 in
theorem wsL_law_in : ∀ w ∈ wsL_law, w ∈ lw_tbl := fun w h => (goodIn_p wsL_law [28, 31, 34, 37, 40, 205, 71, 75, 79, 250, 254, 83, 87, 258, 91, 95, 99, 102, 105, 108, 112, 116, 119, 123, 127, 131, 135, 139, 143, 147, 151, 155, 159, 162, 166, 170, 174, 178, 182, 185, 189, 193, 197, 200] (by decide +kernel) (by decide +kernel) w h).1
theorem inlX0 : ∀ w ∈ wsX00, w ∈ wsL_law := fun _ h => List.mem_append_left _ (List.mem_append_left _ (List.mem_append_right _ h))
theorem inX0 : ∀ w ∈ wsX00, w ∈ lw_tbl := fun w h => wsL_law_in w (inlX0 w h)
theorem inlX1 : ∀ w ∈ wsX10, w ∈ wsL_law := fun _ h => List.mem_append_left _ (List.mem_append_right _ h)
theorem inX1 : ∀ w ∈ wsX10, w ∈ lw_tbl := fun w h => wsL_law_in w (inlX1 w h)
set_option maxRecDepth 20000 in
theorem ggX0_init_X0_firstAbove : GoodIn wsX0_init wsX0_firstAbove := goodIn_r _ [17, 18, 19, 16, 20, 21, 22, 23] (by decide +kernel) (by decide +kernel)
set_option maxRecDepth 20000 in
theorem gX0_init_X0_firstAbove : GoodIn wsX0_init (va_wsS RX0 13 yX0_firstAbove wsX0_firstAbove) := goodIn_app (goodIn_of _ (by decide +kernel)) ggX0_init_X0_firstAbove
theorem dX0_init_0 : decode cX0_init 0 = .ok (.aload_n 0, 1) := by decide +kernel
theorem dX0_init_1 : decode cX0_init 1 = .ok (.invokespecial 3, 3) := by decide +kernel
theorem dX0_init_4 : decode cX0_init 4 = .ok (.aload_n 0, 1) := by decide +kernel
theorem dX0_init_5 : decode cX0_init 5 = .ok (.bipush 32, 2) := by decide +kernel
theorem dX0_init_7 : decode cX0_init 7 = .ok (.newarray .int, 2) := by decide +kernel
theorem dX0_init_9 : decode cX0_init 9 = .ok (.putfield 9, 3) := by decide +kernel
theorem dX0_init_12 : decode cX0_init 12 = .ok (.iconst 0, 1) := by decide +kernel
theorem dX0_init_13 : decode cX0_init 13 = .ok (.istore_n 1, 1) := by decide +kernel
theorem dX0_init_14 : decode cX0_init 14 = .ok (.iload_n 1, 1) := by decide +kernel
