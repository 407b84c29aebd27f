theorem jt (n : Nat) {w : Cond} (h : tables_1[n]? = some w) (hg : goodWord w = true) : w ∈ jTs := List.mem_filter.mpr ⟨List.mem_append_right _ (List.mem_of_getElem? h), hg⟩
theorem jn (n : Nat) {w : Cond} (h : tables_1[n]? = some w) (hg : jNb w = true) : w ∈ jNs := List.mem_filter.mpr ⟨List.mem_of_getElem? h, hg⟩
theorem jsel (n : Nat) {q : MethodName × Nat} (h : lw_privs[n]? = some q) (hg : goodWord (Cond.selects q.1.cls q.1 q.1) = true) : Cond.selects q.1.cls q.1 q.1 ∈ jTs := List.mem_filter.mpr ⟨List.mem_append_left _ (List.mem_map.mpr ⟨q, List.mem_of_getElem? h, rfl⟩), hg⟩
theorem jin0 : ∀ w ∈ u_ws RX0 TX0 12, w ∈ jTs := by decide +kernel
theorem jin1 : ∀ w ∈ u_ws RX1 TX1 11, w ∈ jTs := by decide +kernel
theorem jin2 : ∀ w ∈ u_ws RX2 TX2 13, w ∈ jTs := by decide +kernel
theorem jin3 : ∀ w ∈ u_ws RX3 TX3 3, w ∈ jTs := by decide +kernel
theorem jin4 : ∀ w ∈ u_ws RX4 TX4 3, w ∈ jTs := by decide +kernel
theorem jin5 : ∀ w ∈ u_ws RX5 TX5 2, w ∈ jTs := by decide +kernel
theorem jin6 : ∀ w ∈ u_ws RX6 TX6 9, w ∈ jTs := by decide +kernel
theorem jin7 : ∀ w ∈ u_ws RX7 TX7 42, w ∈ jTs := by decide +kernel
def KX0_init : jM := (RX0, cX0_init, 1, yX0_init, (none : Option Jvm.ClassFile.FieldType), { frames := 1, cells := 8, slots := 47, locals := 40 })
set_option maxRecDepth 100000 in
theorem okX0_init : jmOK KX0_init := ⟨rfl, by decide +kernel, jt 167 rfl rfl, jt 5 rfl rfl, by decide +kernel, by decide +kernel⟩
def KX0_take : jM := (RX0, cX0_take, 3, yX0_take, (none : Option Jvm.ClassFile.FieldType), { frames := 1, cells := 0, slots := 0, locals := 22 })
set_option maxRecDepth 100000 in
theorem okX0_take : jmOK KX0_take := ⟨rfl, by decide +kernel, jt 539 rfl rfl, jt 5 rfl rfl, by decide +kernel, by decide +kernel⟩
def KX0_takeNew : jM := (RX0, cX0_takeNew, 5, yX0_takeNew, (none : Option Jvm.ClassFile.FieldType), { frames := 1, cells := 0, slots := 0, locals := 22 })
set_option maxRecDepth 100000 in
theorem okX0_takeNew : jmOK KX0_takeNew := ⟨rfl, by decide +kernel, jt 621 rfl rfl, jt 5 rfl rfl, by decide +kernel, by decide +kernel⟩
def KX0_renew : jM := (RX0, cX0_renew, 2, yX0_renew, (none : Option Jvm.ClassFile.FieldType), { frames := 1, cells := 0, slots := 0, locals := 22 })
set_option maxRecDepth 100000 in
theorem okX0_renew : jmOK KX0_renew := ⟨rfl, by decide +kernel, jt 638 rfl rfl, jt 5 rfl rfl, by decide +kernel, by decide +kernel⟩
def KX0_begin : jM := (RX0, cX0_begin, 3, yX0_begin, (none : Option Jvm.ClassFile.FieldType), { frames := 0, cells := 0, slots := 0, locals := 0 })
set_option maxRecDepth 100000 in
theorem okX0_begin : jmOK KX0_begin := ⟨rfl, by decide +kernel, jt 543 rfl rfl, jt 5 rfl rfl, by decide +kernel, by decide +kernel⟩
def KX0_passHours : jM := (RX0, cX0_passHours, 3, yX0_passHours, (none : Option Jvm.ClassFile.FieldType), { frames := 4, cells := 0, slots := 0, locals := 93 })
set_option maxRecDepth 100000 in
theorem okX0_passHours : jmOK KX0_passHours := ⟨rfl, by decide +kernel, jt 547 rfl rfl, jt 5 rfl rfl, by decide +kernel, by decide +kernel⟩
def KX0_passHour : jM := (RX0, cX0_passHour, 4, yX0_passHour, (none : Option Jvm.ClassFile.FieldType), { frames := 3, cells := 0, slots := 0, locals := 70 })
set_option maxRecDepth 100000 in
theorem okX0_passHour : jmOK KX0_passHour := ⟨rfl, by decide +kernel, jt 551 rfl rfl, jt 5 rfl rfl, by decide +kernel, by decide +kernel⟩
def KX0_weigh : jM := (RX0, cX0_weigh, 5, yX0_weigh, (none : Option Jvm.ClassFile.FieldType), { frames := 2, cells := 0, slots := 0, locals := 46 })
set_option maxRecDepth 100000 in
theorem okX0_weigh : jmOK KX0_weigh := ⟨rfl, by decide +kernel, jt 555 rfl rfl, jt 5 rfl rfl, by decide +kernel, by decide +kernel⟩
def KX0_weight : jM := (RX0, cX0_weight, 6, yX0_weight, some .long, { frames := 0, cells := 0, slots := 0, locals := 0 })
set_option maxRecDepth 100000 in
theorem okX0_weight : jmOK KX0_weight := ⟨rfl, by decide +kernel, jt 562 rfl rfl, jt 5 rfl rfl, by decide +kernel, by decide +kernel⟩
def KX0_all : jM := (RX0, cX0_all, 1, yX0_all, some .long, { frames := 1, cells := 0, slots := 0, locals := 23 })
set_option maxRecDepth 100000 in
theorem okX0_all : jmOK KX0_all := ⟨rfl, by decide +kernel, jt 709 rfl rfl, jt 5 rfl rfl, by decide +kernel, by decide +kernel⟩
def KX0_held : jM := (RX0, cX0_held, 4, yX0_held, some .long, { frames := 0, cells := 0, slots := 0, locals := 0 })
set_option maxRecDepth 100000 in
theorem okX0_held : jmOK KX0_held := ⟨rfl, by decide +kernel, jt 567 rfl rfl, jt 5 rfl rfl, by decide +kernel, by decide +kernel⟩
def KX0_justWhole : jM := (RX0, cX0_justWhole, 5, yX0_justWhole, some .long, { frames := 1, cells := 0, slots := 0, locals := 20 })
set_option maxRecDepth 100000 in
theorem okX0_justWhole : jmOK KX0_justWhole := ⟨rfl, by decide +kernel, jt 584 rfl rfl, jt 5 rfl rfl, by decide +kernel, by decide +kernel⟩
def KX0_keepOnly : jM := (RX0, cX0_keepOnly, 3, yX0_keepOnly, (none : Option Jvm.ClassFile.FieldType), { frames := 1, cells := 0, slots := 0, locals := 20 })
set_option maxRecDepth 100000 in
theorem okX0_keepOnly : jmOK KX0_keepOnly := ⟨rfl, by decide +kernel, jt 705 rfl rfl, jt 5 rfl rfl, by decide +kernel, by decide +kernel⟩
def KX0_holdsBy : jM := (RX0, cX0_holdsBy, 3, yX0_holdsBy, some .boolean, { frames := 1, cells := 0, slots := 0, locals := 23 })
set_option maxRecDepth 100000 in
theorem okX0_holdsBy : jmOK KX0_holdsBy := ⟨rfl, by decide +kernel, jt 625 rfl rfl, jt 5 rfl rfl, by decide +kernel, by decide +kernel⟩
def KX0_foresee : jM := (RX0, cX0_foresee, 2, yX0_foresee, (none : Option Jvm.ClassFile.FieldType), { frames := 4, cells := 0, slots := 0, locals := 93 })
set_option maxRecDepth 100000 in
theorem okX0_foresee : jmOK KX0_foresee := ⟨rfl, by decide +kernel, jt 668 rfl rfl, jt 5 rfl rfl, by decide +kernel, by decide +kernel⟩
def KX0_sitting : jM := (RX0, cX0_sitting, 13, yX0_sitting, some .long, { frames := 3, cells := 0, slots := 0, locals := 70 })
set_option maxRecDepth 100000 in
theorem okX0_sitting : jmOK KX0_sitting := ⟨rfl, by decide +kernel, jt 596 rfl rfl, jt 5 rfl rfl, by decide +kernel, by decide +kernel⟩
def KX0_contest : jM := (RX0, cX0_contest, 13, yX0_contest, (none : Option Jvm.ClassFile.FieldType), { frames := 3, cells := 0, slots := 0, locals := 70 })
set_option maxRecDepth 100000 in
theorem okX0_contest : jmOK KX0_contest := ⟨rfl, by decide +kernel, jt 647 rfl rfl, jt 5 rfl rfl, by decide +kernel, by decide +kernel⟩
def KX0_duelHour : jM := (RX0, cX0_duelHour, 17, yX0_duelHour, (none : Option Jvm.ClassFile.FieldType), { frames := 1, cells := 0, slots := 0, locals := 25 })
set_option maxRecDepth 100000 in
theorem okX0_duelHour : jmOK KX0_duelHour := ⟨rfl, by decide +kernel, jt 651 rfl rfl, jt 5 rfl rfl, by decide +kernel, by decide +kernel⟩
def KX0_clearGains : jM := (RX0, cX0_clearGains, 2, yX0_clearGains, (none : Option Jvm.ClassFile.FieldType), { frames := 0, cells := 0, slots := 0, locals := 0 })
set_option maxRecDepth 100000 in
theorem okX0_clearGains : jmOK KX0_clearGains := ⟨rfl, by decide +kernel, jt 599 rfl rfl, jt 5 rfl rfl, by decide +kernel, by decide +kernel⟩
def KX1_init : jM := (RX1, cX1_init, 1, yX1_init, (none : Option Jvm.ClassFile.FieldType), { frames := 2, cells := 9, slots := 195, locals := 60 })
set_option maxRecDepth 100000 in
theorem okX1_init : jmOK KX1_init := ⟨rfl, by decide +kernel, jt 105 rfl rfl, jt 3 rfl rfl, by decide +kernel, by decide +kernel⟩
def KX1_readAll : jM := (RX1, cX1_readAll, 3, yX1_readAll, some .int, { frames := 10, cells := 0, slots := 0, locals := 229 })
set_option maxRecDepth 100000 in
theorem okX1_readAll : jmOK KX1_readAll := ⟨rfl, by decide +kernel, jt 300 rfl rfl, jt 3 rfl rfl, by decide +kernel, by decide +kernel⟩
def KX1_readLine : jM := (RX1, cX1_readLine, 1, yX1_readLine, some .boolean, { frames := 9, cells := 0, slots := 0, locals := 209 })
set_option maxRecDepth 100000 in
theorem okX1_readLine : jmOK KX1_readLine := ⟨rfl, by decide +kernel, jt 320 rfl rfl, jt 3 rfl rfl, by decide +kernel, by decide +kernel⟩
def KX1_readHair : jM := (RX1, cX1_readHair, 2, yX1_readHair, some .boolean, { frames := 8, cells := 0, slots := 0, locals := 188 })
set_option maxRecDepth 100000 in
theorem okX1_readHair : jmOK KX1_readHair := ⟨rfl, by decide +kernel, jt 377 rfl rfl, jt 3 rfl rfl, by decide +kernel, by decide +kernel⟩
def KX1_readKing : jM := (RX1, cX1_readKing, 2, yX1_readKing, some .boolean, { frames := 3, cells := 0, slots := 0, locals := 66 })
set_option maxRecDepth 100000 in
theorem okX1_readKing : jmOK KX1_readKing := ⟨rfl, by decide +kernel, jt 404 rfl rfl, jt 3 rfl rfl, by decide +kernel, by decide +kernel⟩
def KX1_readLaw : jM := (RX1, cX1_readLaw, 2, yX1_readLaw, some .boolean, { frames := 3, cells := 0, slots := 0, locals := 66 })
set_option maxRecDepth 100000 in
theorem okX1_readLaw : jmOK KX1_readLaw := ⟨rfl, by decide +kernel, jt 413 rfl rfl, jt 3 rfl rfl, by decide +kernel, by decide +kernel⟩
def KX1_readLoad : jM := (RX1, cX1_readLoad, 1, yX1_readLoad, some .boolean, { frames := 3, cells := 0, slots := 0, locals := 66 })
set_option maxRecDepth 100000 in
theorem okX1_readLoad : jmOK KX1_readLoad := ⟨rfl, by decide +kernel, jt 422 rfl rfl, jt 3 rfl rfl, by decide +kernel, by decide +kernel⟩
def KX1_readPrize : jM := (RX1, cX1_readPrize, 1, yX1_readPrize, some .boolean, { frames := 3, cells := 0, slots := 0, locals := 66 })
set_option maxRecDepth 100000 in
theorem okX1_readPrize : jmOK KX1_readPrize := ⟨rfl, by decide +kernel, jt 427 rfl rfl, jt 3 rfl rfl, by decide +kernel, by decide +kernel⟩
def KX1_readBroken : jM := (RX1, cX1_readBroken, 1, yX1_readBroken, some .boolean, { frames := 3, cells := 0, slots := 0, locals := 66 })
set_option maxRecDepth 100000 in
theorem okX1_readBroken : jmOK KX1_readBroken := ⟨rfl, by decide +kernel, jt 432 rfl rfl, jt 3 rfl rfl, by decide +kernel, by decide +kernel⟩
def KX1_readNumber : jM := (RX1, cX1_readNumber, 4, yX1_readNumber, some .boolean, { frames := 2, cells := 0, slots := 0, locals := 43 })
set_option maxRecDepth 100000 in
theorem okX1_readNumber : jmOK KX1_readNumber := ⟨rfl, by decide +kernel, jt 390 rfl rfl, jt 3 rfl rfl, by decide +kernel, by decide +kernel⟩
def KX1_readStop : jM := (RX1, cX1_readStop, 1, yX1_readStop, some .boolean, { frames := 2, cells := 0, slots := 0, locals := 43 })
set_option maxRecDepth 100000 in
theorem okX1_readStop : jmOK KX1_readStop := ⟨rfl, by decide +kernel, jt 399 rfl rfl, jt 3 rfl rfl, by decide +kernel, by decide +kernel⟩
def KX1_spelledKind : jM := (RX1, cX1_spelledKind, 1, yX1_spelledKind, some .int, { frames := 7, cells := 0, slots := 0, locals := 168 })
set_option maxRecDepth 100000 in
theorem okX1_spelledKind : jmOK KX1_spelledKind := ⟨rfl, by decide +kernel, jt 381 rfl rfl, jt 3 rfl rfl, by decide +kernel, by decide +kernel⟩
def KX1_spells : jM := (RX1, cX1_spells, 3, yX1_spells, some .boolean, { frames := 6, cells := 0, slots := 0, locals := 146 })
set_option maxRecDepth 100000 in
theorem okX1_spells : jmOK KX1_spells := ⟨rfl, by decide +kernel, jt 325 rfl rfl, jt 3 rfl rfl, by decide +kernel, by decide +kernel⟩
def KX1_nextToken : jM := (RX1, cX1_nextToken, 2, yX1_nextToken, some .boolean, { frames := 1, cells := 0, slots := 0, locals := 22 })
set_option maxRecDepth 100000 in
theorem okX1_nextToken : jmOK KX1_nextToken := ⟨rfl, by decide +kernel, jt 305 rfl rfl, jt 3 rfl rfl, by decide +kernel, by decide +kernel⟩
def KX1_sortOf : jM := (RX1, cX1_sortOf, 1, yX1_sortOf, some .int, { frames := 0, cells := 0, slots := 0, locals := 0 })
set_option maxRecDepth 100000 in
theorem okX1_sortOf : jmOK KX1_sortOf := ⟨rfl, by decide +kernel, jt 312 rfl rfl, jt 3 rfl rfl, by decide +kernel, by decide +kernel⟩
def KX1_fail : jM := (RX1, cX1_fail, 3, yX1_fail, some .boolean, { frames := 0, cells := 0, slots := 0, locals := 0 })
set_option maxRecDepth 100000 in
theorem okX1_fail : jmOK KX1_fail := ⟨rfl, by decide +kernel, jt 316 rfl rfl, jt 3 rfl rfl, by decide +kernel, by decide +kernel⟩
def KX2_init : jM := (RX2, cX2_init, 1, yX2_init, (none : Option Jvm.ClassFile.FieldType), { frames := 1, cells := 6, slots := 20, locals := 40 })
set_option maxRecDepth 100000 in
theorem okX2_init : jmOK KX2_init := ⟨rfl, by decide +kernel, jt 27 rfl rfl, jt 2 rfl rfl, by decide +kernel, by decide +kernel⟩
def KX2_clear : jM := (RX2, cX2_clear, 1, yX2_clear, (none : Option Jvm.ClassFile.FieldType), { frames := 0, cells := 0, slots := 0, locals := 0 })
set_option maxRecDepth 100000 in
theorem okX2_clear : jmOK KX2_clear := ⟨rfl, by decide +kernel, jt 32 rfl rfl, jt 2 rfl rfl, by decide +kernel, by decide +kernel⟩
def KX2_copy : jM := (RX2, cX2_copy, 2, yX2_copy, (none : Option Jvm.ClassFile.FieldType), { frames := 1, cells := 0, slots := 0, locals := 22 })
set_option maxRecDepth 100000 in
theorem okX2_copy : jmOK KX2_copy := ⟨rfl, by decide +kernel, jt 436 rfl rfl, jt 2 rfl rfl, by decide +kernel, by decide +kernel⟩
def KX2_copyRow : jM := (RX2, cX2_copyRow, 3, yX2_copyRow, (none : Option Jvm.ClassFile.FieldType), { frames := 0, cells := 0, slots := 0, locals := 0 })
set_option maxRecDepth 100000 in
theorem okX2_copyRow : jmOK KX2_copyRow := ⟨rfl, by decide +kernel, jt 439 rfl rfl, jt 2 rfl rfl, by decide +kernel, by decide +kernel⟩
def KX2_addHair : jM := (RX2, cX2_addHair, 3, yX2_addHair, some .boolean, { frames := 0, cells := 0, slots := 0, locals := 0 })
set_option maxRecDepth 100000 in
theorem okX2_addHair : jmOK KX2_addHair := ⟨rfl, by decide +kernel, jt 395 rfl rfl, jt 2 rfl rfl, by decide +kernel, by decide +kernel⟩
def KX2_addKing : jM := (RX2, cX2_addKing, 3, yX2_addKing, some .boolean, { frames := 0, cells := 0, slots := 0, locals := 0 })
set_option maxRecDepth 100000 in
theorem okX2_addKing : jmOK KX2_addKing := ⟨rfl, by decide +kernel, jt 408 rfl rfl, jt 2 rfl rfl, by decide +kernel, by decide +kernel⟩
def KX2_addLaw : jM := (RX2, cX2_addLaw, 3, yX2_addLaw, some .boolean, { frames := 0, cells := 0, slots := 0, locals := 0 })
set_option maxRecDepth 100000 in
theorem okX2_addLaw : jmOK KX2_addLaw := ⟨rfl, by decide +kernel, jt 417 rfl rfl, jt 2 rfl rfl, by decide +kernel, by decide +kernel⟩
def KX2_wholeBit : jM := (RX2, cX2_wholeBit, 2, yX2_wholeBit, some .int, { frames := 0, cells := 0, slots := 0, locals := 0 })
set_option maxRecDepth 100000 in
theorem okX2_wholeBit : jmOK KX2_wholeBit := ⟨rfl, by decide +kernel, jt 455 rfl rfl, jt 2 rfl rfl, by decide +kernel, by decide +kernel⟩
def KX2_breaks : jM := (RX2, cX2_breaks, 2, yX2_breaks, some .int, { frames := 2, cells := 0, slots := 0, locals := 46 })
set_option maxRecDepth 100000 in
theorem okX2_breaks : jmOK KX2_breaks := ⟨rfl, by decide +kernel, jt 459 rfl rfl, jt 2 rfl rfl, by decide +kernel, by decide +kernel⟩
def KX2_tryHour : jM := (RX2, cX2_tryHour, 2, yX2_tryHour, some .int, { frames := 2, cells := 0, slots := 0, locals := 43 })
set_option maxRecDepth 100000 in
theorem okX2_tryHour : jmOK KX2_tryHour := ⟨rfl, by decide +kernel, jt 514 rfl rfl, jt 2 rfl rfl, by decide +kernel, by decide +kernel⟩
def KX2_passHour : jM := (RX2, cX2_passHour, 3, yX2_passHour, (none : Option Jvm.ClassFile.FieldType), { frames := 1, cells := 0, slots := 0, locals := 21 })
set_option maxRecDepth 100000 in
theorem okX2_passHour : jmOK KX2_passHour := ⟨rfl, by decide +kernel, jt 518 rfl rfl, jt 2 rfl rfl, by decide +kernel, by decide +kernel⟩
def KX2_allAges : jM := (RX2, cX2_allAges, 3, yX2_allAges, some .int, { frames := 0, cells := 0, slots := 0, locals := 0 })
set_option maxRecDepth 100000 in
theorem okX2_allAges : jmOK KX2_allAges := ⟨rfl, by decide +kernel, jt 771 rfl rfl, jt 2 rfl rfl, by decide +kernel, by decide +kernel⟩
def KX3_init : jM := (RX3, cX3_init, 1, yX3_init, (none : Option Jvm.ClassFile.FieldType), { frames := 1, cells := 2, slots := 12, locals := 40 })
set_option maxRecDepth 100000 in
theorem okX3_init : jmOK KX3_init := ⟨rfl, by decide +kernel, jt 215 rfl rfl, jt 6 rfl rfl, by decide +kernel, by decide +kernel⟩
def KX3_append : jM := (RX3, cX3_append, 3, yX3_append, some .boolean, { frames := 0, cells := 0, slots := 0, locals := 0 })
set_option maxRecDepth 100000 in
theorem okX3_append : jmOK KX3_append := ⟨rfl, by decide +kernel, jt 684 rfl rfl, jt 6 rfl rfl, by decide +kernel, by decide +kernel⟩
def KX3_lastHour : jM := (RX3, cX3_lastHour, 3, yX3_lastHour, some .int, { frames := 1, cells := 0, slots := 0, locals := 21 })
set_option maxRecDepth 100000 in
theorem okX3_lastHour : jmOK KX3_lastHour := ⟨rfl, by decide +kernel, jt 700 rfl rfl, jt 6 rfl rfl, by decide +kernel, by decide +kernel⟩
def KX4_init : jM := (RX4, cX4_init, 1, yX4_init, (none : Option Jvm.ClassFile.FieldType), { frames := 1, cells := 1, slots := 40, locals := 40 })
set_option maxRecDepth 100000 in
theorem okX4_init : jmOK KX4_init := ⟨rfl, by decide +kernel, jt 235 rfl rfl, jt 7 rfl rfl, by decide +kernel, by decide +kernel⟩
def KX4_renew : jM := (RX4, cX4_renew, 4, yX4_renew, (none : Option Jvm.ClassFile.FieldType), { frames := 1, cells := 0, slots := 0, locals := 21 })
set_option maxRecDepth 100000 in
theorem okX4_renew : jmOK KX4_renew := ⟨rfl, by decide +kernel, jt 735 rfl rfl, jt 7 rfl rfl, by decide +kernel, by decide +kernel⟩
def KX4_faultAt : jM := (RX4, cX4_faultAt, 2, yX4_faultAt, some .int, { frames := 1, cells := 0, slots := 0, locals := 22 })
set_option maxRecDepth 100000 in
theorem okX4_faultAt : jmOK KX4_faultAt := ⟨rfl, by decide +kernel, jt 744 rfl rfl, jt 7 rfl rfl, by decide +kernel, by decide +kernel⟩
def KX4_faultAs : jM := (RX4, cX4_faultAs, 3, yX4_faultAs, some .int, { frames := 2, cells := 0, slots := 0, locals := 43 })
set_option maxRecDepth 100000 in
theorem okX4_faultAs : jmOK KX4_faultAs := ⟨rfl, by decide +kernel, jt 757 rfl rfl, jt 7 rfl rfl, by decide +kernel, by decide +kernel⟩
def KX4_write : jM := (RX4, cX4_write, 3, yX4_write, (none : Option Jvm.ClassFile.FieldType), { frames := 1, cells := 0, slots := 0, locals := 22 })
set_option maxRecDepth 100000 in
theorem okX4_write : jmOK KX4_write := ⟨rfl, by decide +kernel, jt 749 rfl rfl, jt 7 rfl rfl, by decide +kernel, by decide +kernel⟩
def KX5_init : jM := (RX5, cX5_init, 1, yX5_init, (none : Option Jvm.ClassFile.FieldType), { frames := 1, cells := 1, slots := 160, locals := 40 })
set_option maxRecDepth 100000 in
theorem okX5_init : jmOK KX5_init := ⟨rfl, by decide +kernel, jt 111 rfl rfl, jt 4 rfl rfl, by decide +kernel, by decide +kernel⟩
def KX5_append : jM := (RX5, cX5_append, 2, yX5_append, some .boolean, { frames := 0, cells := 0, slots := 0, locals := 0 })
set_option maxRecDepth 100000 in
theorem okX5_append : jmOK KX5_append := ⟨rfl, by decide +kernel, jt 288 rfl rfl, jt 4 rfl rfl, by decide +kernel, by decide +kernel⟩
def KX5_byteAt : jM := (RX5, cX5_byteAt, 2, yX5_byteAt, some .int, { frames := 0, cells := 0, slots := 0, locals := 0 })
set_option maxRecDepth 100000 in
theorem okX5_byteAt : jmOK KX5_byteAt := ⟨rfl, by decide +kernel, jt 309 rfl rfl, jt 4 rfl rfl, by decide +kernel, by decide +kernel⟩
def KX6_init : jM := (RX6, cX6_init, 2, yX6_init, (none : Option Jvm.ClassFile.FieldType), { frames := 3, cells := 0, slots := 0, locals := 80 })
set_option maxRecDepth 100000 in
theorem okX6_init : jmOK KX6_init := ⟨rfl, by decide +kernel, jt 19 rfl rfl, jt 1 rfl rfl, by decide +kernel, by decide +kernel⟩
def KX6_feed : jM := (RX6, cX6_feed, 2, yX6_feed, some .int, { frames := 1, cells := 0, slots := 0, locals := 22 })
set_option maxRecDepth 100000 in
theorem okX6_feed : jmOK KX6_feed := ⟨rfl, by decide +kernel, jt 281 rfl rfl, jt 1 rfl rfl, by decide +kernel, by decide +kernel⟩
def KX6_end : jM := (RX6, cX6_end, 3, yX6_end, some .int, { frames := 1, cells := 0, slots := 0, locals := 22 })
set_option maxRecDepth 100000 in
theorem okX6_end : jmOK KX6_end := ⟨rfl, by decide +kernel, jt 292 rfl rfl, jt 1 rfl rfl, by decide +kernel, by decide +kernel⟩
def KX6_text : jM := (RX6, cX6_text, 3, yX6_text, some .int, { frames := 11, cells := 0, slots := 0, locals := 251 })
set_option maxRecDepth 100000 in
theorem okX6_text : jmOK KX6_text := ⟨rfl, by decide +kernel, jt 296 rfl rfl, jt 1 rfl rfl, by decide +kernel, by decide +kernel⟩
def KX6_fault : jM := (RX6, cX6_fault, 1, yX6_fault, some .int, { frames := 0, cells := 0, slots := 0, locals := 0 })
set_option maxRecDepth 100000 in
theorem okX6_fault : jmOK KX6_fault := ⟨rfl, by decide +kernel, jt 443 rfl rfl, jt 1 rfl rfl, by decide +kernel, by decide +kernel⟩
def KX6_rule : jM := (RX6, cX6_rule, 2, yX6_rule, some .int, { frames := 0, cells := 0, slots := 0, locals := 0 })
set_option maxRecDepth 100000 in
theorem okX6_rule : jmOK KX6_rule := ⟨rfl, by decide +kernel, jt 447 rfl rfl, jt 1 rfl rfl, by decide +kernel, by decide +kernel⟩
def KX6_hair : jM := (RX6, cX6_hair, 3, yX6_hair, some .int, { frames := 3, cells := 0, slots := 0, locals := 67 })
set_option maxRecDepth 100000 in
theorem okX6_hair : jmOK KX6_hair := ⟨rfl, by decide +kernel, jt 451 rfl rfl, jt 1 rfl rfl, by decide +kernel, by decide +kernel⟩
def KX6_king : jM := (RX6, cX6_king, 3, yX6_king, some .int, { frames := 1, cells := 0, slots := 0, locals := 22 })
set_option maxRecDepth 100000 in
theorem okX6_king : jmOK KX6_king := ⟨rfl, by decide +kernel, jt 482 rfl rfl, jt 1 rfl rfl, by decide +kernel, by decide +kernel⟩
def KX6_law : jM := (RX6, cX6_law, 3, yX6_law, some .int, { frames := 1, cells := 0, slots := 0, locals := 22 })
set_option maxRecDepth 100000 in
theorem okX6_law : jmOK KX6_law := ⟨rfl, by decide +kernel, jt 486 rfl rfl, jt 1 rfl rfl, by decide +kernel, by decide +kernel⟩
def KX6_set : jM := (RX6, cX6_set, 4, yX6_set, some .int, { frames := 1, cells := 0, slots := 0, locals := 22 })
set_option maxRecDepth 100000 in
theorem okX6_set : jmOK KX6_set := ⟨rfl, by decide +kernel, jt 490 rfl rfl, jt 1 rfl rfl, by decide +kernel, by decide +kernel⟩
def KX6_age : jM := (RX6, cX6_age, 4, yX6_age, some .int, { frames := 1, cells := 0, slots := 0, locals := 22 })
set_option maxRecDepth 100000 in
theorem okX6_age : jmOK KX6_age := ⟨rfl, by decide +kernel, jt 494 rfl rfl, jt 1 rfl rfl, by decide +kernel, by decide +kernel⟩
def KX6_dye : jM := (RX6, cX6_dye, 4, yX6_dye, some .int, { frames := 1, cells := 0, slots := 0, locals := 22 })
set_option maxRecDepth 100000 in
theorem okX6_dye : jmOK KX6_dye := ⟨rfl, by decide +kernel, jt 498 rfl rfl, jt 1 rfl rfl, by decide +kernel, by decide +kernel⟩
def KX6_knot : jM := (RX6, cX6_knot, 4, yX6_knot, some .int, { frames := 1, cells := 0, slots := 0, locals := 22 })
set_option maxRecDepth 100000 in
theorem okX6_knot : jmOK KX6_knot := ⟨rfl, by decide +kernel, jt 502 rfl rfl, jt 1 rfl rfl, by decide +kernel, by decide +kernel⟩
def KX6_pay : jM := (RX6, cX6_pay, 5, yX6_pay, some .int, { frames := 1, cells := 0, slots := 0, locals := 22 })
set_option maxRecDepth 100000 in
theorem okX6_pay : jmOK KX6_pay := ⟨rfl, by decide +kernel, jt 506 rfl rfl, jt 1 rfl rfl, by decide +kernel, by decide +kernel⟩
def KX6_hour : jM := (RX6, cX6_hour, 2, yX6_hour, some .int, { frames := 3, cells := 0, slots := 0, locals := 64 })
set_option maxRecDepth 100000 in
theorem okX6_hour : jmOK KX6_hour := ⟨rfl, by decide +kernel, jt 510 rfl rfl, jt 1 rfl rfl, by decide +kernel, by decide +kernel⟩
def KX6_falls : jM := (RX6, cX6_falls, 5, yX6_falls, some .long, { frames := 6, cells := 0, slots := 0, locals := 136 })
set_option maxRecDepth 100000 in
theorem okX6_falls : jmOK KX6_falls := ⟨rfl, by decide +kernel, jt 523 rfl rfl, jt 1 rfl rfl, by decide +kernel, by decide +kernel⟩
def KX6_left : jM := (RX6, cX6_left, 4, yX6_left, some .long, { frames := 5, cells := 0, slots := 0, locals := 115 })
set_option maxRecDepth 100000 in
theorem okX6_left : jmOK KX6_left := ⟨rfl, by decide +kernel, jt 580 rfl rfl, jt 1 rfl rfl, by decide +kernel, by decide +kernel⟩
def KX6_mean : jM := (RX6, cX6_mean, 6, yX6_mean, some .long, { frames := 5, cells := 0, slots := 0, locals := 115 })
set_option maxRecDepth 100000 in
theorem okX6_mean : jmOK KX6_mean := ⟨rfl, by decide +kernel, jt 588 rfl rfl, jt 1 rfl rfl, by decide +kernel, by decide +kernel⟩
def KX6_sits : jM := (RX6, cX6_sits, 4, yX6_sits, some .long, { frames := 4, cells := 0, slots := 0, locals := 102 })
set_option maxRecDepth 100000 in
theorem okX6_sits : jmOK KX6_sits := ⟨rfl, by decide +kernel, jt 592 rfl rfl, jt 1 rfl rfl, by decide +kernel, by decide +kernel⟩
def KX6_best : jM := (RX6, cX6_best, 6, yX6_best, some .long, { frames := 5, cells := 0, slots := 0, locals := 124 })
set_option maxRecDepth 100000 in
theorem okX6_best : jmOK KX6_best := ⟨rfl, by decide +kernel, jt 604 rfl rfl, jt 1 rfl rfl, by decide +kernel, by decide +kernel⟩
def KX6_test : jM := (RX6, cX6_test, 5, yX6_test, some .long, { frames := 4, cells := 0, slots := 0, locals := 93 })
set_option maxRecDepth 100000 in
theorem okX6_test : jmOK KX6_test := ⟨rfl, by decide +kernel, jt 612 rfl rfl, jt 1 rfl rfl, by decide +kernel, by decide +kernel⟩
def KX6_plait : jM := (RX6, cX6_plait, 5, yX6_plait, some .int, { frames := 5, cells := 0, slots := 0, locals := 115 })
set_option maxRecDepth 100000 in
theorem okX6_plait : jmOK KX6_plait := ⟨rfl, by decide +kernel, jt 617 rfl rfl, jt 1 rfl rfl, by decide +kernel, by decide +kernel⟩
def KX6_bears : jM := (RX6, cX6_bears, 4, yX6_bears, some .int, { frames := 5, cells := 0, slots := 0, locals := 115 })
set_option maxRecDepth 100000 in
theorem okX6_bears : jmOK KX6_bears := ⟨rfl, by decide +kernel, jt 630 rfl rfl, jt 1 rfl rfl, by decide +kernel, by decide +kernel⟩
def KX6_mend : jM := (RX6, cX6_mend, 9, yX6_mend, some .long, { frames := 6, cells := 0, slots := 0, locals := 136 })
set_option maxRecDepth 100000 in
theorem okX6_mend : jmOK KX6_mend := ⟨rfl, by decide +kernel, jt 634 rfl rfl, jt 1 rfl rfl, by decide +kernel, by decide +kernel⟩
def KX6_duel : jM := (RX6, cX6_duel, 5, yX6_duel, some .long, { frames := 4, cells := 0, slots := 0, locals := 102 })
set_option maxRecDepth 100000 in
theorem okX6_duel : jmOK KX6_duel := ⟨rfl, by decide +kernel, jt 643 rfl rfl, jt 1 rfl rfl, by decide +kernel, by decide +kernel⟩
def KX6_crown : jM := (RX6, cX6_crown, 9, yX6_crown, some .long, { frames := 5, cells := 0, slots := 0, locals := 124 })
set_option maxRecDepth 100000 in
theorem okX6_crown : jmOK KX6_crown := ⟨rfl, by decide +kernel, jt 659 rfl rfl, jt 1 rfl rfl, by decide +kernel, by decide +kernel⟩
def KX6_reads : jM := (RX6, cX6_reads, 3, yX6_reads, some .long, { frames := 5, cells := 0, slots := 0, locals := 114 })
set_option maxRecDepth 100000 in
theorem okX6_reads : jmOK KX6_reads := ⟨rfl, by decide +kernel, jt 664 rfl rfl, jt 1 rfl rfl, by decide +kernel, by decide +kernel⟩
def KX6_laws : jM := (RX6, cX6_laws, 8, yX6_laws, some .long, { frames := 5, cells := 0, slots := 0, locals := 114 })
set_option maxRecDepth 100000 in
theorem okX6_laws : jmOK KX6_laws := ⟨rfl, by decide +kernel, jt 676 rfl rfl, jt 1 rfl rfl, by decide +kernel, by decide +kernel⟩
def KX6_see : jM := (RX6, cX6_see, 3, yX6_see, some .int, { frames := 2, cells := 0, slots := 0, locals := 42 })
set_option maxRecDepth 100000 in
theorem okX6_see : jmOK KX6_see := ⟨rfl, by decide +kernel, jt 680 rfl rfl, jt 1 rfl rfl, by decide +kernel, by decide +kernel⟩
def KX6_forget : jM := (RX6, cX6_forget, 3, yX6_forget, some .int, { frames := 1, cells := 0, slots := 0, locals := 22 })
set_option maxRecDepth 100000 in
theorem okX6_forget : jmOK KX6_forget := ⟨rfl, by decide +kernel, jt 688 rfl rfl, jt 1 rfl rfl, by decide +kernel, by decide +kernel⟩
def KX6_likely : jM := (RX6, cX6_likely, 4, yX6_likely, some .long, { frames := 5, cells := 0, slots := 0, locals := 118 })
set_option maxRecDepth 100000 in
theorem okX6_likely : jmOK KX6_likely := ⟨rfl, by decide +kernel, jt 692 rfl rfl, jt 1 rfl rfl, by decide +kernel, by decide +kernel⟩
def KX6_guess : jM := (RX6, cX6_guess, 9, yX6_guess, some .long, { frames := 5, cells := 0, slots := 0, locals := 118 })
set_option maxRecDepth 100000 in
theorem okX6_guess : jmOK KX6_guess := ⟨rfl, by decide +kernel, jt 713 rfl rfl, jt 1 rfl rfl, by decide +kernel, by decide +kernel⟩
def KX6_drift : jM := (RX6, cX6_drift, 9, yX6_drift, some .int, { frames := 3, cells := 0, slots := 0, locals := 67 })
set_option maxRecDepth 100000 in
theorem okX6_drift : jmOK KX6_drift := ⟨rfl, by decide +kernel, jt 717 rfl rfl, jt 1 rfl rfl, by decide +kernel, by decide +kernel⟩
def KX6_keep : jM := (RX6, cX6_keep, 3, yX6_keep, some .int, { frames := 2, cells := 0, slots := 0, locals := 43 })
set_option maxRecDepth 100000 in
theorem okX6_keep : jmOK KX6_keep := ⟨rfl, by decide +kernel, jt 723 rfl rfl, jt 1 rfl rfl, by decide +kernel, by decide +kernel⟩
def KX6_back : jM := (RX6, cX6_back, 2, yX6_back, some .int, { frames := 2, cells := 0, slots := 0, locals := 43 })
set_option maxRecDepth 100000 in
theorem okX6_back : jmOK KX6_back := ⟨rfl, by decide +kernel, jt 727 rfl rfl, jt 1 rfl rfl, by decide +kernel, by decide +kernel⟩
def KX6_sheet : jM := (RX6, cX6_sheet, 4, yX6_sheet, some .int, { frames := 2, cells := 0, slots := 0, locals := 44 })
set_option maxRecDepth 100000 in
theorem okX6_sheet : jmOK KX6_sheet := ⟨rfl, by decide +kernel, jt 731 rfl rfl, jt 1 rfl rfl, by decide +kernel, by decide +kernel⟩
def KX6_lay : jM := (RX6, cX6_lay, 5, yX6_lay, some .int, { frames := 2, cells := 0, slots := 0, locals := 44 })
set_option maxRecDepth 100000 in
theorem okX6_lay : jmOK KX6_lay := ⟨rfl, by decide +kernel, jt 740 rfl rfl, jt 1 rfl rfl, by decide +kernel, by decide +kernel⟩
def KX6_read : jM := (RX6, cX6_read, 9, yX6_read, some .int, { frames := 3, cells := 0, slots := 0, locals := 65 })
set_option maxRecDepth 100000 in
theorem okX6_read : jmOK KX6_read := ⟨rfl, by decide +kernel, jt 753 rfl rfl, jt 1 rfl rfl, by decide +kernel, by decide +kernel⟩
def KX6_torn : jM := (RX6, cX6_torn, 1, yX6_torn, some .int, { frames := 0, cells := 0, slots := 0, locals := 0 })
set_option maxRecDepth 100000 in
theorem okX6_torn : jmOK KX6_torn := ⟨rfl, by decide +kernel, jt 762 rfl rfl, jt 1 rfl rfl, by decide +kernel, by decide +kernel⟩
def KX6_count : jM := (RX6, cX6_count, 2, yX6_count, some .int, { frames := 1, cells := 0, slots := 0, locals := 22 })
set_option maxRecDepth 100000 in
theorem okX6_count : jmOK KX6_count := ⟨rfl, by decide +kernel, jt 766 rfl rfl, jt 1 rfl rfl, by decide +kernel, by decide +kernel⟩
def KX6_within : jM := (RX6, cX6_within, 3, yX6_within, some .boolean, { frames := 0, cells := 0, slots := 0, locals := 0 })
set_option maxRecDepth 100000 in
theorem okX6_within : jmOK KX6_within := ⟨rfl, by decide +kernel, jt 284 rfl rfl, jt 1 rfl rfl, by decide +kernel, by decide +kernel⟩
def KX6_foreseen : jM := (RX6, cX6_foreseen, 1, yX6_foreseen, some .boolean, { frames := 1, cells := 0, slots := 0, locals := 22 })
set_option maxRecDepth 100000 in
theorem okX6_foreseen : jmOK KX6_foreseen := ⟨rfl, by decide +kernel, jt 526 rfl rfl, jt 1 rfl rfl, by decide +kernel, by decide +kernel⟩
def KX6_thousands : jM := (RX6, cX6_thousands, 4, yX6_thousands, some .long, { frames := 0, cells := 0, slots := 0, locals := 0 })
set_option maxRecDepth 100000 in
theorem okX6_thousands : jmOK KX6_thousands := ⟨rfl, by decide +kernel, jt 530 rfl rfl, jt 1 rfl rfl, by decide +kernel, by decide +kernel⟩
def KX6_part : jM := (RX6, cX6_part, 7, yX6_part, some .long, { frames := 1, cells := 0, slots := 0, locals := 30 })
set_option maxRecDepth 100000 in
theorem okX6_part : jmOK KX6_part := ⟨rfl, by decide +kernel, jt 570 rfl rfl, jt 1 rfl rfl, by decide +kernel, by decide +kernel⟩
def KX6_common : jM := (RX6, cX6_common, 11, yX6_common, some .long, { frames := 0, cells := 0, slots := 0, locals := 0 })
set_option maxRecDepth 100000 in
theorem okX6_common : jmOK KX6_common := ⟨rfl, by decide +kernel, jt 576 rfl rfl, jt 1 rfl rfl, by decide +kernel, by decide +kernel⟩
def KX6_breaksOf : jM := (RX6, cX6_breaksOf, 5, yX6_breaksOf, some .int, { frames := 1, cells := 0, slots := 0, locals := 22 })
set_option maxRecDepth 100000 in
theorem okX6_breaksOf : jmOK KX6_breaksOf := ⟨rfl, by decide +kernel, jt 469 rfl rfl, jt 1 rfl rfl, by decide +kernel, by decide +kernel⟩
def KX6_baseOf : jM := (RX6, cX6_baseOf, 3, yX6_baseOf, some .int, { frames := 0, cells := 0, slots := 0, locals := 0 })
set_option maxRecDepth 100000 in
theorem okX6_baseOf : jmOK KX6_baseOf := ⟨rfl, by decide +kernel, jt 472 rfl rfl, jt 1 rfl rfl, by decide +kernel, by decide +kernel⟩
def KX6_heldFromNow : jM := (RX6, cX6_heldFromNow, 2, yX6_heldFromNow, some .long, { frames := 5, cells := 0, slots := 0, locals := 115 })
set_option maxRecDepth 100000 in
theorem okX6_heldFromNow : jmOK KX6_heldFromNow := ⟨rfl, by decide +kernel, jt 535 rfl rfl, jt 1 rfl rfl, by decide +kernel, by decide +kernel⟩
def KX6_seeingGain : jM := (RX6, cX6_seeingGain, 3, yX6_seeingGain, some .long, { frames := 4, cells := 0, slots := 0, locals := 102 })
set_option maxRecDepth 100000 in
theorem okX6_seeingGain : jmOK KX6_seeingGain := ⟨rfl, by decide +kernel, jt 608 rfl rfl, jt 1 rfl rfl, by decide +kernel, by decide +kernel⟩
def KX6_worthOfLaws : jM := (RX6, cX6_worthOfLaws, 6, yX6_worthOfLaws, some .long, { frames := 0, cells := 0, slots := 0, locals := 0 })
set_option maxRecDepth 100000 in
theorem okX6_worthOfLaws : jmOK KX6_worthOfLaws := ⟨rfl, by decide +kernel, jt 672 rfl rfl, jt 1 rfl rfl, by decide +kernel, by decide +kernel⟩
def KX6_likelihood : jM := (RX6, cX6_likelihood, 6, yX6_likelihood, some .long, { frames := 4, cells := 0, slots := 0, locals := 93 })
set_option maxRecDepth 100000 in
theorem okX6_likelihood : jmOK KX6_likelihood := ⟨rfl, by decide +kernel, jt 696 rfl rfl, jt 1 rfl rfl, by decide +kernel, by decide +kernel⟩
def KX7_init : jM := (RX7, cX7_init, 1, yX7_init, (none : Option Jvm.ClassFile.FieldType), { frames := 1, cells := 20, slots := 0, locals := 40 })
set_option maxRecDepth 100000 in
theorem okX7_init : jmOK KX7_init := ⟨rfl, by decide +kernel, jt 776 rfl rfl, jt 8 rfl rfl, by decide +kernel, by decide +kernel⟩
def KX7_in : jM := (RX7, cX7_in, 6, yX7_in, some .boolean, { frames := 0, cells := 0, slots := 0, locals := 0 })
set_option maxRecDepth 100000 in
theorem okX7_in : jmOK KX7_in := ⟨rfl, by decide +kernel, jt 912 rfl rfl, jt 8 rfl rfl, by decide +kernel, by decide +kernel⟩
def KX7_feed : jM := (RX7, cX7_feed, 2, yX7_feed, some .int, { frames := 1, cells := 0, slots := 0, locals := 25 })
set_option maxRecDepth 100000 in
theorem okX7_feed : jmOK KX7_feed := ⟨rfl, by decide +kernel, jt 908 rfl rfl, jt 8 rfl rfl, by decide +kernel, by decide +kernel⟩
def KX7_end : jM := (RX7, cX7_end, 3, yX7_end, some .int, { frames := 1, cells := 0, slots := 0, locals := 25 })
set_option maxRecDepth 100000 in
theorem okX7_end : jmOK KX7_end := ⟨rfl, by decide +kernel, jt 916 rfl rfl, jt 8 rfl rfl, by decide +kernel, by decide +kernel⟩
def KX7_byteAt : jM := (RX7, cX7_byteAt, 2, yX7_byteAt, some .int, { frames := 0, cells := 0, slots := 0, locals := 0 })
set_option maxRecDepth 100000 in
theorem okX7_byteAt : jmOK KX7_byteAt := ⟨rfl, by decide +kernel, jt 928 rfl rfl, jt 8 rfl rfl, by decide +kernel, by decide +kernel⟩
def KX7_fails : jM := (RX7, cX7_fails, 2, yX7_fails, (none : Option Jvm.ClassFile.FieldType), { frames := 0, cells := 0, slots := 0, locals := 0 })
set_option maxRecDepth 100000 in
theorem okX7_fails : jmOK KX7_fails := ⟨rfl, by decide +kernel, jt 936 rfl rfl, jt 8 rfl rfl, by decide +kernel, by decide +kernel⟩
def KX7_nameHere : jM := (RX7, cX7_nameHere, 4, yX7_nameHere, some .int, { frames := 1, cells := 0, slots := 0, locals := 21 })
set_option maxRecDepth 100000 in
theorem okX7_nameHere : jmOK KX7_nameHere := ⟨rfl, by decide +kernel, jt 944 rfl rfl, jt 8 rfl rfl, by decide +kernel, by decide +kernel⟩
def KX7_step : jM := (RX7, cX7_step, 2, yX7_step, (none : Option Jvm.ClassFile.FieldType), { frames := 1, cells := 0, slots := 0, locals := 25 })
set_option maxRecDepth 100000 in
theorem okX7_step : jmOK KX7_step := ⟨rfl, by decide +kernel, jt 924 rfl rfl, jt 8 rfl rfl, by decide +kernel, by decide +kernel⟩
def KX7_number : jM := (RX7, cX7_number, 4, yX7_number, some .int, { frames := 2, cells := 0, slots := 0, locals := 46 })
set_option maxRecDepth 100000 in
theorem okX7_number : jmOK KX7_number := ⟨rfl, by decide +kernel, jt 955 rfl rfl, jt 8 rfl rfl, by decide +kernel, by decide +kernel⟩
def KX7_readMore : jM := (RX7, cX7_readMore, 3, yX7_readMore, (none : Option Jvm.ClassFile.FieldType), { frames := 3, cells := 0, slots := 0, locals := 69 })
set_option maxRecDepth 100000 in
theorem okX7_readMore : jmOK KX7_readMore := ⟨rfl, by decide +kernel, jt 951 rfl rfl, jt 8 rfl rfl, by decide +kernel, by decide +kernel⟩
def KX7_readLine : jM := (RX7, cX7_readLine, 2, yX7_readLine, (none : Option Jvm.ClassFile.FieldType), { frames := 4, cells := 0, slots := 0, locals := 91 })
set_option maxRecDepth 100000 in
theorem okX7_readLine : jmOK KX7_readLine := ⟨rfl, by decide +kernel, jt 940 rfl rfl, jt 8 rfl rfl, by decide +kernel, by decide +kernel⟩
def KX7_text : jM := (RX7, cX7_text, 3, yX7_text, some .int, { frames := 5, cells := 0, slots := 0, locals := 112 })
set_option maxRecDepth 100000 in
theorem okX7_text : jmOK KX7_text := ⟨rfl, by decide +kernel, jt 920 rfl rfl, jt 8 rfl rfl, by decide +kernel, by decide +kernel⟩
def KX7_fault : jM := (RX7, cX7_fault, 1, yX7_fault, some .int, { frames := 0, cells := 0, slots := 0, locals := 0 })
set_option maxRecDepth 100000 in
theorem okX7_fault : jmOK KX7_fault := ⟨rfl, by decide +kernel, jt 960 rfl rfl, jt 8 rfl rfl, by decide +kernel, by decide +kernel⟩
def KX7_isHair : jM := (RX7, cX7_isHair, 2, yX7_isHair, some .boolean, { frames := 1, cells := 0, slots := 0, locals := 25 })
set_option maxRecDepth 100000 in
theorem okX7_isHair : jmOK KX7_isHair := ⟨rfl, by decide +kernel, jt 984 rfl rfl, jt 8 rfl rfl, by decide +kernel, by decide +kernel⟩
def KX7_isKing : jM := (RX7, cX7_isKing, 2, yX7_isKing, some .boolean, { frames := 1, cells := 0, slots := 0, locals := 25 })
set_option maxRecDepth 100000 in
theorem okX7_isKing : jmOK KX7_isKing := ⟨rfl, by decide +kernel, jt 1003 rfl rfl, jt 8 rfl rfl, by decide +kernel, by decide +kernel⟩
def KX7_load : jM := (RX7, cX7_load, 1, yX7_load, some .int, { frames := 0, cells := 0, slots := 0, locals := 0 })
set_option maxRecDepth 100000 in
theorem okX7_load : jmOK KX7_load := ⟨rfl, by decide +kernel, jt 968 rfl rfl, jt 8 rfl rfl, by decide +kernel, by decide +kernel⟩
def KX7_prize : jM := (RX7, cX7_prize, 1, yX7_prize, some .int, { frames := 0, cells := 0, slots := 0, locals := 0 })
set_option maxRecDepth 100000 in
theorem okX7_prize : jmOK KX7_prize := ⟨rfl, by decide +kernel, jt 972 rfl rfl, jt 8 rfl rfl, by decide +kernel, by decide +kernel⟩
def KX7_wholeNow : jM := (RX7, cX7_wholeNow, 3, yX7_wholeNow, some .int, { frames := 0, cells := 0, slots := 0, locals := 0 })
set_option maxRecDepth 100000 in
theorem okX7_wholeNow : jmOK KX7_wholeNow := ⟨rfl, by decide +kernel, jt 976 rfl rfl, jt 8 rfl rfl, by decide +kernel, by decide +kernel⟩
def KX7_rule : jM := (RX7, cX7_rule, 2, yX7_rule, some .int, { frames := 1, cells := 0, slots := 0, locals := 22 })
set_option maxRecDepth 100000 in
theorem okX7_rule : jmOK KX7_rule := ⟨rfl, by decide +kernel, jt 964 rfl rfl, jt 8 rfl rfl, by decide +kernel, by decide +kernel⟩
def KX7_lays : jM := (RX7, cX7_lays, 2, yX7_lays, (none : Option Jvm.ClassFile.FieldType), { frames := 1, cells := 0, slots := 0, locals := 22 })
set_option maxRecDepth 100000 in
theorem okX7_lays : jmOK KX7_lays := ⟨rfl, by decide +kernel, jt 988 rfl rfl, jt 8 rfl rfl, by decide +kernel, by decide +kernel⟩
def KX7_laysNew : jM := (RX7, cX7_laysNew, 4, yX7_laysNew, (none : Option Jvm.ClassFile.FieldType), { frames := 1, cells := 0, slots := 0, locals := 20 })
set_option maxRecDepth 100000 in
theorem okX7_laysNew : jmOK KX7_laysNew := ⟨rfl, by decide +kernel, jt 1108 rfl rfl, jt 8 rfl rfl, by decide +kernel, by decide +kernel⟩
def KX7_bitsOf : jM := (RX7, cX7_bitsOf, 1, yX7_bitsOf, some .int, { frames := 0, cells := 0, slots := 0, locals := 0 })
set_option maxRecDepth 100000 in
theorem okX7_bitsOf : jmOK KX7_bitsOf := ⟨rfl, by decide +kernel, jt 995 rfl rfl, jt 8 rfl rfl, by decide +kernel, by decide +kernel⟩
def KX7_breaksOf : jM := (RX7, cX7_breaksOf, 7, yX7_breaksOf, some .int, { frames := 1, cells := 0, slots := 0, locals := 20 })
set_option maxRecDepth 100000 in
theorem okX7_breaksOf : jmOK KX7_breaksOf := ⟨rfl, by decide +kernel, jt 992 rfl rfl, jt 8 rfl rfl, by decide +kernel, by decide +kernel⟩
def KX7_hair : jM := (RX7, cX7_hair, 3, yX7_hair, some .int, { frames := 2, cells := 0, slots := 0, locals := 46 })
set_option maxRecDepth 100000 in
theorem okX7_hair : jmOK KX7_hair := ⟨rfl, by decide +kernel, jt 980 rfl rfl, jt 8 rfl rfl, by decide +kernel, by decide +kernel⟩
def KX7_king : jM := (RX7, cX7_king, 3, yX7_king, some .int, { frames := 2, cells := 0, slots := 0, locals := 46 })
set_option maxRecDepth 100000 in
theorem okX7_king : jmOK KX7_king := ⟨rfl, by decide +kernel, jt 999 rfl rfl, jt 8 rfl rfl, by decide +kernel, by decide +kernel⟩
def KX7_law : jM := (RX7, cX7_law, 3, yX7_law, some .int, { frames := 1, cells := 0, slots := 0, locals := 25 })
set_option maxRecDepth 100000 in
theorem okX7_law : jmOK KX7_law := ⟨rfl, by decide +kernel, jt 1007 rfl rfl, jt 8 rfl rfl, by decide +kernel, by decide +kernel⟩
def KX7_puts : jM := (RX7, cX7_puts, 6, yX7_puts, some .int, { frames := 0, cells := 0, slots := 0, locals := 0 })
set_option maxRecDepth 100000 in
theorem okX7_puts : jmOK KX7_puts := ⟨rfl, by decide +kernel, jt 1016 rfl rfl, jt 8 rfl rfl, by decide +kernel, by decide +kernel⟩
def KX7_set : jM := (RX7, cX7_set, 3, yX7_set, some .int, { frames := 1, cells := 0, slots := 0, locals := 25 })
set_option maxRecDepth 100000 in
theorem okX7_set : jmOK KX7_set := ⟨rfl, by decide +kernel, jt 1011 rfl rfl, jt 8 rfl rfl, by decide +kernel, by decide +kernel⟩
def KX7_age : jM := (RX7, cX7_age, 3, yX7_age, some .int, { frames := 2, cells := 0, slots := 0, locals := 46 })
set_option maxRecDepth 100000 in
theorem okX7_age : jmOK KX7_age := ⟨rfl, by decide +kernel, jt 1021 rfl rfl, jt 8 rfl rfl, by decide +kernel, by decide +kernel⟩
def KX7_dye : jM := (RX7, cX7_dye, 3, yX7_dye, some .int, { frames := 2, cells := 0, slots := 0, locals := 46 })
set_option maxRecDepth 100000 in
theorem okX7_dye : jmOK KX7_dye := ⟨rfl, by decide +kernel, jt 1025 rfl rfl, jt 8 rfl rfl, by decide +kernel, by decide +kernel⟩
def KX7_knot : jM := (RX7, cX7_knot, 3, yX7_knot, some .int, { frames := 2, cells := 0, slots := 0, locals := 46 })
set_option maxRecDepth 100000 in
theorem okX7_knot : jmOK KX7_knot := ⟨rfl, by decide +kernel, jt 1029 rfl rfl, jt 8 rfl rfl, by decide +kernel, by decide +kernel⟩
def KX7_pay : jM := (RX7, cX7_pay, 4, yX7_pay, some .int, { frames := 2, cells := 0, slots := 0, locals := 46 })
set_option maxRecDepth 100000 in
theorem okX7_pay : jmOK KX7_pay := ⟨rfl, by decide +kernel, jt 1033 rfl rfl, jt 8 rfl rfl, by decide +kernel, by decide +kernel⟩
def KX7_hours : jM := (RX7, cX7_hours, 3, yX7_hours, some .int, { frames := 1, cells := 0, slots := 0, locals := 25 })
set_option maxRecDepth 100000 in
theorem okX7_hours : jmOK KX7_hours := ⟨rfl, by decide +kernel, jt 1041 rfl rfl, jt 8 rfl rfl, by decide +kernel, by decide +kernel⟩
def KX7_hour : jM := (RX7, cX7_hour, 2, yX7_hour, some .int, { frames := 2, cells := 0, slots := 0, locals := 47 })
set_option maxRecDepth 100000 in
theorem okX7_hour : jmOK KX7_hour := ⟨rfl, by decide +kernel, jt 1037 rfl rfl, jt 8 rfl rfl, by decide +kernel, by decide +kernel⟩
def KX7_wayOf : jM := (RX7, cX7_wayOf, 9, yX7_wayOf, some .long, { frames := 2, cells := 0, slots := 0, locals := 46 })
set_option maxRecDepth 100000 in
theorem okX7_wayOf : jmOK KX7_wayOf := ⟨rfl, by decide +kernel, jt 1073 rfl rfl, jt 8 rfl rfl, by decide +kernel, by decide +kernel⟩
def KX7_begins : jM := (RX7, cX7_begins, 2, yX7_begins, (none : Option Jvm.ClassFile.FieldType), { frames := 0, cells := 0, slots := 0, locals := 0 })
set_option maxRecDepth 100000 in
theorem okX7_begins : jmOK KX7_begins := ⟨rfl, by decide +kernel, jt 1065 rfl rfl, jt 8 rfl rfl, by decide +kernel, by decide +kernel⟩
def KX7_hourOn : jM := (RX7, cX7_hourOn, 4, yX7_hourOn, (none : Option Jvm.ClassFile.FieldType), { frames := 3, cells := 0, slots := 0, locals := 74 })
set_option maxRecDepth 100000 in
theorem okX7_hourOn : jmOK KX7_hourOn := ⟨rfl, by decide +kernel, jt 1069 rfl rfl, jt 8 rfl rfl, by decide +kernel, by decide +kernel⟩
def KX7_hoursOn : jM := (RX7, cX7_hoursOn, 3, yX7_hoursOn, (none : Option Jvm.ClassFile.FieldType), { frames := 4, cells := 0, slots := 0, locals := 97 })
set_option maxRecDepth 100000 in
theorem okX7_hoursOn : jmOK KX7_hoursOn := ⟨rfl, by decide +kernel, jt 1061 rfl rfl, jt 8 rfl rfl, by decide +kernel, by decide +kernel⟩
def KX7_tens : jM := (RX7, cX7_tens, 4, yX7_tens, some .long, { frames := 0, cells := 0, slots := 0, locals := 0 })
set_option maxRecDepth 100000 in
theorem okX7_tens : jmOK KX7_tens := ⟨rfl, by decide +kernel, jt 1052 rfl rfl, jt 8 rfl rfl, by decide +kernel, by decide +kernel⟩
def KX7_lowest : jM := (RX7, cX7_lowest, 11, yX7_lowest, some .long, { frames := 0, cells := 0, slots := 0, locals := 0 })
set_option maxRecDepth 100000 in
theorem okX7_lowest : jmOK KX7_lowest := ⟨rfl, by decide +kernel, jt 1076 rfl rfl, jt 8 rfl rfl, by decide +kernel, by decide +kernel⟩
def KX7_holds : jM := (RX7, cX7_holds, 2, yX7_holds, some .long, { frames := 5, cells := 0, slots := 0, locals := 119 })
set_option maxRecDepth 100000 in
theorem okX7_holds : jmOK KX7_holds := ⟨rfl, by decide +kernel, jt 1057 rfl rfl, jt 8 rfl rfl, by decide +kernel, by decide +kernel⟩
def KX7_isLong : jM := (RX7, cX7_isLong, 1, yX7_isLong, some .boolean, { frames := 1, cells := 0, slots := 0, locals := 25 })
set_option maxRecDepth 100000 in
theorem okX7_isLong : jmOK KX7_isLong := ⟨rfl, by decide +kernel, jt 1048 rfl rfl, jt 8 rfl rfl, by decide +kernel, by decide +kernel⟩
def KX7_falls : jM := (RX7, cX7_falls, 5, yX7_falls, some .long, { frames := 6, cells := 0, slots := 0, locals := 140 })
set_option maxRecDepth 100000 in
theorem okX7_falls : jmOK KX7_falls := ⟨rfl, by decide +kernel, jt 1045 rfl rfl, jt 8 rfl rfl, by decide +kernel, by decide +kernel⟩
def KX7_left : jM := (RX7, cX7_left, 7, yX7_left, some .long, { frames := 5, cells := 0, slots := 0, locals := 119 })
set_option maxRecDepth 100000 in
theorem okX7_left : jmOK KX7_left := ⟨rfl, by decide +kernel, jt 1080 rfl rfl, jt 8 rfl rfl, by decide +kernel, by decide +kernel⟩
def KX7_mean : jM := (RX7, cX7_mean, 6, yX7_mean, some .long, { frames := 5, cells := 0, slots := 0, locals := 119 })
set_option maxRecDepth 100000 in
theorem okX7_mean : jmOK KX7_mean := ⟨rfl, by decide +kernel, jt 1084 rfl rfl, jt 8 rfl rfl, by decide +kernel, by decide +kernel⟩
def KX7_sits : jM := (RX7, cX7_sits, 7, yX7_sits, some .long, { frames := 4, cells := 0, slots := 0, locals := 97 })
set_option maxRecDepth 100000 in
theorem okX7_sits : jmOK KX7_sits := ⟨rfl, by decide +kernel, jt 1088 rfl rfl, jt 8 rfl rfl, by decide +kernel, by decide +kernel⟩
def KX7_bestOf : jM := (RX7, cX7_bestOf, 12, yX7_bestOf, some .long, { frames := 3, cells := 0, slots := 0, locals := 74 })
set_option maxRecDepth 100000 in
theorem okX7_bestOf : jmOK KX7_bestOf := ⟨rfl, by decide +kernel, jt 1096 rfl rfl, jt 8 rfl rfl, by decide +kernel, by decide +kernel⟩
def KX7_best : jM := (RX7, cX7_best, 6, yX7_best, some .long, { frames := 4, cells := 0, slots := 0, locals := 105 })
set_option maxRecDepth 100000 in
theorem okX7_best : jmOK KX7_best := ⟨rfl, by decide +kernel, jt 1092 rfl rfl, jt 8 rfl rfl, by decide +kernel, by decide +kernel⟩
def KX7_test : jM := (RX7, cX7_test, 6, yX7_test, some .long, { frames := 4, cells := 0, slots := 0, locals := 97 })
set_option maxRecDepth 100000 in
theorem okX7_test : jmOK KX7_test := ⟨rfl, by decide +kernel, jt 1100 rfl rfl, jt 8 rfl rfl, by decide +kernel, by decide +kernel⟩
def KX7_holdsBy : jM := (RX7, cX7_holdsBy, 3, yX7_holdsBy, some .boolean, { frames := 6, cells := 0, slots := 0, locals := 140 })
set_option maxRecDepth 100000 in
theorem okX7_holdsBy : jmOK KX7_holdsBy := ⟨rfl, by decide +kernel, jt 1112 rfl rfl, jt 8 rfl rfl, by decide +kernel, by decide +kernel⟩
def KX7_plait : jM := (RX7, cX7_plait, 5, yX7_plait, some .int, { frames := 7, cells := 0, slots := 0, locals := 162 })
set_option maxRecDepth 100000 in
theorem okX7_plait : jmOK KX7_plait := ⟨rfl, by decide +kernel, jt 1104 rfl rfl, jt 8 rfl rfl, by decide +kernel, by decide +kernel⟩
def KX7_bears : jM := (RX7, cX7_bears, 4, yX7_bears, some .int, { frames := 7, cells := 0, slots := 0, locals := 162 })
set_option maxRecDepth 100000 in
theorem okX7_bears : jmOK KX7_bears := ⟨rfl, by decide +kernel, jt 1116 rfl rfl, jt 8 rfl rfl, by decide +kernel, by decide +kernel⟩
def KX7_mend : jM := (RX7, cX7_mend, 9, yX7_mend, some .long, { frames := 6, cells := 0, slots := 0, locals := 140 })
set_option maxRecDepth 100000 in
theorem okX7_mend : jmOK KX7_mend := ⟨rfl, by decide +kernel, jt 1120 rfl rfl, jt 8 rfl rfl, by decide +kernel, by decide +kernel⟩
def KX7_duels : jM := (RX7, cX7_duels, 20, yX7_duels, (none : Option Jvm.ClassFile.FieldType), { frames := 3, cells := 0, slots := 0, locals := 74 })
set_option maxRecDepth 100000 in
theorem okX7_duels : jmOK KX7_duels := ⟨rfl, by decide +kernel, jt 1128 rfl rfl, jt 8 rfl rfl, by decide +kernel, by decide +kernel⟩
def KX7_duel : jM := (RX7, cX7_duel, 5, yX7_duel, some .long, { frames := 4, cells := 0, slots := 0, locals := 113 })
set_option maxRecDepth 100000 in
theorem okX7_duel : jmOK KX7_duel := ⟨rfl, by decide +kernel, jt 1124 rfl rfl, jt 8 rfl rfl, by decide +kernel, by decide +kernel⟩
def KX7_crown : jM := (RX7, cX7_crown, 9, yX7_crown, some .long, { frames := 4, cells := 0, slots := 0, locals := 105 })
set_option maxRecDepth 100000 in
theorem okX7_crown : jmOK KX7_crown := ⟨rfl, by decide +kernel, jt 1132 rfl rfl, jt 8 rfl rfl, by decide +kernel, by decide +kernel⟩
def KX7_readOf : jM := (RX7, cX7_readOf, 6, yX7_readOf, some .long, { frames := 6, cells := 0, slots := 0, locals := 140 })
set_option maxRecDepth 100000 in
theorem okX7_readOf : jmOK KX7_readOf := ⟨rfl, by decide +kernel, jt 1141 rfl rfl, jt 8 rfl rfl, by decide +kernel, by decide +kernel⟩
def KX7_reads : jM := (RX7, cX7_reads, 3, yX7_reads, some .long, { frames := 7, cells := 0, slots := 0, locals := 165 })
set_option maxRecDepth 100000 in
theorem okX7_reads : jmOK KX7_reads := ⟨rfl, by decide +kernel, jt 1137 rfl rfl, jt 8 rfl rfl, by decide +kernel, by decide +kernel⟩
def KX7_laws : jM := (RX7, cX7_laws, 8, yX7_laws, some .long, { frames := 7, cells := 0, slots := 0, locals := 165 })
set_option maxRecDepth 100000 in
theorem okX7_laws : jmOK KX7_laws := ⟨rfl, by decide +kernel, jt 1145 rfl rfl, jt 8 rfl rfl, by decide +kernel, by decide +kernel⟩
def KX7_see : jM := (RX7, cX7_see, 3, yX7_see, some .int, { frames := 2, cells := 0, slots := 0, locals := 45 })
set_option maxRecDepth 100000 in
theorem okX7_see : jmOK KX7_see := ⟨rfl, by decide +kernel, jt 1149 rfl rfl, jt 8 rfl rfl, by decide +kernel, by decide +kernel⟩
def KX7_forget : jM := (RX7, cX7_forget, 3, yX7_forget, some .int, { frames := 1, cells := 0, slots := 0, locals := 25 })
set_option maxRecDepth 100000 in
theorem okX7_forget : jmOK KX7_forget := ⟨rfl, by decide +kernel, jt 1153 rfl rfl, jt 8 rfl rfl, by decide +kernel, by decide +kernel⟩
def KX7_sifts : jM := (RX7, cX7_sifts, 4, yX7_sifts, (none : Option Jvm.ClassFile.FieldType), { frames := 1, cells := 0, slots := 0, locals := 20 })
set_option maxRecDepth 100000 in
theorem okX7_sifts : jmOK KX7_sifts := ⟨rfl, by decide +kernel, jt 1165 rfl rfl, jt 8 rfl rfl, by decide +kernel, by decide +kernel⟩
def KX7_likeliness : jM := (RX7, cX7_likeliness, 6, yX7_likeliness, some .long, { frames := 4, cells := 0, slots := 0, locals := 97 })
set_option maxRecDepth 100000 in
theorem okX7_likeliness : jmOK KX7_likeliness := ⟨rfl, by decide +kernel, jt 1161 rfl rfl, jt 8 rfl rfl, by decide +kernel, by decide +kernel⟩
def KX7_likely : jM := (RX7, cX7_likely, 4, yX7_likely, some .long, { frames := 5, cells := 0, slots := 0, locals := 122 })
set_option maxRecDepth 100000 in
theorem okX7_likely : jmOK KX7_likely := ⟨rfl, by decide +kernel, jt 1157 rfl rfl, jt 8 rfl rfl, by decide +kernel, by decide +kernel⟩
def KX7_guess : jM := (RX7, cX7_guess, 9, yX7_guess, some .long, { frames := 5, cells := 0, slots := 0, locals := 122 })
set_option maxRecDepth 100000 in
theorem okX7_guess : jmOK KX7_guess := ⟨rfl, by decide +kernel, jt 1169 rfl rfl, jt 8 rfl rfl, by decide +kernel, by decide +kernel⟩
def KX7_drift : jM := (RX7, cX7_drift, 10, yX7_drift, some .int, { frames := 2, cells := 0, slots := 0, locals := 46 })
set_option maxRecDepth 100000 in
theorem okX7_drift : jmOK KX7_drift := ⟨rfl, by decide +kernel, jt 1173 rfl rfl, jt 8 rfl rfl, by decide +kernel, by decide +kernel⟩
def KX7_copies : jM := (RX7, cX7_copies, 4, yX7_copies, (none : Option Jvm.ClassFile.FieldType), { frames := 0, cells := 0, slots := 0, locals := 0 })
set_option maxRecDepth 100000 in
theorem okX7_copies : jmOK KX7_copies := ⟨rfl, by decide +kernel, jt 1183 rfl rfl, jt 8 rfl rfl, by decide +kernel, by decide +kernel⟩
def KX7_keep : jM := (RX7, cX7_keep, 3, yX7_keep, some .int, { frames := 1, cells := 0, slots := 0, locals := 25 })
set_option maxRecDepth 100000 in
theorem okX7_keep : jmOK KX7_keep := ⟨rfl, by decide +kernel, jt 1179 rfl rfl, jt 8 rfl rfl, by decide +kernel, by decide +kernel⟩
def KX7_back : jM := (RX7, cX7_back, 2, yX7_back, some .int, { frames := 1, cells := 0, slots := 0, locals := 25 })
set_option maxRecDepth 100000 in
theorem okX7_back : jmOK KX7_back := ⟨rfl, by decide +kernel, jt 1187 rfl rfl, jt 8 rfl rfl, by decide +kernel, by decide +kernel⟩
def KX7_sheet : jM := (RX7, cX7_sheet, 5, yX7_sheet, some .int, { frames := 1, cells := 0, slots := 0, locals := 25 })
set_option maxRecDepth 100000 in
theorem okX7_sheet : jmOK KX7_sheet := ⟨rfl, by decide +kernel, jt 1191 rfl rfl, jt 8 rfl rfl, by decide +kernel, by decide +kernel⟩
def KX7_lay : jM := (RX7, cX7_lay, 4, yX7_lay, some .int, { frames := 1, cells := 0, slots := 0, locals := 25 })
set_option maxRecDepth 100000 in
theorem okX7_lay : jmOK KX7_lay := ⟨rfl, by decide +kernel, jt 1195 rfl rfl, jt 8 rfl rfl, by decide +kernel, by decide +kernel⟩
def KX7_read : jM := (RX7, cX7_read, 7, yX7_read, some .int, { frames := 2, cells := 0, slots := 0, locals := 47 })
set_option maxRecDepth 100000 in
theorem okX7_read : jmOK KX7_read := ⟨rfl, by decide +kernel, jt 1199 rfl rfl, jt 8 rfl rfl, by decide +kernel, by decide +kernel⟩
def KX7_torn : jM := (RX7, cX7_torn, 1, yX7_torn, some .int, { frames := 0, cells := 0, slots := 0, locals := 0 })
set_option maxRecDepth 100000 in
theorem okX7_torn : jmOK KX7_torn := ⟨rfl, by decide +kernel, jt 1204 rfl rfl, jt 8 rfl rfl, by decide +kernel, by decide +kernel⟩
def KX7_count : jM := (RX7, cX7_count, 4, yX7_count, some .int, { frames := 1, cells := 0, slots := 0, locals := 22 })
set_option maxRecDepth 100000 in
theorem okX7_count : jmOK KX7_count := ⟨rfl, by decide +kernel, jt 1208 rfl rfl, jt 8 rfl rfl, by decide +kernel, by decide +kernel⟩
def KJ6_bitCount_0f7a4 : jM := (RJ6, cJ6_bitCount_0f7a4, 1, yJ6_bitCount_0f7a4, some .int, { frames := 0, cells := 0, slots := 0, locals := 0 })
set_option maxRecDepth 100000 in
theorem okJ6_bitCount_0f7a4 : jmOK KJ6_bitCount_0f7a4 := ⟨rfl, by decide +kernel, jt 463 rfl rfl, jt 13 rfl rfl, by decide +kernel, by decide +kernel⟩
def KJ0_length_8abf5 : jM := (RJ0, cJ0_length_8abf5, 1, yJ0_length_8abf5, some .int, { frames := 1, cells := 0, slots := 0, locals := 20 })
set_option maxRecDepth 100000 in
theorem okJ0_length_8abf5 : jmOK KJ0_length_8abf5 := ⟨rfl, by decide +kernel, jt 329 rfl rfl, jt 9 rfl rfl, by decide +kernel, by decide +kernel⟩
def KJ0_charAt_5068e : jM := (RJ0, cJ0_charAt_5068e, 2, yJ0_charAt_5068e, some .char, { frames := 5, cells := 0, slots := 0, locals := 125 })
set_option maxRecDepth 100000 in
theorem okJ0_charAt_5068e : jmOK KJ0_charAt_5068e := ⟨rfl, by decide +kernel, jt 339 rfl rfl, jt 9 rfl rfl, by decide +kernel, by decide +kernel⟩
def KJ0_coder_7d493 : jM := (RJ0, cJ0_coder_7d493, 1, yJ0_coder_7d493, some .byte, { frames := 0, cells := 0, slots := 0, locals := 0 })
set_option maxRecDepth 100000 in
theorem okJ0_coder_7d493 : jmOK KJ0_coder_7d493 := ⟨rfl, by decide +kernel, jt 333 rfl rfl, jt 9 rfl rfl, by decide +kernel, by decide +kernel⟩
def KJ0_isLatin1_aae02 : jM := (RJ0, cJ0_isLatin1_aae02, 1, yJ0_isLatin1_aae02, some .boolean, { frames := 0, cells := 0, slots := 0, locals := 0 })
set_option maxRecDepth 100000 in
theorem okJ0_isLatin1_aae02 : jmOK KJ0_isLatin1_aae02 := ⟨rfl, by decide +kernel, jt 343 rfl rfl, jt 9 rfl rfl, by decide +kernel, by decide +kernel⟩
def KJ0_checkIndex_df160 : jM := (RJ0, cJ0_checkIndex_df160, 2, yJ0_checkIndex_df160, (none : Option Jvm.ClassFile.FieldType), { frames := 2, cells := 0, slots := 0, locals := 62 })
set_option maxRecDepth 100000 in
theorem okJ0_checkIndex_df160 : jmOK KJ0_checkIndex_df160 := ⟨rfl, by decide +kernel, jt 349 rfl rfl, jt 9 rfl rfl, by decide +kernel, by decide +kernel⟩
def KJ1_charAt_3b067 : jM := (RJ1, cJ1_charAt_3b067, 2, yJ1_charAt_3b067, some .char, { frames := 3, cells := 0, slots := 0, locals := 83 })
set_option maxRecDepth 100000 in
theorem okJ1_charAt_3b067 : jmOK KJ1_charAt_3b067 := ⟨rfl, by decide +kernel, jt 346 rfl rfl, jt 10 rfl rfl, by decide +kernel, by decide +kernel⟩
def KJ2_getChar_3b067 : jM := (RJ2, cJ2_getChar_3b067, 2, yJ2_getChar_3b067, some .char, { frames := 1, cells := 0, slots := 0, locals := 40 })
set_option maxRecDepth 100000 in
theorem okJ2_getChar_3b067 : jmOK KJ2_getChar_3b067 := ⟨rfl, by decide +kernel, jt 367 rfl rfl, jt 12 rfl rfl, by decide +kernel, by decide +kernel⟩
def KJ2_length_9d52b : jM := (RJ2, cJ2_length_9d52b, 1, yJ2_length_9d52b, some .int, { frames := 0, cells := 0, slots := 0, locals := 0 })
set_option maxRecDepth 100000 in
theorem okJ2_length_9d52b : jmOK KJ2_length_9d52b := ⟨rfl, by decide +kernel, jt 363 rfl rfl, jt 12 rfl rfl, by decide +kernel, by decide +kernel⟩
def KJ2_charAt_3b067 : jM := (RJ2, cJ2_charAt_3b067, 2, yJ2_charAt_3b067, some .char, { frames := 4, cells := 0, slots := 0, locals := 104 })
set_option maxRecDepth 100000 in
theorem okJ2_charAt_3b067 : jmOK KJ2_charAt_3b067 := ⟨rfl, by decide +kernel, jt 357 rfl rfl, jt 12 rfl rfl, by decide +kernel, by decide +kernel⟩
def KJ2_checkIndex_2214a : jM := (RJ2, cJ2_checkIndex_2214a, 2, yJ2_checkIndex_2214a, (none : Option Jvm.ClassFile.FieldType), { frames := 3, cells := 0, slots := 0, locals := 83 })
set_option maxRecDepth 100000 in
theorem okJ2_checkIndex_2214a : jmOK KJ2_checkIndex_2214a := ⟨rfl, by decide +kernel, jt 360 rfl rfl, jt 12 rfl rfl, by decide +kernel, by decide +kernel⟩
def KJ3_checkIndex_8e157 : jM := (RJ3, cJ3_checkIndex_8e157, 3, yJ3_checkIndex_8e157, some .int, { frames := 1, cells := 0, slots := 0, locals := 40 })
set_option maxRecDepth 100000 in
theorem okJ3_checkIndex_8e157 : jmOK KJ3_checkIndex_8e157 := ⟨rfl, by decide +kernel, jt 354 rfl rfl, jt 11 rfl rfl, by decide +kernel, by decide +kernel⟩
set_option maxRecDepth 100000 in
theorem jFX6_12 : jF RX6 12 6 0 := ⟨RX6, TX6, 9, rfl, by decide, jin6, Or.inl (jt 250 rfl rfl)⟩
set_option maxRecDepth 100000 in
theorem jFX6_16 : jF RX6 16 6 1 := ⟨RX6, TX6, 9, rfl, by decide, jin6, Or.inl (jt 251 rfl rfl)⟩
set_option maxRecDepth 100000 in
theorem jFX6_19 : jF RX6 19 6 2 := ⟨RX6, TX6, 9, rfl, by decide, jin6, Or.inl (jt 252 rfl rfl)⟩
set_option maxRecDepth 100000 in
theorem jFX6_23 : jF RX6 23 6 3 := ⟨RX6, TX6, 9, rfl, by decide, jin6, Or.inl (jt 253 rfl rfl)⟩
set_option maxRecDepth 100000 in
theorem jFX6_30 : jF RX6 30 6 4 := ⟨RX6, TX6, 9, rfl, by decide, jin6, Or.inl (jt 254 rfl rfl)⟩
set_option maxRecDepth 100000 in
theorem jFX6_37 : jF RX6 37 6 5 := ⟨RX6, TX6, 9, rfl, by decide, jin6, Or.inl (jt 255 rfl rfl)⟩
set_option maxRecDepth 100000 in
theorem jFX6_44 : jF RX6 44 6 6 := ⟨RX6, TX6, 9, rfl, by decide, jin6, Or.inl (jt 256 rfl rfl)⟩
set_option maxRecDepth 100000 in
theorem jFX6_50 : jF RX6 50 6 7 := ⟨RX6, TX6, 9, rfl, by decide, jin6, Or.inl (jt 257 rfl rfl)⟩
set_option maxRecDepth 100000 in
theorem jFX6_54 : jF RX6 54 6 8 := ⟨RX6, TX6, 9, rfl, by decide, jin6, Or.inl (jt 258 rfl rfl)⟩
set_option maxRecDepth 100000 in
theorem jFX6_63 : jF RX6 63 1 0 := ⟨RX1, TX1, 11, rfl, by decide, jin1, Or.inr ⟨"SwordSeat", jn 127 rfl rfl⟩⟩
set_option maxRecDepth 100000 in
theorem jFX6_73 : jF RX6 73 5 1 := ⟨RX5, TX5, 2, rfl, by decide, jin5, Or.inr ⟨"SwordSeat", jn 115 rfl rfl⟩⟩
set_option maxRecDepth 100000 in
theorem jFX6_80 : jF RX6 80 1 9 := ⟨RX1, TX1, 11, rfl, by decide, jin1, Or.inr ⟨"SwordSeat", jn 138 rfl rfl⟩⟩
set_option maxRecDepth 100000 in
theorem jFX6_83 : jF RX6 83 1 1 := ⟨RX1, TX1, 11, rfl, by decide, jin1, Or.inr ⟨"SwordSeat", jn 129 rfl rfl⟩⟩
set_option maxRecDepth 100000 in
theorem jFX6_90 : jF RX6 90 3 2 := ⟨RX3, TX3, 3, rfl, by decide, jin3, Or.inr ⟨"SwordSeat", jn 222 rfl rfl⟩⟩
set_option maxRecDepth 100000 in
theorem jFX6_93 : jF RX6 93 2 6 := ⟨RX2, TX2, 13, rfl, by decide, jin2, Or.inr ⟨"SwordSeat", jn 51 rfl rfl⟩⟩
set_option maxRecDepth 100000 in
theorem jFX6_96 : jF RX6 96 2 7 := ⟨RX2, TX2, 13, rfl, by decide, jin2, Or.inr ⟨"SwordSeat", jn 54 rfl rfl⟩⟩
set_option maxRecDepth 100000 in
theorem jFX6_99 : jF RX6 99 2 8 := ⟨RX2, TX2, 13, rfl, by decide, jin2, Or.inr ⟨"SwordSeat", jn 57 rfl rfl⟩⟩
set_option maxRecDepth 100000 in
theorem jFX6_102 : jF RX6 102 2 10 := ⟨RX2, TX2, 13, rfl, by decide, jin2, Or.inr ⟨"SwordSeat", jn 64 rfl rfl⟩⟩
set_option maxRecDepth 100000 in
theorem jFX6_105 : jF RX6 105 2 11 := ⟨RX2, TX2, 13, rfl, by decide, jin2, Or.inr ⟨"SwordSeat", jn 67 rfl rfl⟩⟩
set_option maxRecDepth 100000 in
theorem jFX6_108 : jF RX6 108 2 12 := ⟨RX2, TX2, 13, rfl, by decide, jin2, Or.inr ⟨"SwordSeat", jn 71 rfl rfl⟩⟩
set_option maxRecDepth 100000 in
theorem jFX6_111 : jF RX6 111 2 9 := ⟨RX2, TX2, 13, rfl, by decide, jin2, Or.inr ⟨"SwordSeat", jn 61 rfl rfl⟩⟩
set_option maxRecDepth 100000 in
theorem jFX6_114 : jF RX6 114 2 0 := ⟨RX2, TX2, 13, rfl, by decide, jin2, Or.inr ⟨"SwordSeat", jn 35 rfl rfl⟩⟩
set_option maxRecDepth 100000 in
theorem jFX6_118 : jF RX6 118 2 1 := ⟨RX2, TX2, 13, rfl, by decide, jin2, Or.inr ⟨"SwordSeat", jn 38 rfl rfl⟩⟩
set_option maxRecDepth 100000 in
theorem jFX6_128 : jF RX6 128 2 2 := ⟨RX2, TX2, 13, rfl, by decide, jin2, Or.inr ⟨"SwordSeat", jn 40 rfl rfl⟩⟩
set_option maxRecDepth 100000 in
theorem jFX6_131 : jF RX6 131 2 3 := ⟨RX2, TX2, 13, rfl, by decide, jin2, Or.inr ⟨"SwordSeat", jn 43 rfl rfl⟩⟩
set_option maxRecDepth 100000 in
theorem jFX6_134 : jF RX6 134 2 4 := ⟨RX2, TX2, 13, rfl, by decide, jin2, Or.inr ⟨"SwordSeat", jn 46 rfl rfl⟩⟩
set_option maxRecDepth 100000 in
theorem jFX6_137 : jF RX6 137 2 5 := ⟨RX2, TX2, 13, rfl, by decide, jin2, Or.inr ⟨"SwordSeat", jn 48 rfl rfl⟩⟩
set_option maxRecDepth 100000 in
theorem jFX6_177 : jF RX6 177 0 4 := ⟨RX0, TX0, 12, rfl, by decide, jin0, Or.inr ⟨"SwordSeat", jn 174 rfl rfl⟩⟩
set_option maxRecDepth 100000 in
theorem jFX6_200 : jF RX6 200 0 10 := ⟨RX0, TX0, 12, rfl, by decide, jin0, Or.inr ⟨"SwordSeat", jn 182 rfl rfl⟩⟩
set_option maxRecDepth 100000 in
theorem jFX6_204 : jF RX6 204 0 11 := ⟨RX0, TX0, 12, rfl, by decide, jin0, Or.inr ⟨"SwordSeat", jn 184 rfl rfl⟩⟩
set_option maxRecDepth 100000 in
theorem jFX6_238 : jF RX6 238 4 0 := ⟨RX4, TX4, 3, rfl, by decide, jin4, Or.inr ⟨"SwordSeat", jn 238 rfl rfl⟩⟩
set_option maxRecDepth 100000 in
theorem jFX6_241 : jF RX6 241 4 1 := ⟨RX4, TX4, 3, rfl, by decide, jin4, Or.inr ⟨"SwordSeat", jn 240 rfl rfl⟩⟩
set_option maxRecDepth 100000 in
theorem jFX6_244 : jF RX6 244 4 2 := ⟨RX4, TX4, 3, rfl, by decide, jin4, Or.inr ⟨"SwordSeat", jn 242 rfl rfl⟩⟩
set_option maxRecDepth 100000 in
theorem jFX6_274 : jF RX6 274 0 9 := ⟨RX0, TX0, 12, rfl, by decide, jin0, Or.inr ⟨"SwordSeat", jn 180 rfl rfl⟩⟩
set_option maxRecDepth 100000 in
theorem jFX6_278 : jF RX6 278 3 0 := ⟨RX3, TX3, 3, rfl, by decide, jin3, Or.inr ⟨"SwordSeat", jn 218 rfl rfl⟩⟩
set_option maxRecDepth 100000 in
theorem jFX6_281 : jF RX6 281 3 1 := ⟨RX3, TX3, 3, rfl, by decide, jin3, Or.inr ⟨"SwordSeat", jn 220 rfl rfl⟩⟩
set_option maxRecDepth 100000 in
theorem jFX0_9 : jF RX0 9 0 0 := ⟨RX0, TX0, 12, rfl, by decide, jin0, Or.inl (jt 169 rfl rfl)⟩
set_option maxRecDepth 100000 in
theorem jFX0_15 : jF RX0 15 0 1 := ⟨RX0, TX0, 12, rfl, by decide, jin0, Or.inl (jt 170 rfl rfl)⟩
set_option maxRecDepth 100000 in
theorem jFX0_18 : jF RX0 18 0 2 := ⟨RX0, TX0, 12, rfl, by decide, jin0, Or.inl (jt 171 rfl rfl)⟩
set_option maxRecDepth 100000 in
theorem jFX0_21 : jF RX0 21 0 5 := ⟨RX0, TX0, 12, rfl, by decide, jin0, Or.inl (jt 175 rfl rfl)⟩
set_option maxRecDepth 100000 in
theorem jFX0_25 : jF RX0 25 0 6 := ⟨RX0, TX0, 12, rfl, by decide, jin0, Or.inl (jt 176 rfl rfl)⟩
set_option maxRecDepth 100000 in
theorem jFX0_28 : jF RX0 28 0 7 := ⟨RX0, TX0, 12, rfl, by decide, jin0, Or.inl (jt 177 rfl rfl)⟩
set_option maxRecDepth 100000 in
theorem jFX0_31 : jF RX0 31 0 8 := ⟨RX0, TX0, 12, rfl, by decide, jin0, Or.inl (jt 178 rfl rfl)⟩
set_option maxRecDepth 100000 in
theorem jFX0_34 : jF RX0 34 0 9 := ⟨RX0, TX0, 12, rfl, by decide, jin0, Or.inl (jt 179 rfl rfl)⟩
set_option maxRecDepth 100000 in
theorem jFX0_37 : jF RX0 37 2 0 := ⟨RX2, TX2, 13, rfl, by decide, jin2, Or.inr ⟨"SwordSeat", jn 34 rfl rfl⟩⟩
set_option maxRecDepth 100000 in
theorem jFX0_40 : jF RX0 40 2 1 := ⟨RX2, TX2, 13, rfl, by decide, jin2, Or.inr ⟨"SwordSeat", jn 37 rfl rfl⟩⟩
set_option maxRecDepth 100000 in
theorem jFX0_41 : jF RX0 41 2 10 := ⟨RX2, TX2, 13, rfl, by decide, jin2, Or.inr ⟨"SwordSeat", jn 63 rfl rfl⟩⟩
set_option maxRecDepth 100000 in
theorem jFX0_45 : jF RX0 45 0 4 := ⟨RX0, TX0, 12, rfl, by decide, jin0, Or.inl (jt 173 rfl rfl)⟩
set_option maxRecDepth 100000 in
theorem jFX0_46 : jF RX0 46 2 9 := ⟨RX2, TX2, 13, rfl, by decide, jin2, Or.inr ⟨"SwordSeat", jn 59 rfl rfl⟩⟩
set_option maxRecDepth 100000 in
theorem jFX0_57 : jF RX0 57 0 3 := ⟨RX0, TX0, 12, rfl, by decide, jin0, Or.inl (jt 172 rfl rfl)⟩
set_option maxRecDepth 100000 in
theorem jFX0_99 : jF RX0 99 2 2 := ⟨RX2, TX2, 13, rfl, by decide, jin2, Or.inr ⟨"SwordSeat", jn 41 rfl rfl⟩⟩
set_option maxRecDepth 100000 in
theorem jFX0_102 : jF RX0 102 2 3 := ⟨RX2, TX2, 13, rfl, by decide, jin2, Or.inr ⟨"SwordSeat", jn 44 rfl rfl⟩⟩
set_option maxRecDepth 100000 in
theorem jFX0_105 : jF RX0 105 2 11 := ⟨RX2, TX2, 13, rfl, by decide, jin2, Or.inr ⟨"SwordSeat", jn 69 rfl rfl⟩⟩
set_option maxRecDepth 100000 in
theorem jFX0_112 : jF RX0 112 0 10 := ⟨RX0, TX0, 12, rfl, by decide, jin0, Or.inl (jt 181 rfl rfl)⟩
set_option maxRecDepth 100000 in
theorem jFX0_116 : jF RX0 116 0 11 := ⟨RX0, TX0, 12, rfl, by decide, jin0, Or.inl (jt 183 rfl rfl)⟩
set_option maxRecDepth 100000 in
theorem jFX1_12 : jF RX1 12 1 0 := ⟨RX1, TX1, 11, rfl, by decide, jin1, Or.inl (jt 126 rfl rfl)⟩
set_option maxRecDepth 100000 in
theorem jFX1_21 : jF RX1 21 1 1 := ⟨RX1, TX1, 11, rfl, by decide, jin1, Or.inl (jt 128 rfl rfl)⟩
set_option maxRecDepth 100000 in
theorem jFX1_25 : jF RX1 25 1 9 := ⟨RX1, TX1, 11, rfl, by decide, jin1, Or.inl (jt 137 rfl rfl)⟩
set_option maxRecDepth 100000 in
theorem jFX1_32 : jF RX1 32 1 4 := ⟨RX1, TX1, 11, rfl, by decide, jin1, Or.inl (jt 132 rfl rfl)⟩
set_option maxRecDepth 100000 in
theorem jFX1_35 : jF RX1 35 1 6 := ⟨RX1, TX1, 11, rfl, by decide, jin1, Or.inl (jt 134 rfl rfl)⟩
set_option maxRecDepth 100000 in
theorem jFX1_38 : jF RX1 38 1 7 := ⟨RX1, TX1, 11, rfl, by decide, jin1, Or.inl (jt 135 rfl rfl)⟩
set_option maxRecDepth 100000 in
theorem jFX1_42 : jF RX1 42 1 8 := ⟨RX1, TX1, 11, rfl, by decide, jin1, Or.inl (jt 136 rfl rfl)⟩
set_option maxRecDepth 100000 in
theorem jFX1_49 : jF RX1 49 1 2 := ⟨RX1, TX1, 11, rfl, by decide, jin1, Or.inl (jt 130 rfl rfl)⟩
set_option maxRecDepth 100000 in
theorem jFX1_55 : jF RX1 55 2 6 := ⟨RX2, TX2, 13, rfl, by decide, jin2, Or.inr ⟨"SwordSeat", jn 50 rfl rfl⟩⟩
set_option maxRecDepth 100000 in
theorem jFX1_58 : jF RX1 58 5 1 := ⟨RX5, TX5, 2, rfl, by decide, jin5, Or.inr ⟨"SwordSeat", jn 116 rfl rfl⟩⟩
set_option maxRecDepth 100000 in
theorem jFX1_65 : jF RX1 65 2 9 := ⟨RX2, TX2, 13, rfl, by decide, jin2, Or.inr ⟨"SwordSeat", jn 60 rfl rfl⟩⟩
set_option maxRecDepth 100000 in
theorem jFX1_68 : jF RX1 68 1 10 := ⟨RX1, TX1, 11, rfl, by decide, jin1, Or.inl (jt 139 rfl rfl)⟩
set_option maxRecDepth 100000 in
theorem jFX1_107 : jF RX1 107 1 3 := ⟨RX1, TX1, 11, rfl, by decide, jin1, Or.inl (jt 131 rfl rfl)⟩
set_option maxRecDepth 100000 in
theorem jFX1_117 : jF RX1 117 1 5 := ⟨RX1, TX1, 11, rfl, by decide, jin1, Or.inl (jt 133 rfl rfl)⟩
set_option maxRecDepth 100000 in
theorem jFX1_123 : jF RX1 123 2 7 := ⟨RX2, TX2, 13, rfl, by decide, jin2, Or.inr ⟨"SwordSeat", jn 53 rfl rfl⟩⟩
set_option maxRecDepth 100000 in
theorem jFX1_129 : jF RX1 129 2 8 := ⟨RX2, TX2, 13, rfl, by decide, jin2, Or.inr ⟨"SwordSeat", jn 56 rfl rfl⟩⟩
set_option maxRecDepth 100000 in
theorem jFX1_135 : jF RX1 135 2 10 := ⟨RX2, TX2, 13, rfl, by decide, jin2, Or.inr ⟨"SwordSeat", jn 65 rfl rfl⟩⟩
set_option maxRecDepth 100000 in
theorem jFX1_137 : jF RX1 137 2 11 := ⟨RX2, TX2, 13, rfl, by decide, jin2, Or.inr ⟨"SwordSeat", jn 68 rfl rfl⟩⟩
set_option maxRecDepth 100000 in
theorem jFX2_9 : jF RX2 9 2 0 := ⟨RX2, TX2, 13, rfl, by decide, jin2, Or.inl (jt 33 rfl rfl)⟩
set_option maxRecDepth 100000 in
theorem jFX2_15 : jF RX2 15 2 1 := ⟨RX2, TX2, 13, rfl, by decide, jin2, Or.inl (jt 36 rfl rfl)⟩
set_option maxRecDepth 100000 in
theorem jFX2_18 : jF RX2 18 2 2 := ⟨RX2, TX2, 13, rfl, by decide, jin2, Or.inl (jt 39 rfl rfl)⟩
set_option maxRecDepth 100000 in
theorem jFX2_21 : jF RX2 21 2 3 := ⟨RX2, TX2, 13, rfl, by decide, jin2, Or.inl (jt 42 rfl rfl)⟩
set_option maxRecDepth 100000 in
theorem jFX2_24 : jF RX2 24 2 4 := ⟨RX2, TX2, 13, rfl, by decide, jin2, Or.inl (jt 45 rfl rfl)⟩
set_option maxRecDepth 100000 in
theorem jFX2_27 : jF RX2 27 2 5 := ⟨RX2, TX2, 13, rfl, by decide, jin2, Or.inl (jt 47 rfl rfl)⟩
set_option maxRecDepth 100000 in
theorem jFX2_33 : jF RX2 33 2 6 := ⟨RX2, TX2, 13, rfl, by decide, jin2, Or.inl (jt 49 rfl rfl)⟩
set_option maxRecDepth 100000 in
theorem jFX2_37 : jF RX2 37 2 7 := ⟨RX2, TX2, 13, rfl, by decide, jin2, Or.inl (jt 52 rfl rfl)⟩
set_option maxRecDepth 100000 in
theorem jFX2_40 : jF RX2 40 2 8 := ⟨RX2, TX2, 13, rfl, by decide, jin2, Or.inl (jt 55 rfl rfl)⟩
set_option maxRecDepth 100000 in
theorem jFX2_43 : jF RX2 43 2 9 := ⟨RX2, TX2, 13, rfl, by decide, jin2, Or.inl (jt 58 rfl rfl)⟩
set_option maxRecDepth 100000 in
theorem jFX2_46 : jF RX2 46 2 10 := ⟨RX2, TX2, 13, rfl, by decide, jin2, Or.inl (jt 62 rfl rfl)⟩
set_option maxRecDepth 100000 in
theorem jFX2_49 : jF RX2 49 2 11 := ⟨RX2, TX2, 13, rfl, by decide, jin2, Or.inl (jt 66 rfl rfl)⟩
set_option maxRecDepth 100000 in
theorem jFX2_52 : jF RX2 52 2 12 := ⟨RX2, TX2, 13, rfl, by decide, jin2, Or.inl (jt 70 rfl rfl)⟩
set_option maxRecDepth 100000 in
theorem jFX3_9 : jF RX3 9 3 0 := ⟨RX3, TX3, 3, rfl, by decide, jin3, Or.inl (jt 217 rfl rfl)⟩
set_option maxRecDepth 100000 in
theorem jFX3_15 : jF RX3 15 3 1 := ⟨RX3, TX3, 3, rfl, by decide, jin3, Or.inl (jt 219 rfl rfl)⟩
set_option maxRecDepth 100000 in
theorem jFX3_18 : jF RX3 18 3 2 := ⟨RX3, TX3, 3, rfl, by decide, jin3, Or.inl (jt 221 rfl rfl)⟩
set_option maxRecDepth 100000 in
theorem jFX4_9 : jF RX4 9 4 0 := ⟨RX4, TX4, 3, rfl, by decide, jin4, Or.inl (jt 237 rfl rfl)⟩
set_option maxRecDepth 100000 in
theorem jFX4_15 : jF RX4 15 4 1 := ⟨RX4, TX4, 3, rfl, by decide, jin4, Or.inl (jt 239 rfl rfl)⟩
set_option maxRecDepth 100000 in
theorem jFX4_19 : jF RX4 19 4 2 := ⟨RX4, TX4, 3, rfl, by decide, jin4, Or.inl (jt 241 rfl rfl)⟩
set_option maxRecDepth 100000 in
theorem jFX5_9 : jF RX5 9 5 0 := ⟨RX5, TX5, 2, rfl, by decide, jin5, Or.inl (jt 113 rfl rfl)⟩
set_option maxRecDepth 100000 in
theorem jFX5_15 : jF RX5 15 5 1 := ⟨RX5, TX5, 2, rfl, by decide, jin5, Or.inl (jt 114 rfl rfl)⟩
set_option maxRecDepth 100000 in
theorem jFX7_7 : jF RX7 7 7 0 := ⟨RX7, TX7, 42, rfl, by decide, jin7, Or.inl (jt 778 rfl rfl)⟩
set_option maxRecDepth 100000 in
theorem jFX7_13 : jF RX7 13 7 3 := ⟨RX7, TX7, 42, rfl, by decide, jin7, Or.inl (jt 781 rfl rfl)⟩
set_option maxRecDepth 100000 in
theorem jFX7_16 : jF RX7 16 7 5 := ⟨RX7, TX7, 42, rfl, by decide, jin7, Or.inl (jt 783 rfl rfl)⟩
set_option maxRecDepth 100000 in
theorem jFX7_19 : jF RX7 19 7 6 := ⟨RX7, TX7, 42, rfl, by decide, jin7, Or.inl (jt 784 rfl rfl)⟩
set_option maxRecDepth 100000 in
theorem jFX7_22 : jF RX7 22 7 12 := ⟨RX7, TX7, 42, rfl, by decide, jin7, Or.inl (jt 790 rfl rfl)⟩
set_option maxRecDepth 100000 in
theorem jFX7_25 : jF RX7 25 7 21 := ⟨RX7, TX7, 42, rfl, by decide, jin7, Or.inl (jt 799 rfl rfl)⟩
set_option maxRecDepth 100000 in
theorem jFX7_28 : jF RX7 28 7 22 := ⟨RX7, TX7, 42, rfl, by decide, jin7, Or.inl (jt 800 rfl rfl)⟩
set_option maxRecDepth 100000 in
theorem jFX7_31 : jF RX7 31 7 23 := ⟨RX7, TX7, 42, rfl, by decide, jin7, Or.inl (jt 801 rfl rfl)⟩
set_option maxRecDepth 100000 in
theorem jFX7_34 : jF RX7 34 7 24 := ⟨RX7, TX7, 42, rfl, by decide, jin7, Or.inl (jt 802 rfl rfl)⟩
set_option maxRecDepth 100000 in
theorem jFX7_37 : jF RX7 37 7 28 := ⟨RX7, TX7, 42, rfl, by decide, jin7, Or.inl (jt 806 rfl rfl)⟩
set_option maxRecDepth 100000 in
theorem jFX7_41 : jF RX7 41 7 29 := ⟨RX7, TX7, 42, rfl, by decide, jin7, Or.inl (jt 807 rfl rfl)⟩
set_option maxRecDepth 100000 in
theorem jFX7_44 : jF RX7 44 7 30 := ⟨RX7, TX7, 42, rfl, by decide, jin7, Or.inl (jt 808 rfl rfl)⟩
set_option maxRecDepth 100000 in
theorem jFX7_47 : jF RX7 47 7 31 := ⟨RX7, TX7, 42, rfl, by decide, jin7, Or.inl (jt 809 rfl rfl)⟩
set_option maxRecDepth 100000 in
theorem jFX7_50 : jF RX7 50 7 33 := ⟨RX7, TX7, 42, rfl, by decide, jin7, Or.inl (jt 811 rfl rfl)⟩
set_option maxRecDepth 100000 in
theorem jFX7_53 : jF RX7 53 7 34 := ⟨RX7, TX7, 42, rfl, by decide, jin7, Or.inl (jt 812 rfl rfl)⟩
set_option maxRecDepth 100000 in
theorem jFX7_56 : jF RX7 56 7 35 := ⟨RX7, TX7, 42, rfl, by decide, jin7, Or.inl (jt 813 rfl rfl)⟩
set_option maxRecDepth 100000 in
theorem jFX7_59 : jF RX7 59 7 37 := ⟨RX7, TX7, 42, rfl, by decide, jin7, Or.inl (jt 815 rfl rfl)⟩
set_option maxRecDepth 100000 in
theorem jFX7_63 : jF RX7 63 7 38 := ⟨RX7, TX7, 42, rfl, by decide, jin7, Or.inl (jt 816 rfl rfl)⟩
set_option maxRecDepth 100000 in
theorem jFX7_66 : jF RX7 66 7 39 := ⟨RX7, TX7, 42, rfl, by decide, jin7, Or.inl (jt 817 rfl rfl)⟩
set_option maxRecDepth 100000 in
theorem jFX7_69 : jF RX7 69 7 40 := ⟨RX7, TX7, 42, rfl, by decide, jin7, Or.inl (jt 818 rfl rfl)⟩
set_option maxRecDepth 100000 in
theorem jFX7_78 : jF RX7 78 7 13 := ⟨RX7, TX7, 42, rfl, by decide, jin7, Or.inl (jt 791 rfl rfl)⟩
set_option maxRecDepth 100000 in
theorem jFX7_82 : jF RX7 82 7 15 := ⟨RX7, TX7, 42, rfl, by decide, jin7, Or.inl (jt 793 rfl rfl)⟩
set_option maxRecDepth 100000 in
theorem jFX7_85 : jF RX7 85 7 18 := ⟨RX7, TX7, 42, rfl, by decide, jin7, Or.inl (jt 796 rfl rfl)⟩
set_option maxRecDepth 100000 in
theorem jFX7_88 : jF RX7 88 7 16 := ⟨RX7, TX7, 42, rfl, by decide, jin7, Or.inl (jt 794 rfl rfl)⟩
set_option maxRecDepth 100000 in
theorem jFX7_91 : jF RX7 91 7 19 := ⟨RX7, TX7, 42, rfl, by decide, jin7, Or.inl (jt 797 rfl rfl)⟩
set_option maxRecDepth 100000 in
theorem jFX7_94 : jF RX7 94 7 17 := ⟨RX7, TX7, 42, rfl, by decide, jin7, Or.inl (jt 795 rfl rfl)⟩
set_option maxRecDepth 100000 in
theorem jFX7_101 : jF RX7 101 7 20 := ⟨RX7, TX7, 42, rfl, by decide, jin7, Or.inl (jt 798 rfl rfl)⟩
set_option maxRecDepth 100000 in
theorem jFX7_123 : jF RX7 123 7 7 := ⟨RX7, TX7, 42, rfl, by decide, jin7, Or.inl (jt 785 rfl rfl)⟩
set_option maxRecDepth 100000 in
theorem jFX7_130 : jF RX7 130 7 8 := ⟨RX7, TX7, 42, rfl, by decide, jin7, Or.inl (jt 786 rfl rfl)⟩
set_option maxRecDepth 100000 in
theorem jFX7_133 : jF RX7 133 7 9 := ⟨RX7, TX7, 42, rfl, by decide, jin7, Or.inl (jt 787 rfl rfl)⟩
set_option maxRecDepth 100000 in
theorem jFX7_138 : jF RX7 138 7 11 := ⟨RX7, TX7, 42, rfl, by decide, jin7, Or.inl (jt 789 rfl rfl)⟩
set_option maxRecDepth 100000 in
theorem jFX7_147 : jF RX7 147 7 10 := ⟨RX7, TX7, 42, rfl, by decide, jin7, Or.inl (jt 788 rfl rfl)⟩
set_option maxRecDepth 100000 in
theorem jFX7_156 : jF RX7 156 7 14 := ⟨RX7, TX7, 42, rfl, by decide, jin7, Or.inl (jt 792 rfl rfl)⟩
set_option maxRecDepth 100000 in
theorem jFX7_159 : jF RX7 159 7 1 := ⟨RX7, TX7, 42, rfl, by decide, jin7, Or.inl (jt 779 rfl rfl)⟩
set_option maxRecDepth 100000 in
theorem jFX7_162 : jF RX7 162 7 2 := ⟨RX7, TX7, 42, rfl, by decide, jin7, Or.inl (jt 780 rfl rfl)⟩
set_option maxRecDepth 100000 in
theorem jFX7_165 : jF RX7 165 7 4 := ⟨RX7, TX7, 42, rfl, by decide, jin7, Or.inl (jt 782 rfl rfl)⟩
set_option maxRecDepth 100000 in
theorem jFX7_168 : jF RX7 168 7 36 := ⟨RX7, TX7, 42, rfl, by decide, jin7, Or.inl (jt 814 rfl rfl)⟩
set_option maxRecDepth 100000 in
theorem jFX7_180 : jF RX7 180 7 25 := ⟨RX7, TX7, 42, rfl, by decide, jin7, Or.inl (jt 803 rfl rfl)⟩
set_option maxRecDepth 100000 in
theorem jFX7_183 : jF RX7 183 7 26 := ⟨RX7, TX7, 42, rfl, by decide, jin7, Or.inl (jt 804 rfl rfl)⟩
set_option maxRecDepth 100000 in
theorem jFX7_186 : jF RX7 186 7 27 := ⟨RX7, TX7, 42, rfl, by decide, jin7, Or.inl (jt 805 rfl rfl)⟩
set_option maxRecDepth 100000 in
theorem jFX7_248 : jF RX7 248 7 32 := ⟨RX7, TX7, 42, rfl, by decide, jin7, Or.inl (jt 810 rfl rfl)⟩
set_option maxRecDepth 100000 in
theorem jFX7_287 : jF RX7 287 7 41 := ⟨RX7, TX7, 42, rfl, by decide, jin7, Or.inl (jt 819 rfl rfl)⟩
theorem jP0_0 : jP 0 0 true (.array .int) := ⟨RX0, TX0, 12, tyX0, rfl, tyX0_ok, nmX0, rfl, tyX0_ok 0 (by decide), rfl⟩
theorem jP0_1 : jP 0 1 true (.array .int) := ⟨RX0, TX0, 12, tyX0, rfl, tyX0_ok, nmX0, rfl, tyX0_ok 1 (by decide), rfl⟩
theorem jP0_2 : jP 0 2 true (.array .int) := ⟨RX0, TX0, 12, tyX0, rfl, tyX0_ok, nmX0, rfl, tyX0_ok 2 (by decide), rfl⟩
theorem jP0_3 : jP 0 3 false .int := ⟨RX0, TX0, 12, tyX0, rfl, tyX0_ok, nmX0, rfl, tyX0_ok 3 (by decide), rfl⟩
theorem jP0_4 : jP 0 4 false .int := ⟨RX0, TX0, 12, tyX0, rfl, tyX0_ok, nmX0, rfl, tyX0_ok 4 (by decide), rfl⟩
theorem jP0_5 : jP 0 5 true (.array .long) := ⟨RX0, TX0, 12, tyX0, rfl, tyX0_ok, nmX0, rfl, tyX0_ok 5 (by decide), rfl⟩
theorem jP0_6 : jP 0 6 true (.array .long) := ⟨RX0, TX0, 12, tyX0, rfl, tyX0_ok, nmX0, rfl, tyX0_ok 6 (by decide), rfl⟩
theorem jP0_7 : jP 0 7 true (.array .long) := ⟨RX0, TX0, 12, tyX0, rfl, tyX0_ok, nmX0, rfl, tyX0_ok 7 (by decide), rfl⟩
theorem jP0_8 : jP 0 8 true (.array .long) := ⟨RX0, TX0, 12, tyX0, rfl, tyX0_ok, nmX0, rfl, tyX0_ok 8 (by decide), rfl⟩
theorem jP0_9 : jP 0 9 true (.array .long) := ⟨RX0, TX0, 12, tyX0, rfl, tyX0_ok, nmX0, rfl, tyX0_ok 9 (by decide), rfl⟩
theorem jP0_10 : jP 0 10 false .long := ⟨RX0, TX0, 12, tyX0, rfl, tyX0_ok, nmX0, rfl, tyX0_ok 10 (by decide), rfl⟩
theorem jP0_11 : jP 0 11 false .long := ⟨RX0, TX0, 12, tyX0, rfl, tyX0_ok, nmX0, rfl, tyX0_ok 11 (by decide), rfl⟩
theorem jP1_0 : jP 1 0 true (.object "SwordSeat$Tape") := ⟨RX1, TX1, 11, tyX1, rfl, tyX1_ok, nmX1, rfl, tyX1_ok 0 (by decide), rfl⟩
theorem jP1_1 : jP 1 1 true (.object "SwordSeat$Realm") := ⟨RX1, TX1, 11, tyX1, rfl, tyX1_ok, nmX1, rfl, tyX1_ok 1 (by decide), rfl⟩
theorem jP1_2 : jP 1 2 false .int := ⟨RX1, TX1, 11, tyX1, rfl, tyX1_ok, nmX1, rfl, tyX1_ok 2 (by decide), rfl⟩
theorem jP1_3 : jP 1 3 false .int := ⟨RX1, TX1, 11, tyX1, rfl, tyX1_ok, nmX1, rfl, tyX1_ok 3 (by decide), rfl⟩
theorem jP1_4 : jP 1 4 false .int := ⟨RX1, TX1, 11, tyX1, rfl, tyX1_ok, nmX1, rfl, tyX1_ok 4 (by decide), rfl⟩
theorem jP1_5 : jP 1 5 false .int := ⟨RX1, TX1, 11, tyX1, rfl, tyX1_ok, nmX1, rfl, tyX1_ok 5 (by decide), rfl⟩
theorem jP1_6 : jP 1 6 false .int := ⟨RX1, TX1, 11, tyX1, rfl, tyX1_ok, nmX1, rfl, tyX1_ok 6 (by decide), rfl⟩
theorem jP1_7 : jP 1 7 false .boolean := ⟨RX1, TX1, 11, tyX1, rfl, tyX1_ok, nmX1, rfl, tyX1_ok 7 (by decide), rfl⟩
theorem jP1_8 : jP 1 8 false .boolean := ⟨RX1, TX1, 11, tyX1, rfl, tyX1_ok, nmX1, rfl, tyX1_ok 8 (by decide), rfl⟩
theorem jP1_9 : jP 1 9 false .int := ⟨RX1, TX1, 11, tyX1, rfl, tyX1_ok, nmX1, rfl, tyX1_ok 9 (by decide), rfl⟩
theorem jP1_10 : jP 1 10 false .int := ⟨RX1, TX1, 11, tyX1, rfl, tyX1_ok, nmX1, rfl, tyX1_ok 10 (by decide), rfl⟩
theorem jP2_0 : jP 2 0 true (.array .int) := ⟨RX2, TX2, 13, tyX2, rfl, tyX2_ok, nmX2, rfl, tyX2_ok 0 (by decide), rfl⟩
theorem jP2_1 : jP 2 1 true (.array .int) := ⟨RX2, TX2, 13, tyX2, rfl, tyX2_ok, nmX2, rfl, tyX2_ok 1 (by decide), rfl⟩
theorem jP2_2 : jP 2 2 true (.array .int) := ⟨RX2, TX2, 13, tyX2, rfl, tyX2_ok, nmX2, rfl, tyX2_ok 2 (by decide), rfl⟩
theorem jP2_3 : jP 2 3 true (.array .int) := ⟨RX2, TX2, 13, tyX2, rfl, tyX2_ok, nmX2, rfl, tyX2_ok 3 (by decide), rfl⟩
theorem jP2_4 : jP 2 4 true (.array .int) := ⟨RX2, TX2, 13, tyX2, rfl, tyX2_ok, nmX2, rfl, tyX2_ok 4 (by decide), rfl⟩
theorem jP2_5 : jP 2 5 true (.array .int) := ⟨RX2, TX2, 13, tyX2, rfl, tyX2_ok, nmX2, rfl, tyX2_ok 5 (by decide), rfl⟩
theorem jP2_6 : jP 2 6 false .int := ⟨RX2, TX2, 13, tyX2, rfl, tyX2_ok, nmX2, rfl, tyX2_ok 6 (by decide), rfl⟩
theorem jP2_7 : jP 2 7 false .int := ⟨RX2, TX2, 13, tyX2, rfl, tyX2_ok, nmX2, rfl, tyX2_ok 7 (by decide), rfl⟩
theorem jP2_8 : jP 2 8 false .int := ⟨RX2, TX2, 13, tyX2, rfl, tyX2_ok, nmX2, rfl, tyX2_ok 8 (by decide), rfl⟩
theorem jP2_9 : jP 2 9 false .int := ⟨RX2, TX2, 13, tyX2, rfl, tyX2_ok, nmX2, rfl, tyX2_ok 9 (by decide), rfl⟩
theorem jP2_10 : jP 2 10 false .int := ⟨RX2, TX2, 13, tyX2, rfl, tyX2_ok, nmX2, rfl, tyX2_ok 10 (by decide), rfl⟩
theorem jP2_11 : jP 2 11 false .int := ⟨RX2, TX2, 13, tyX2, rfl, tyX2_ok, nmX2, rfl, tyX2_ok 11 (by decide), rfl⟩
theorem jP2_12 : jP 2 12 false .int := ⟨RX2, TX2, 13, tyX2, rfl, tyX2_ok, nmX2, rfl, tyX2_ok 12 (by decide), rfl⟩
theorem jP3_0 : jP 3 0 true (.array .int) := ⟨RX3, TX3, 3, tyX3, rfl, tyX3_ok, nmX3, rfl, tyX3_ok 0 (by decide), rfl⟩
theorem jP3_1 : jP 3 1 true (.array .int) := ⟨RX3, TX3, 3, tyX3, rfl, tyX3_ok, nmX3, rfl, tyX3_ok 1 (by decide), rfl⟩
theorem jP3_2 : jP 3 2 false .int := ⟨RX3, TX3, 3, tyX3, rfl, tyX3_ok, nmX3, rfl, tyX3_ok 2 (by decide), rfl⟩
theorem jP4_0 : jP 4 0 true (.array .int) := ⟨RX4, TX4, 3, tyX4, rfl, tyX4_ok, nmX4, rfl, tyX4_ok 0 (by decide), rfl⟩
theorem jP4_1 : jP 4 1 false .int := ⟨RX4, TX4, 3, tyX4, rfl, tyX4_ok, nmX4, rfl, tyX4_ok 1 (by decide), rfl⟩
theorem jP4_2 : jP 4 2 false .int := ⟨RX4, TX4, 3, tyX4, rfl, tyX4_ok, nmX4, rfl, tyX4_ok 2 (by decide), rfl⟩
theorem jP5_0 : jP 5 0 true (.array .byte) := ⟨RX5, TX5, 2, tyX5, rfl, tyX5_ok, nmX5, rfl, tyX5_ok 0 (by decide), rfl⟩
theorem jP5_1 : jP 5 1 false .int := ⟨RX5, TX5, 2, tyX5, rfl, tyX5_ok, nmX5, rfl, tyX5_ok 1 (by decide), rfl⟩
theorem jP6_0 : jP 6 0 true (.object "SwordSeat$Realm") := ⟨RX6, TX6, 9, tyX6, rfl, tyX6_ok, nmX6, rfl, tyX6_ok 0 (by decide), rfl⟩
theorem jP6_1 : jP 6 1 true (.object "SwordSeat$Realm") := ⟨RX6, TX6, 9, tyX6, rfl, tyX6_ok, nmX6, rfl, tyX6_ok 1 (by decide), rfl⟩
theorem jP6_2 : jP 6 2 true (.array (.object "SwordSeat$Realm")) := ⟨RX6, TX6, 9, tyX6, rfl, tyX6_ok, nmX6, rfl, tyX6_ok 2 (by decide), rfl⟩
theorem jP6_3 : jP 6 3 true (.array .boolean) := ⟨RX6, TX6, 9, tyX6, rfl, tyX6_ok, nmX6, rfl, tyX6_ok 3 (by decide), rfl⟩
theorem jP6_4 : jP 6 4 true (.object "SwordSeat$Reader") := ⟨RX6, TX6, 9, tyX6, rfl, tyX6_ok, nmX6, rfl, tyX6_ok 4 (by decide), rfl⟩
theorem jP6_5 : jP 6 5 true (.object "SwordSeat$Odds") := ⟨RX6, TX6, 9, tyX6, rfl, tyX6_ok, nmX6, rfl, tyX6_ok 5 (by decide), rfl⟩
theorem jP6_6 : jP 6 6 true (.object "SwordSeat$Seen") := ⟨RX6, TX6, 9, tyX6, rfl, tyX6_ok, nmX6, rfl, tyX6_ok 6 (by decide), rfl⟩
theorem jP6_7 : jP 6 7 true (.array (.object "SwordSeat$Sheet")) := ⟨RX6, TX6, 9, tyX6, rfl, tyX6_ok, nmX6, rfl, tyX6_ok 7 (by decide), rfl⟩
theorem jP6_8 : jP 6 8 false .int := ⟨RX6, TX6, 9, tyX6, rfl, tyX6_ok, nmX6, rfl, tyX6_ok 8 (by decide), rfl⟩
theorem jP7_0 : jP 7 0 true (.array .int) := ⟨RX7, TX7, 42, tyX7, rfl, tyX7_ok, nmX7, rfl, tyX7_ok 0 (by decide), rfl⟩
theorem jP7_1 : jP 7 1 false .int := ⟨RX7, TX7, 42, tyX7, rfl, tyX7_ok, nmX7, rfl, tyX7_ok 1 (by decide), rfl⟩
theorem jP7_2 : jP 7 2 false .int := ⟨RX7, TX7, 42, tyX7, rfl, tyX7_ok, nmX7, rfl, tyX7_ok 2 (by decide), rfl⟩
theorem jP7_3 : jP 7 3 true (.array .int) := ⟨RX7, TX7, 42, tyX7, rfl, tyX7_ok, nmX7, rfl, tyX7_ok 3 (by decide), rfl⟩
theorem jP7_4 : jP 7 4 false .int := ⟨RX7, TX7, 42, tyX7, rfl, tyX7_ok, nmX7, rfl, tyX7_ok 4 (by decide), rfl⟩
theorem jP7_5 : jP 7 5 true (.array .int) := ⟨RX7, TX7, 42, tyX7, rfl, tyX7_ok, nmX7, rfl, tyX7_ok 5 (by decide), rfl⟩
theorem jP7_6 : jP 7 6 true (.array .int) := ⟨RX7, TX7, 42, tyX7, rfl, tyX7_ok, nmX7, rfl, tyX7_ok 6 (by decide), rfl⟩
theorem jP7_7 : jP 7 7 false .int := ⟨RX7, TX7, 42, tyX7, rfl, tyX7_ok, nmX7, rfl, tyX7_ok 7 (by decide), rfl⟩
theorem jP7_8 : jP 7 8 false .int := ⟨RX7, TX7, 42, tyX7, rfl, tyX7_ok, nmX7, rfl, tyX7_ok 8 (by decide), rfl⟩
theorem jP7_9 : jP 7 9 false .int := ⟨RX7, TX7, 42, tyX7, rfl, tyX7_ok, nmX7, rfl, tyX7_ok 9 (by decide), rfl⟩
theorem jP7_10 : jP 7 10 false .int := ⟨RX7, TX7, 42, tyX7, rfl, tyX7_ok, nmX7, rfl, tyX7_ok 10 (by decide), rfl⟩
theorem jP7_11 : jP 7 11 false .int := ⟨RX7, TX7, 42, tyX7, rfl, tyX7_ok, nmX7, rfl, tyX7_ok 11 (by decide), rfl⟩
theorem jP7_12 : jP 7 12 true (.array .int) := ⟨RX7, TX7, 42, tyX7, rfl, tyX7_ok, nmX7, rfl, tyX7_ok 12 (by decide), rfl⟩
theorem jP7_13 : jP 7 13 false .int := ⟨RX7, TX7, 42, tyX7, rfl, tyX7_ok, nmX7, rfl, tyX7_ok 13 (by decide), rfl⟩
theorem jP7_14 : jP 7 14 false .int := ⟨RX7, TX7, 42, tyX7, rfl, tyX7_ok, nmX7, rfl, tyX7_ok 14 (by decide), rfl⟩
theorem jP7_15 : jP 7 15 false .int := ⟨RX7, TX7, 42, tyX7, rfl, tyX7_ok, nmX7, rfl, tyX7_ok 15 (by decide), rfl⟩
theorem jP7_16 : jP 7 16 false .int := ⟨RX7, TX7, 42, tyX7, rfl, tyX7_ok, nmX7, rfl, tyX7_ok 16 (by decide), rfl⟩
theorem jP7_17 : jP 7 17 false .int := ⟨RX7, TX7, 42, tyX7, rfl, tyX7_ok, nmX7, rfl, tyX7_ok 17 (by decide), rfl⟩
theorem jP7_18 : jP 7 18 false .int := ⟨RX7, TX7, 42, tyX7, rfl, tyX7_ok, nmX7, rfl, tyX7_ok 18 (by decide), rfl⟩
theorem jP7_19 : jP 7 19 false .int := ⟨RX7, TX7, 42, tyX7, rfl, tyX7_ok, nmX7, rfl, tyX7_ok 19 (by decide), rfl⟩
theorem jP7_20 : jP 7 20 false .int := ⟨RX7, TX7, 42, tyX7, rfl, tyX7_ok, nmX7, rfl, tyX7_ok 20 (by decide), rfl⟩
theorem jP7_21 : jP 7 21 true (.array .int) := ⟨RX7, TX7, 42, tyX7, rfl, tyX7_ok, nmX7, rfl, tyX7_ok 21 (by decide), rfl⟩
theorem jP7_22 : jP 7 22 true (.array .int) := ⟨RX7, TX7, 42, tyX7, rfl, tyX7_ok, nmX7, rfl, tyX7_ok 22 (by decide), rfl⟩
theorem jP7_23 : jP 7 23 true (.array .int) := ⟨RX7, TX7, 42, tyX7, rfl, tyX7_ok, nmX7, rfl, tyX7_ok 23 (by decide), rfl⟩
theorem jP7_24 : jP 7 24 true (.array .int) := ⟨RX7, TX7, 42, tyX7, rfl, tyX7_ok, nmX7, rfl, tyX7_ok 24 (by decide), rfl⟩
theorem jP7_25 : jP 7 25 false .int := ⟨RX7, TX7, 42, tyX7, rfl, tyX7_ok, nmX7, rfl, tyX7_ok 25 (by decide), rfl⟩
theorem jP7_26 : jP 7 26 false .int := ⟨RX7, TX7, 42, tyX7, rfl, tyX7_ok, nmX7, rfl, tyX7_ok 26 (by decide), rfl⟩
theorem jP7_27 : jP 7 27 false .int := ⟨RX7, TX7, 42, tyX7, rfl, tyX7_ok, nmX7, rfl, tyX7_ok 27 (by decide), rfl⟩
theorem jP7_28 : jP 7 28 true (.array .long) := ⟨RX7, TX7, 42, tyX7, rfl, tyX7_ok, nmX7, rfl, tyX7_ok 28 (by decide), rfl⟩
theorem jP7_29 : jP 7 29 true (.array .long) := ⟨RX7, TX7, 42, tyX7, rfl, tyX7_ok, nmX7, rfl, tyX7_ok 29 (by decide), rfl⟩
theorem jP7_30 : jP 7 30 true (.array .long) := ⟨RX7, TX7, 42, tyX7, rfl, tyX7_ok, nmX7, rfl, tyX7_ok 30 (by decide), rfl⟩
theorem jP7_31 : jP 7 31 true (.array .long) := ⟨RX7, TX7, 42, tyX7, rfl, tyX7_ok, nmX7, rfl, tyX7_ok 31 (by decide), rfl⟩
theorem jP7_32 : jP 7 32 false .boolean := ⟨RX7, TX7, 42, tyX7, rfl, tyX7_ok, nmX7, rfl, tyX7_ok 32 (by decide), rfl⟩
theorem jP7_33 : jP 7 33 true (.array .long) := ⟨RX7, TX7, 42, tyX7, rfl, tyX7_ok, nmX7, rfl, tyX7_ok 33 (by decide), rfl⟩
theorem jP7_34 : jP 7 34 true (.array .long) := ⟨RX7, TX7, 42, tyX7, rfl, tyX7_ok, nmX7, rfl, tyX7_ok 34 (by decide), rfl⟩
theorem jP7_35 : jP 7 35 true (.array .int) := ⟨RX7, TX7, 42, tyX7, rfl, tyX7_ok, nmX7, rfl, tyX7_ok 35 (by decide), rfl⟩
theorem jP7_36 : jP 7 36 false .int := ⟨RX7, TX7, 42, tyX7, rfl, tyX7_ok, nmX7, rfl, tyX7_ok 36 (by decide), rfl⟩
theorem jP7_37 : jP 7 37 true (.array .boolean) := ⟨RX7, TX7, 42, tyX7, rfl, tyX7_ok, nmX7, rfl, tyX7_ok 37 (by decide), rfl⟩
theorem jP7_38 : jP 7 38 true (.array .int) := ⟨RX7, TX7, 42, tyX7, rfl, tyX7_ok, nmX7, rfl, tyX7_ok 38 (by decide), rfl⟩
theorem jP7_39 : jP 7 39 true (.array .int) := ⟨RX7, TX7, 42, tyX7, rfl, tyX7_ok, nmX7, rfl, tyX7_ok 39 (by decide), rfl⟩
theorem jP7_40 : jP 7 40 true (.array .int) := ⟨RX7, TX7, 42, tyX7, rfl, tyX7_ok, nmX7, rfl, tyX7_ok 40 (by decide), rfl⟩
theorem jP7_41 : jP 7 41 false .int := ⟨RX7, TX7, 42, tyX7, rfl, tyX7_ok, nmX7, rfl, tyX7_ok 41 (by decide), rfl⟩
set_option maxRecDepth 100000 in
theorem jcX0_49 : jcV RX0 49 KX0_begin 0 1 := ⟨Or.inl (jt 540 rfl rfl), jt 542 rfl rfl, jsel 27 rfl rfl, by decide +kernel, rfl⟩
set_option maxRecDepth 100000 in
theorem jcX0_53 : jcS RX0 53 KX6_within 3 := ⟨Or.inr ⟨"SwordSeat", jn 639 rfl rfl⟩, jt 283 rfl rfl, by decide +kernel⟩
set_option maxRecDepth 100000 in
theorem jcX0_58 : jcV RX0 58 KX0_passHour 0 1 := ⟨Or.inl (jt 548 rfl rfl), jt 550 rfl rfl, jsel 29 rfl rfl, by decide +kernel, rfl⟩
set_option maxRecDepth 100000 in
theorem jcX0_61 : jcV RX0 61 KX0_weigh 0 2 := ⟨Or.inl (jt 552 rfl rfl), jt 554 rfl rfl, jsel 30 rfl rfl, by decide +kernel, rfl⟩
set_option maxRecDepth 100000 in
theorem jcX0_65 : jcV RX0 65 KX0_weight 0 2 := ⟨Or.inl (jt 559 rfl rfl), jt 561 rfl rfl, jsel 31 rfl rfl, by decide +kernel, rfl⟩
set_option maxRecDepth 100000 in
theorem jcX0_69 : jcS RX0 69 KJ6_bitCount_0f7a4 1 := ⟨Or.inl (jt 556 rfl rfl), jt 462 rfl rfl, by decide +kernel⟩
set_option maxRecDepth 100000 in
theorem jcX0_81 : jcS RX0 81 KX6_breaksOf 4 := ⟨Or.inr ⟨"SwordSeat", jn 558 rfl rfl⟩, jt 468 rfl rfl, by decide +kernel⟩
set_option maxRecDepth 100000 in
theorem jcX0_87 : jcV RX0 87 KX0_held 0 0 := ⟨Or.inl (jt 626 rfl rfl), jt 566 rfl rfl, jsel 32 rfl rfl, by decide +kernel, rfl⟩
set_option maxRecDepth 100000 in
theorem jcX0_91 : jcS RX0 91 KX6_thousands 1 := ⟨Or.inr ⟨"SwordSeat", jn 600 rfl rfl⟩, jt 529 rfl rfl, by decide +kernel⟩
set_option maxRecDepth 100000 in
theorem jcX0_95 : jcS RX0 95 KX0_clearGains 1 := ⟨Or.inl (jt 597 rfl rfl), jt 598 rfl rfl, by decide +kernel⟩
set_option maxRecDepth 100000 in
theorem jcX0_108 : jcV RX0 108 KX0_duelHour 0 6 := ⟨Or.inl (jt 648 rfl rfl), jt 650 rfl rfl, jsel 40 rfl rfl, by decide +kernel, rfl⟩
set_option maxRecDepth 100000 in
theorem jcX1_29 : jcV RX1 29 KX2_clear 2 0 := ⟨Or.inr ⟨"SwordSeat", jn 301 rfl rfl⟩, jt 31 rfl rfl, jsel 0 rfl rfl, by decide +kernel, rfl⟩
set_option maxRecDepth 100000 in
theorem jcX1_45 : jcV RX1 45 KX1_nextToken 1 0 := ⟨Or.inl (jt 302 rfl rfl), jt 304 rfl rfl, jsel 3 rfl rfl, by decide +kernel, rfl⟩
set_option maxRecDepth 100000 in
theorem jcX1_52 : jcV RX1 52 KX1_readLine 1 0 := ⟨Or.inl (jt 317 rfl rfl), jt 319 rfl rfl, jsel 6 rfl rfl, by decide +kernel, rfl⟩
set_option maxRecDepth 100000 in
theorem jcX1_61 : jcV RX1 61 KX1_fail 1 2 := ⟨Or.inl (jt 313 rfl rfl), jt 315 rfl rfl, jsel 5 rfl rfl, by decide +kernel, rfl⟩
set_option maxRecDepth 100000 in
theorem jcX1_73 : jcV RX1 73 KX1_spells 1 1 := ⟨Or.inl (jt 322 rfl rfl), jt 324 rfl rfl, jsel 7 rfl rfl, by decide +kernel, rfl⟩
set_option maxRecDepth 100000 in
theorem jcX1_77 : jcV RX1 77 KX1_readHair 1 0 := ⟨Or.inl (jt 374 rfl rfl), jt 376 rfl rfl, jsel 8 rfl rfl, by decide +kernel, rfl⟩
set_option maxRecDepth 100000 in
theorem jcX1_80 : jcV RX1 80 KX1_readStop 1 0 := ⟨Or.inl (jt 396 rfl rfl), jt 398 rfl rfl, jsel 12 rfl rfl, by decide +kernel, rfl⟩
set_option maxRecDepth 100000 in
theorem jcX1_85 : jcV RX1 85 KX1_readKing 1 0 := ⟨Or.inl (jt 401 rfl rfl), jt 403 rfl rfl, jsel 13 rfl rfl, by decide +kernel, rfl⟩
set_option maxRecDepth 100000 in
theorem jcX1_90 : jcV RX1 90 KX1_readLaw 1 0 := ⟨Or.inl (jt 410 rfl rfl), jt 412 rfl rfl, jsel 15 rfl rfl, by decide +kernel, rfl⟩
set_option maxRecDepth 100000 in
theorem jcX1_95 : jcV RX1 95 KX1_readLoad 1 0 := ⟨Or.inl (jt 419 rfl rfl), jt 421 rfl rfl, jsel 17 rfl rfl, by decide +kernel, rfl⟩
set_option maxRecDepth 100000 in
theorem jcX1_100 : jcV RX1 100 KX1_readPrize 1 0 := ⟨Or.inl (jt 424 rfl rfl), jt 426 rfl rfl, jsel 18 rfl rfl, by decide +kernel, rfl⟩
set_option maxRecDepth 100000 in
theorem jcX1_104 : jcV RX1 104 KX1_readBroken 1 0 := ⟨Or.inl (jt 429 rfl rfl), jt 431 rfl rfl, jsel 19 rfl rfl, by decide +kernel, rfl⟩
set_option maxRecDepth 100000 in
theorem jcX1_110 : jcV RX1 110 KX1_spelledKind 1 0 := ⟨Or.inl (jt 378 rfl rfl), jt 380 rfl rfl, jsel 9 rfl rfl, by decide +kernel, rfl⟩
set_option maxRecDepth 100000 in
theorem jcX1_114 : jcV RX1 114 KX1_readNumber 1 2 := ⟨Or.inl (jt 387 rfl rfl), jt 389 rfl rfl, jsel 10 rfl rfl, by decide +kernel, rfl⟩
set_option maxRecDepth 100000 in
theorem jcX1_120 : jcV RX1 120 KX2_addHair 2 2 := ⟨Or.inr ⟨"SwordSeat", jn 392 rfl rfl⟩, jt 394 rfl rfl, jsel 11 rfl rfl, by decide +kernel, rfl⟩
set_option maxRecDepth 100000 in
theorem jcX1_126 : jcV RX1 126 KX2_addKing 2 2 := ⟨Or.inr ⟨"SwordSeat", jn 405 rfl rfl⟩, jt 407 rfl rfl, jsel 14 rfl rfl, by decide +kernel, rfl⟩
set_option maxRecDepth 100000 in
theorem jcX1_132 : jcV RX1 132 KX2_addLaw 2 2 := ⟨Or.inr ⟨"SwordSeat", jn 414 rfl rfl⟩, jt 416 rfl rfl, jsel 16 rfl rfl, by decide +kernel, rfl⟩
set_option maxRecDepth 100000 in
theorem jcX1_139 : jcV RX1 139 KX5_byteAt 5 1 := ⟨Or.inr ⟨"SwordSeat", jn 306 rfl rfl⟩, jt 308 rfl rfl, jsel 4 rfl rfl, by decide +kernel, rfl⟩
set_option maxRecDepth 100000 in
theorem jcX1_143 : jcS RX1 143 KX6_within 3 := ⟨Or.inr ⟨"SwordSeat", jn 391 rfl rfl⟩, jt 283 rfl rfl, by decide +kernel⟩
set_option maxRecDepth 100000 in
theorem jcX1_165 : jcS RX1 165 KX1_sortOf 1 := ⟨Or.inl (jt 310 rfl rfl), jt 311 rfl rfl, by decide +kernel⟩
set_option maxRecDepth 100000 in
theorem jcX2_30 : jcV RX2 30 KX2_clear 2 0 := ⟨Or.inl (jt 29 rfl rfl), jt 31 rfl rfl, jsel 0 rfl rfl, by decide +kernel, rfl⟩
set_option maxRecDepth 100000 in
theorem jcX2_55 : jcS RX2 55 KX2_copyRow 2 := ⟨Or.inl (jt 437 rfl rfl), jt 438 rfl rfl, by decide +kernel⟩
set_option maxRecDepth 100000 in
theorem jcX2_59 : jcV RX2 59 KX2_wholeBit 2 1 := ⟨Or.inl (jt 460 rfl rfl), jt 454 rfl rfl, jsel 21 rfl rfl, by decide +kernel, rfl⟩
set_option maxRecDepth 100000 in
theorem jcX2_63 : jcS RX2 63 KJ6_bitCount_0f7a4 1 := ⟨Or.inl (jt 461 rfl rfl), jt 462 rfl rfl, by decide +kernel⟩
set_option maxRecDepth 100000 in
theorem jcX2_68 : jcS RX2 68 KX6_breaksOf 4 := ⟨Or.inr ⟨"SwordSeat", jn 467 rfl rfl⟩, jt 468 rfl rfl, by decide +kernel⟩
set_option maxRecDepth 100000 in
theorem jcX2_72 : jcV RX2 72 KX2_passHour 2 1 := ⟨Or.inl (jt 515 rfl rfl), jt 517 rfl rfl, jsel 24 rfl rfl, by decide +kernel, rfl⟩
set_option maxRecDepth 100000 in
theorem jcX4_28 : jcS RX4 28 KX6_within 3 := ⟨Or.inr ⟨"SwordSeat", jn 745 rfl rfl⟩, jt 283 rfl rfl, by decide +kernel⟩
set_option maxRecDepth 100000 in
theorem jcX4_32 : jcV RX4 32 KX4_faultAt 4 1 := ⟨Or.inl (jt 758 rfl rfl), jt 743 rfl rfl, jsel 49 rfl rfl, by decide +kernel, rfl⟩
set_option maxRecDepth 100000 in
theorem jcX6_59 : jcS RX6 59 KX6_within 3 := ⟨Or.inl (jt 282 rfl rfl), jt 283 rfl rfl, by decide +kernel⟩
set_option maxRecDepth 100000 in
theorem jcX6_67 : jcV RX6 67 KX5_append 5 1 := ⟨Or.inr ⟨"SwordSeat", jn 285 rfl rfl⟩, jt 287 rfl rfl, jsel 1 rfl rfl, by decide +kernel, rfl⟩
set_option maxRecDepth 100000 in
theorem jcX6_76 : jcV RX6 76 KX1_readAll 1 0 := ⟨Or.inr ⟨"SwordSeat", jn 297 rfl rfl⟩, jt 299 rfl rfl, jsel 2 rfl rfl, by decide +kernel, rfl⟩
set_option maxRecDepth 100000 in
theorem jcX6_86 : jcV RX6 86 KX2_copy 2 1 := ⟨Or.inr ⟨"SwordSeat", jn 433 rfl rfl⟩, jt 435 rfl rfl, jsel 20 rfl rfl, by decide +kernel, rfl⟩
set_option maxRecDepth 100000 in
theorem jcX6_121 : jcV RX6 121 KX2_wholeBit 2 1 := ⟨Or.inr ⟨"SwordSeat", jn 452 rfl rfl⟩, jt 454 rfl rfl, jsel 21 rfl rfl, by decide +kernel, rfl⟩
set_option maxRecDepth 100000 in
theorem jcX6_125 : jcV RX6 125 KX2_breaks 2 1 := ⟨Or.inr ⟨"SwordSeat", jn 456 rfl rfl⟩, jt 458 rfl rfl, jsel 22 rfl rfl, by decide +kernel, rfl⟩
set_option maxRecDepth 100000 in
theorem jcX6_140 : jcV RX6 140 KX2_tryHour 2 1 := ⟨Or.inr ⟨"SwordSeat", jn 511 rfl rfl⟩, jt 513 rfl rfl, jsel 23 rfl rfl, by decide +kernel, rfl⟩
set_option maxRecDepth 100000 in
theorem jcX6_143 : jcS RX6 143 KX6_foreseen 1 := ⟨Or.inl (jt 524 rfl rfl), jt 525 rfl rfl, by decide +kernel⟩
set_option maxRecDepth 100000 in
theorem jcX6_148 : jcS RX6 148 KX6_thousands 1 := ⟨Or.inl (jt 528 rfl rfl), jt 529 rfl rfl, by decide +kernel⟩
set_option maxRecDepth 100000 in
theorem jcX6_152 : jcV RX6 152 KX6_heldFromNow 6 1 := ⟨Or.inl (jt 532 rfl rfl), jt 534 rfl rfl, jsel 25 rfl rfl, by decide +kernel, rfl⟩
set_option maxRecDepth 100000 in
theorem jcX6_155 : jcS RX6 155 KX6_part 3 := ⟨Or.inl (jt 568 rfl rfl), jt 569 rfl rfl, by decide +kernel⟩
set_option maxRecDepth 100000 in
theorem jcX6_159 : jcV RX6 159 KX0_take 0 1 := ⟨Or.inr ⟨"SwordSeat", jn 536 rfl rfl⟩, jt 538 rfl rfl, jsel 26 rfl rfl, by decide +kernel, rfl⟩
set_option maxRecDepth 100000 in
theorem jcX6_162 : jcV RX6 162 KX0_passHours 0 1 := ⟨Or.inr ⟨"SwordSeat", jn 544 rfl rfl⟩, jt 546 rfl rfl, jsel 28 rfl rfl, by decide +kernel, rfl⟩
set_option maxRecDepth 100000 in
theorem jcX6_166 : jcV RX6 166 KX0_justWhole 0 1 := ⟨Or.inr ⟨"SwordSeat", jn 581 rfl rfl⟩, jt 583 rfl rfl, jsel 33 rfl rfl, by decide +kernel, rfl⟩
set_option maxRecDepth 100000 in
theorem jcX6_169 : jcV RX6 169 KX0_sitting 0 4 := ⟨Or.inr ⟨"SwordSeat", jn 593 rfl rfl⟩, jt 595 rfl rfl, jsel 34 rfl rfl, by decide +kernel, rfl⟩
set_option maxRecDepth 100000 in
theorem jcX6_173 : jcV RX6 173 KX6_seeingGain 6 2 := ⟨Or.inl (jt 605 rfl rfl), jt 607 rfl rfl, jsel 35 rfl rfl, by decide +kernel, rfl⟩
set_option maxRecDepth 100000 in
theorem jcX6_178 : jcV RX6 178 KX0_passHour 0 1 := ⟨Or.inr ⟨"SwordSeat", jn 613 rfl rfl⟩, jt 550 rfl rfl, jsel 29 rfl rfl, by decide +kernel, rfl⟩
set_option maxRecDepth 100000 in
theorem jcX6_181 : jcV RX6 181 KX0_held 0 0 := ⟨Or.inr ⟨"SwordSeat", jn 564 rfl rfl⟩, jt 566 rfl rfl, jsel 32 rfl rfl, by decide +kernel, rfl⟩
set_option maxRecDepth 100000 in
theorem jcX6_185 : jcV RX6 185 KX0_takeNew 0 3 := ⟨Or.inr ⟨"SwordSeat", jn 618 rfl rfl⟩, jt 620 rfl rfl, jsel 36 rfl rfl, by decide +kernel, rfl⟩
set_option maxRecDepth 100000 in
theorem jcX6_189 : jcV RX6 189 KX0_holdsBy 0 2 := ⟨Or.inr ⟨"SwordSeat", jn 622 rfl rfl⟩, jt 624 rfl rfl, jsel 37 rfl rfl, by decide +kernel, rfl⟩
set_option maxRecDepth 100000 in
theorem jcX6_193 : jcV RX6 193 KX0_renew 0 1 := ⟨Or.inr ⟨"SwordSeat", jn 635 rfl rfl⟩, jt 637 rfl rfl, jsel 38 rfl rfl, by decide +kernel, rfl⟩
set_option maxRecDepth 100000 in
theorem jcX6_196 : jcV RX6 196 KX0_contest 0 4 := ⟨Or.inr ⟨"SwordSeat", jn 644 rfl rfl⟩, jt 646 rfl rfl, jsel 39 rfl rfl, by decide +kernel, rfl⟩
set_option maxRecDepth 100000 in
theorem jcX6_209 : jcV RX6 209 KX0_foresee 0 0 := ⟨Or.inr ⟨"SwordSeat", jn 665 rfl rfl⟩, jt 667 rfl rfl, jsel 41 rfl rfl, by decide +kernel, rfl⟩
set_option maxRecDepth 100000 in
theorem jcX6_212 : jcV RX6 212 KX6_worthOfLaws 6 1 := ⟨Or.inl (jt 669 rfl rfl), jt 671 rfl rfl, jsel 42 rfl rfl, by decide +kernel, rfl⟩
set_option maxRecDepth 100000 in
theorem jcX6_215 : jcV RX6 215 KX3_append 3 2 := ⟨Or.inr ⟨"SwordSeat", jn 681 rfl rfl⟩, jt 683 rfl rfl, jsel 43 rfl rfl, by decide +kernel, rfl⟩
set_option maxRecDepth 100000 in
theorem jcX6_217 : jcV RX6 217 KX6_likelihood 6 2 := ⟨Or.inl (jt 693 rfl rfl), jt 695 rfl rfl, jsel 44 rfl rfl, by decide +kernel, rfl⟩
set_option maxRecDepth 100000 in
theorem jcX6_220 : jcV RX6 220 KX3_lastHour 3 0 := ⟨Or.inr ⟨"SwordSeat", jn 697 rfl rfl⟩, jt 699 rfl rfl, jsel 45 rfl rfl, by decide +kernel, rfl⟩
set_option maxRecDepth 100000 in
theorem jcX6_224 : jcV RX6 224 KX2_passHour 2 1 := ⟨Or.inr ⟨"SwordSeat", jn 719 rfl rfl⟩, jt 517 rfl rfl, jsel 24 rfl rfl, by decide +kernel, rfl⟩
set_option maxRecDepth 100000 in
theorem jcX6_225 : jcV RX6 225 KX4_renew 4 2 := ⟨Or.inr ⟨"SwordSeat", jn 732 rfl rfl⟩, jt 734 rfl rfl, jsel 48 rfl rfl, by decide +kernel, rfl⟩
set_option maxRecDepth 100000 in
theorem jcX6_228 : jcV RX6 228 KX4_faultAt 4 1 := ⟨Or.inr ⟨"SwordSeat", jn 741 rfl rfl⟩, jt 743 rfl rfl, jsel 49 rfl rfl, by decide +kernel, rfl⟩
set_option maxRecDepth 100000 in
theorem jcX6_231 : jcV RX6 231 KX4_write 4 2 := ⟨Or.inr ⟨"SwordSeat", jn 746 rfl rfl⟩, jt 748 rfl rfl, jsel 50 rfl rfl, by decide +kernel, rfl⟩
set_option maxRecDepth 100000 in
theorem jcX6_234 : jcV RX6 234 KX4_faultAs 4 2 := ⟨Or.inr ⟨"SwordSeat", jn 754 rfl rfl⟩, jt 756 rfl rfl, jsel 51 rfl rfl, by decide +kernel, rfl⟩
set_option maxRecDepth 100000 in
theorem jcX6_245 : jcS RX6 245 KJ6_bitCount_0f7a4 1 := ⟨Or.inl (jt 767 rfl rfl), jt 462 rfl rfl, by decide +kernel⟩
set_option maxRecDepth 100000 in
theorem jcX6_250 : jcV RX6 250 KX2_allAges 2 0 := ⟨Or.inr ⟨"SwordSeat", jn 768 rfl rfl⟩, jt 770 rfl rfl, jsel 52 rfl rfl, by decide +kernel, rfl⟩
set_option maxRecDepth 100000 in
theorem jcX6_261 : jcS RX6 261 KX6_common 2 := ⟨Or.inl (jt 574 rfl rfl), jt 575 rfl rfl, by decide +kernel⟩
set_option maxRecDepth 100000 in
theorem jcX6_265 : jcS RX6 265 KX6_baseOf 2 := ⟨Or.inl (jt 470 rfl rfl), jt 471 rfl rfl, by decide +kernel⟩
set_option maxRecDepth 100000 in
theorem jcX6_283 : jcV RX6 283 KX0_keepOnly 0 1 := ⟨Or.inr ⟨"SwordSeat", jn 702 rfl rfl⟩, jt 704 rfl rfl, jsel 46 rfl rfl, by decide +kernel, rfl⟩
set_option maxRecDepth 100000 in
theorem jcX6_286 : jcV RX6 286 KX0_all 0 0 := ⟨Or.inr ⟨"SwordSeat", jn 706 rfl rfl⟩, jt 708 rfl rfl, jsel 47 rfl rfl, by decide +kernel, rfl⟩
set_option maxRecDepth 100000 in
theorem jcX7_74 : jcS RX7 74 KX7_in 3 := ⟨Or.inl (jt 910 rfl rfl), jt 911 rfl rfl, by decide +kernel⟩
set_option maxRecDepth 100000 in
theorem jcX7_97 : jcV RX7 97 KX7_byteAt 7 1 := ⟨Or.inl (jt 925 rfl rfl), jt 927 rfl rfl, jsel 54 rfl rfl, by decide +kernel, rfl⟩
set_option maxRecDepth 100000 in
theorem jcX7_112 : jcV RX7 112 KX7_fails 7 1 := ⟨Or.inl (jt 933 rfl rfl), jt 935 rfl rfl, jsel 55 rfl rfl, by decide +kernel, rfl⟩
set_option maxRecDepth 100000 in
theorem jcX7_116 : jcV RX7 116 KX7_step 7 0 := ⟨Or.inl (jt 921 rfl rfl), jt 923 rfl rfl, jsel 53 rfl rfl, by decide +kernel, rfl⟩
set_option maxRecDepth 100000 in
theorem jcX7_119 : jcV RX7 119 KX7_nameHere 7 0 := ⟨Or.inl (jt 941 rfl rfl), jt 943 rfl rfl, jsel 57 rfl rfl, by decide +kernel, rfl⟩
set_option maxRecDepth 100000 in
theorem jcX7_126 : jcV RX7 126 KX7_number 7 2 := ⟨Or.inl (jt 952 rfl rfl), jt 954 rfl rfl, jsel 59 rfl rfl, by decide +kernel, rfl⟩
set_option maxRecDepth 100000 in
theorem jcX7_150 : jcV RX7 150 KX7_readMore 7 1 := ⟨Or.inl (jt 948 rfl rfl), jt 950 rfl rfl, jsel 58 rfl rfl, by decide +kernel, rfl⟩
set_option maxRecDepth 100000 in
theorem jcX7_153 : jcV RX7 153 KX7_readLine 7 0 := ⟨Or.inl (jt 937 rfl rfl), jt 939 rfl rfl, jsel 56 rfl rfl, by decide +kernel, rfl⟩
set_option maxRecDepth 100000 in
theorem jcX7_171 : jcV RX7 171 KX7_load 7 0 := ⟨Or.inl (jt 965 rfl rfl), jt 967 rfl rfl, jsel 60 rfl rfl, by decide +kernel, rfl⟩
set_option maxRecDepth 100000 in
theorem jcX7_174 : jcV RX7 174 KX7_prize 7 0 := ⟨Or.inl (jt 969 rfl rfl), jt 971 rfl rfl, jsel 61 rfl rfl, by decide +kernel, rfl⟩
set_option maxRecDepth 100000 in
theorem jcX7_177 : jcV RX7 177 KX7_wholeNow 7 0 := ⟨Or.inl (jt 973 rfl rfl), jt 975 rfl rfl, jsel 62 rfl rfl, by decide +kernel, rfl⟩
set_option maxRecDepth 100000 in
theorem jcX7_189 : jcS RX7 189 KX7_bitsOf 1 := ⟨Or.inl (jt 993 rfl rfl), jt 994 rfl rfl, by decide +kernel⟩
set_option maxRecDepth 100000 in
theorem jcX7_192 : jcV RX7 192 KX7_isHair 7 1 := ⟨Or.inl (jt 981 rfl rfl), jt 983 rfl rfl, jsel 63 rfl rfl, by decide +kernel, rfl⟩
set_option maxRecDepth 100000 in
theorem jcX7_196 : jcV RX7 196 KX7_lays 7 0 := ⟨Or.inl (jt 985 rfl rfl), jt 987 rfl rfl, jsel 64 rfl rfl, by decide +kernel, rfl⟩
set_option maxRecDepth 100000 in
theorem jcX7_199 : jcV RX7 199 KX7_breaksOf 7 3 := ⟨Or.inl (jt 989 rfl rfl), jt 991 rfl rfl, jsel 65 rfl rfl, by decide +kernel, rfl⟩
set_option maxRecDepth 100000 in
theorem jcX7_203 : jcV RX7 203 KX7_isKing 7 1 := ⟨Or.inl (jt 1000 rfl rfl), jt 1002 rfl rfl, jsel 66 rfl rfl, by decide +kernel, rfl⟩
set_option maxRecDepth 100000 in
theorem jcX7_208 : jcV RX7 208 KX7_puts 7 4 := ⟨Or.inl (jt 1013 rfl rfl), jt 1015 rfl rfl, jsel 67 rfl rfl, by decide +kernel, rfl⟩
set_option maxRecDepth 100000 in
theorem jcX7_214 : jcV RX7 214 KX7_hours 7 1 := ⟨Or.inl (jt 1038 rfl rfl), jt 1040 rfl rfl, jsel 68 rfl rfl, by decide +kernel, rfl⟩
set_option maxRecDepth 100000 in
theorem jcX7_219 : jcV RX7 219 KX7_wayOf 7 3 := ⟨Or.inl (jt 1070 rfl rfl), jt 1072 rfl rfl, jsel 73 rfl rfl, by decide +kernel, rfl⟩
set_option maxRecDepth 100000 in
theorem jcX7_223 : jcV RX7 223 KX7_begins 7 0 := ⟨Or.inl (jt 1062 rfl rfl), jt 1064 rfl rfl, jsel 71 rfl rfl, by decide +kernel, rfl⟩
set_option maxRecDepth 100000 in
theorem jcX7_226 : jcV RX7 226 KX7_hourOn 7 1 := ⟨Or.inl (jt 1066 rfl rfl), jt 1068 rfl rfl, jsel 72 rfl rfl, by decide +kernel, rfl⟩
set_option maxRecDepth 100000 in
theorem jcX7_229 : jcV RX7 229 KX7_hoursOn 7 1 := ⟨Or.inl (jt 1058 rfl rfl), jt 1060 rfl rfl, jsel 70 rfl rfl, by decide +kernel, rfl⟩
set_option maxRecDepth 100000 in
theorem jcX7_232 : jcS RX7 232 KX7_tens 1 := ⟨Or.inl (jt 1050 rfl rfl), jt 1051 rfl rfl, by decide +kernel⟩
set_option maxRecDepth 100000 in
theorem jcX7_236 : jcS RX7 236 KX7_isLong 1 := ⟨Or.inl (jt 1046 rfl rfl), jt 1047 rfl rfl, by decide +kernel⟩
set_option maxRecDepth 100000 in
theorem jcX7_241 : jcV RX7 241 KX7_holds 7 1 := ⟨Or.inl (jt 1054 rfl rfl), jt 1056 rfl rfl, jsel 69 rfl rfl, by decide +kernel, rfl⟩
set_option maxRecDepth 100000 in
theorem jcX7_244 : jcS RX7 244 KX7_lowest 3 := ⟨Or.inl (jt 1074 rfl rfl), jt 1075 rfl rfl, by decide +kernel⟩
set_option maxRecDepth 100000 in
theorem jcX7_252 : jcV RX7 252 KX7_bestOf 7 2 := ⟨Or.inl (jt 1093 rfl rfl), jt 1095 rfl rfl, jsel 74 rfl rfl, by decide +kernel, rfl⟩
set_option maxRecDepth 100000 in
theorem jcX7_256 : jcV RX7 256 KX7_laysNew 7 2 := ⟨Or.inl (jt 1105 rfl rfl), jt 1107 rfl rfl, jsel 75 rfl rfl, by decide +kernel, rfl⟩
set_option maxRecDepth 100000 in
theorem jcX7_260 : jcV RX7 260 KX7_holdsBy 7 2 := ⟨Or.inl (jt 1109 rfl rfl), jt 1111 rfl rfl, jsel 76 rfl rfl, by decide +kernel, rfl⟩
set_option maxRecDepth 100000 in
theorem jcX7_264 : jcV RX7 264 KX7_duels 7 3 := ⟨Or.inl (jt 1125 rfl rfl), jt 1127 rfl rfl, jsel 77 rfl rfl, by decide +kernel, rfl⟩
set_option maxRecDepth 100000 in
theorem jcX7_270 : jcV RX7 270 KX7_readOf 7 1 := ⟨Or.inl (jt 1138 rfl rfl), jt 1140 rfl rfl, jsel 78 rfl rfl, by decide +kernel, rfl⟩
set_option maxRecDepth 100000 in
theorem jcX7_273 : jcV RX7 273 KX7_sifts 7 1 := ⟨Or.inl (jt 1162 rfl rfl), jt 1164 rfl rfl, jsel 80 rfl rfl, by decide +kernel, rfl⟩
set_option maxRecDepth 100000 in
theorem jcX7_276 : jcV RX7 276 KX7_likeliness 7 2 := ⟨Or.inl (jt 1158 rfl rfl), jt 1160 rfl rfl, jsel 79 rfl rfl, by decide +kernel, rfl⟩
set_option maxRecDepth 100000 in
theorem jcX7_282 : jcV RX7 282 KX7_copies 7 2 := ⟨Or.inl (jt 1180 rfl rfl), jt 1182 rfl rfl, jsel 81 rfl rfl, by decide +kernel, rfl⟩
set_option maxRecDepth 100000 in
theorem jcJ0_495 : jcS RJ0 495 KJ1_charAt_3b067 2 := ⟨Or.inl (jt 344 rfl rfl), jt 345 rfl rfl, by decide +kernel⟩
set_option maxRecDepth 100000 in
theorem jcJ0_498 : jcS RJ0 498 KJ2_charAt_3b067 2 := ⟨Or.inl (jt 355 rfl rfl), jt 356 rfl rfl, by decide +kernel⟩
set_option maxRecDepth 100000 in
theorem jcJ0_1059 : jcS RJ0 1059 KJ3_checkIndex_8e157 3 := ⟨Or.inl (jt 352 rfl rfl), jt 353 rfl rfl, by decide +kernel⟩
set_option maxRecDepth 100000 in
theorem jcJ1_9 : jcS RJ1 9 KJ0_checkIndex_df160 2 := ⟨Or.inl (jt 347 rfl rfl), jt 348 rfl rfl, by decide +kernel⟩
set_option maxRecDepth 100000 in
theorem jcJ2_48 : jcS RJ2 48 KJ2_length_9d52b 1 := ⟨Or.inl (jt 361 rfl rfl), jt 362 rfl rfl, by decide +kernel⟩
set_option maxRecDepth 100000 in
theorem jcJ2_67 : jcS RJ2 67 KJ2_checkIndex_2214a 2 := ⟨Or.inl (jt 358 rfl rfl), jt 359 rfl rfl, by decide +kernel⟩
set_option maxRecDepth 100000 in
theorem jcJ2_71 : jcS RJ2 71 KJ2_getChar_3b067 2 := ⟨Or.inl (jt 365 rfl rfl), jt 366 rfl rfl, by decide +kernel⟩
set_option maxRecDepth 100000 in
theorem jcJ2_414 : jcS RJ2 414 KJ0_checkIndex_df160 2 := ⟨Or.inl (jt 364 rfl rfl), jt 348 rfl rfl, by decide +kernel⟩
set_option maxRecDepth 100000 in
theorem jcL_13 : jcV RL 13 KX6_feed 6 1 := ⟨Or.inl (jt 278 rfl rfl), jt 279 rfl rfl, jt 280 rfl rfl, by decide +kernel, rfl⟩
set_option maxRecDepth 100000 in
theorem jcL_17 : jcV RL 17 KX7_feed 7 1 := ⟨Or.inl (jt 905 rfl rfl), jt 906 rfl rfl, jt 907 rfl rfl, by decide +kernel, rfl⟩
set_option maxRecDepth 100000 in
theorem jcL_18 : jcV RL 18 KX6_end 6 1 := ⟨Or.inl (jt 289 rfl rfl), jt 290 rfl rfl, jt 291 rfl rfl, by decide +kernel, rfl⟩
set_option maxRecDepth 100000 in
theorem jcL_21 : jcV RL 21 KX7_end 7 1 := ⟨Or.inl (jt 913 rfl rfl), jt 914 rfl rfl, jt 915 rfl rfl, by decide +kernel, rfl⟩
set_option maxRecDepth 100000 in
theorem jcL_22 : jcV RL 22 KX6_text 6 0 := ⟨Or.inl (jt 293 rfl rfl), jt 294 rfl rfl, jt 295 rfl rfl, by decide +kernel, rfl⟩
set_option maxRecDepth 100000 in
theorem jcL_26 : jcV RL 26 KX7_text 7 0 := ⟨Or.inl (jt 917 rfl rfl), jt 918 rfl rfl, jt 919 rfl rfl, by decide +kernel, rfl⟩
set_option maxRecDepth 100000 in
theorem jcL_27 : jcV RL 27 KX6_fault 6 0 := ⟨Or.inl (jt 440 rfl rfl), jt 441 rfl rfl, jt 442 rfl rfl, by decide +kernel, rfl⟩
set_option maxRecDepth 100000 in
theorem jcL_30 : jcV RL 30 KX7_fault 7 0 := ⟨Or.inl (jt 957 rfl rfl), jt 958 rfl rfl, jt 959 rfl rfl, by decide +kernel, rfl⟩
set_option maxRecDepth 100000 in
theorem jcL_31 : jcV RL 31 KX6_rule 6 1 := ⟨Or.inl (jt 444 rfl rfl), jt 445 rfl rfl, jt 446 rfl rfl, by decide +kernel, rfl⟩
set_option maxRecDepth 100000 in
theorem jcL_34 : jcV RL 34 KX7_rule 7 1 := ⟨Or.inl (jt 961 rfl rfl), jt 962 rfl rfl, jt 963 rfl rfl, by decide +kernel, rfl⟩
set_option maxRecDepth 100000 in
theorem jcL_35 : jcV RL 35 KX6_hair 6 2 := ⟨Or.inl (jt 448 rfl rfl), jt 449 rfl rfl, jt 450 rfl rfl, by decide +kernel, rfl⟩
set_option maxRecDepth 100000 in
theorem jcL_39 : jcV RL 39 KX7_hair 7 2 := ⟨Or.inl (jt 977 rfl rfl), jt 978 rfl rfl, jt 979 rfl rfl, by decide +kernel, rfl⟩
set_option maxRecDepth 100000 in
theorem jcL_40 : jcV RL 40 KX6_king 6 2 := ⟨Or.inl (jt 479 rfl rfl), jt 480 rfl rfl, jt 481 rfl rfl, by decide +kernel, rfl⟩
set_option maxRecDepth 100000 in
theorem jcL_43 : jcV RL 43 KX7_king 7 2 := ⟨Or.inl (jt 996 rfl rfl), jt 997 rfl rfl, jt 998 rfl rfl, by decide +kernel, rfl⟩
set_option maxRecDepth 100000 in
theorem jcL_44 : jcV RL 44 KX6_law 6 2 := ⟨Or.inl (jt 483 rfl rfl), jt 484 rfl rfl, jt 485 rfl rfl, by decide +kernel, rfl⟩
set_option maxRecDepth 100000 in
theorem jcL_47 : jcV RL 47 KX7_law 7 2 := ⟨Or.inl (jt 1004 rfl rfl), jt 1005 rfl rfl, jt 1006 rfl rfl, by decide +kernel, rfl⟩
set_option maxRecDepth 100000 in
theorem jcL_48 : jcV RL 48 KX6_set 6 2 := ⟨Or.inl (jt 487 rfl rfl), jt 488 rfl rfl, jt 489 rfl rfl, by decide +kernel, rfl⟩
set_option maxRecDepth 100000 in
theorem jcL_51 : jcV RL 51 KX7_set 7 2 := ⟨Or.inl (jt 1008 rfl rfl), jt 1009 rfl rfl, jt 1010 rfl rfl, by decide +kernel, rfl⟩
set_option maxRecDepth 100000 in
theorem jcL_52 : jcV RL 52 KX6_age 6 2 := ⟨Or.inl (jt 491 rfl rfl), jt 492 rfl rfl, jt 493 rfl rfl, by decide +kernel, rfl⟩
set_option maxRecDepth 100000 in
theorem jcL_55 : jcV RL 55 KX7_age 7 2 := ⟨Or.inl (jt 1018 rfl rfl), jt 1019 rfl rfl, jt 1020 rfl rfl, by decide +kernel, rfl⟩
set_option maxRecDepth 100000 in
theorem jcL_56 : jcV RL 56 KX6_dye 6 2 := ⟨Or.inl (jt 495 rfl rfl), jt 496 rfl rfl, jt 497 rfl rfl, by decide +kernel, rfl⟩
set_option maxRecDepth 100000 in
theorem jcL_59 : jcV RL 59 KX7_dye 7 2 := ⟨Or.inl (jt 1022 rfl rfl), jt 1023 rfl rfl, jt 1024 rfl rfl, by decide +kernel, rfl⟩
set_option maxRecDepth 100000 in
theorem jcL_60 : jcV RL 60 KX6_knot 6 2 := ⟨Or.inl (jt 499 rfl rfl), jt 500 rfl rfl, jt 501 rfl rfl, by decide +kernel, rfl⟩
set_option maxRecDepth 100000 in
theorem jcL_64 : jcV RL 64 KX7_knot 7 2 := ⟨Or.inl (jt 1026 rfl rfl), jt 1027 rfl rfl, jt 1028 rfl rfl, by decide +kernel, rfl⟩
set_option maxRecDepth 100000 in
theorem jcL_65 : jcV RL 65 KX6_pay 6 3 := ⟨Or.inl (jt 503 rfl rfl), jt 504 rfl rfl, jt 505 rfl rfl, by decide +kernel, rfl⟩
set_option maxRecDepth 100000 in
theorem jcL_69 : jcV RL 69 KX7_pay 7 3 := ⟨Or.inl (jt 1030 rfl rfl), jt 1031 rfl rfl, jt 1032 rfl rfl, by decide +kernel, rfl⟩
set_option maxRecDepth 100000 in
theorem jcL_70 : jcV RL 70 KX6_hour 6 1 := ⟨Or.inl (jt 507 rfl rfl), jt 508 rfl rfl, jt 509 rfl rfl, by decide +kernel, rfl⟩
set_option maxRecDepth 100000 in
theorem jcL_73 : jcV RL 73 KX7_hour 7 1 := ⟨Or.inl (jt 1034 rfl rfl), jt 1035 rfl rfl, jt 1036 rfl rfl, by decide +kernel, rfl⟩
set_option maxRecDepth 100000 in
theorem jcL_74 : jcV RL 74 KX6_falls 6 2 := ⟨Or.inl (jt 520 rfl rfl), jt 521 rfl rfl, jt 522 rfl rfl, by decide +kernel, rfl⟩
set_option maxRecDepth 100000 in
theorem jcL_78 : jcV RL 78 KX7_falls 7 2 := ⟨Or.inl (jt 1042 rfl rfl), jt 1043 rfl rfl, jt 1044 rfl rfl, by decide +kernel, rfl⟩
set_option maxRecDepth 100000 in
theorem jcL_79 : jcV RL 79 KX6_left 6 3 := ⟨Or.inl (jt 577 rfl rfl), jt 578 rfl rfl, jt 579 rfl rfl, by decide +kernel, rfl⟩
set_option maxRecDepth 100000 in
theorem jcL_83 : jcV RL 83 KX7_left 7 3 := ⟨Or.inl (jt 1077 rfl rfl), jt 1078 rfl rfl, jt 1079 rfl rfl, by decide +kernel, rfl⟩
set_option maxRecDepth 100000 in
theorem jcL_84 : jcV RL 84 KX6_mean 6 2 := ⟨Or.inl (jt 585 rfl rfl), jt 586 rfl rfl, jt 587 rfl rfl, by decide +kernel, rfl⟩
set_option maxRecDepth 100000 in
theorem jcL_87 : jcV RL 87 KX7_mean 7 2 := ⟨Or.inl (jt 1081 rfl rfl), jt 1082 rfl rfl, jt 1083 rfl rfl, by decide +kernel, rfl⟩
set_option maxRecDepth 100000 in
theorem jcL_88 : jcV RL 88 KX6_sits 6 3 := ⟨Or.inl (jt 589 rfl rfl), jt 590 rfl rfl, jt 591 rfl rfl, by decide +kernel, rfl⟩
set_option maxRecDepth 100000 in
theorem jcL_91 : jcV RL 91 KX7_sits 7 3 := ⟨Or.inl (jt 1085 rfl rfl), jt 1086 rfl rfl, jt 1087 rfl rfl, by decide +kernel, rfl⟩
set_option maxRecDepth 100000 in
theorem jcL_92 : jcV RL 92 KX6_best 6 3 := ⟨Or.inl (jt 601 rfl rfl), jt 602 rfl rfl, jt 603 rfl rfl, by decide +kernel, rfl⟩
set_option maxRecDepth 100000 in
theorem jcL_95 : jcV RL 95 KX7_best 7 3 := ⟨Or.inl (jt 1089 rfl rfl), jt 1090 rfl rfl, jt 1091 rfl rfl, by decide +kernel, rfl⟩
set_option maxRecDepth 100000 in
theorem jcL_96 : jcV RL 96 KX6_test 6 3 := ⟨Or.inl (jt 609 rfl rfl), jt 610 rfl rfl, jt 611 rfl rfl, by decide +kernel, rfl⟩
set_option maxRecDepth 100000 in
theorem jcL_99 : jcV RL 99 KX7_test 7 3 := ⟨Or.inl (jt 1097 rfl rfl), jt 1098 rfl rfl, jt 1099 rfl rfl, by decide +kernel, rfl⟩
set_option maxRecDepth 100000 in
theorem jcL_100 : jcV RL 100 KX6_plait 6 3 := ⟨Or.inl (jt 614 rfl rfl), jt 615 rfl rfl, jt 616 rfl rfl, by decide +kernel, rfl⟩
set_option maxRecDepth 100000 in
theorem jcL_103 : jcV RL 103 KX7_plait 7 3 := ⟨Or.inl (jt 1101 rfl rfl), jt 1102 rfl rfl, jt 1103 rfl rfl, by decide +kernel, rfl⟩
set_option maxRecDepth 100000 in
theorem jcL_104 : jcV RL 104 KX6_bears 6 2 := ⟨Or.inl (jt 627 rfl rfl), jt 628 rfl rfl, jt 629 rfl rfl, by decide +kernel, rfl⟩
set_option maxRecDepth 100000 in
theorem jcL_107 : jcV RL 107 KX7_bears 7 2 := ⟨Or.inl (jt 1113 rfl rfl), jt 1114 rfl rfl, jt 1115 rfl rfl, by decide +kernel, rfl⟩
set_option maxRecDepth 100000 in
theorem jcL_108 : jcV RL 108 KX6_mend 6 2 := ⟨Or.inl (jt 631 rfl rfl), jt 632 rfl rfl, jt 633 rfl rfl, by decide +kernel, rfl⟩
set_option maxRecDepth 100000 in
theorem jcL_111 : jcV RL 111 KX7_mend 7 2 := ⟨Or.inl (jt 1117 rfl rfl), jt 1118 rfl rfl, jt 1119 rfl rfl, by decide +kernel, rfl⟩
set_option maxRecDepth 100000 in
theorem jcL_112 : jcV RL 112 KX6_duel 6 4 := ⟨Or.inl (jt 640 rfl rfl), jt 641 rfl rfl, jt 642 rfl rfl, by decide +kernel, rfl⟩
set_option maxRecDepth 100000 in
theorem jcL_116 : jcV RL 116 KX7_duel 7 4 := ⟨Or.inl (jt 1121 rfl rfl), jt 1122 rfl rfl, jt 1123 rfl rfl, by decide +kernel, rfl⟩
set_option maxRecDepth 100000 in
theorem jcL_117 : jcV RL 117 KX6_crown 6 2 := ⟨Or.inl (jt 656 rfl rfl), jt 657 rfl rfl, jt 658 rfl rfl, by decide +kernel, rfl⟩
set_option maxRecDepth 100000 in
theorem jcL_120 : jcV RL 120 KX7_crown 7 2 := ⟨Or.inl (jt 1129 rfl rfl), jt 1130 rfl rfl, jt 1131 rfl rfl, by decide +kernel, rfl⟩
set_option maxRecDepth 100000 in
theorem jcL_121 : jcV RL 121 KX6_reads 6 2 := ⟨Or.inl (jt 661 rfl rfl), jt 662 rfl rfl, jt 663 rfl rfl, by decide +kernel, rfl⟩
set_option maxRecDepth 100000 in
theorem jcL_124 : jcV RL 124 KX7_reads 7 2 := ⟨Or.inl (jt 1134 rfl rfl), jt 1135 rfl rfl, jt 1136 rfl rfl, by decide +kernel, rfl⟩
set_option maxRecDepth 100000 in
theorem jcL_125 : jcV RL 125 KX6_laws 6 1 := ⟨Or.inl (jt 673 rfl rfl), jt 674 rfl rfl, jt 675 rfl rfl, by decide +kernel, rfl⟩
set_option maxRecDepth 100000 in
theorem jcL_129 : jcV RL 129 KX7_laws 7 1 := ⟨Or.inl (jt 1142 rfl rfl), jt 1143 rfl rfl, jt 1144 rfl rfl, by decide +kernel, rfl⟩
set_option maxRecDepth 100000 in
theorem jcL_130 : jcV RL 130 KX6_see 6 2 := ⟨Or.inl (jt 677 rfl rfl), jt 678 rfl rfl, jt 679 rfl rfl, by decide +kernel, rfl⟩
set_option maxRecDepth 100000 in
theorem jcL_133 : jcV RL 133 KX7_see 7 2 := ⟨Or.inl (jt 1146 rfl rfl), jt 1147 rfl rfl, jt 1148 rfl rfl, by decide +kernel, rfl⟩
set_option maxRecDepth 100000 in
theorem jcL_134 : jcV RL 134 KX6_forget 6 1 := ⟨Or.inl (jt 685 rfl rfl), jt 686 rfl rfl, jt 687 rfl rfl, by decide +kernel, rfl⟩
set_option maxRecDepth 100000 in
theorem jcL_137 : jcV RL 137 KX7_forget 7 1 := ⟨Or.inl (jt 1150 rfl rfl), jt 1151 rfl rfl, jt 1152 rfl rfl, by decide +kernel, rfl⟩
set_option maxRecDepth 100000 in
theorem jcL_138 : jcV RL 138 KX6_likely 6 3 := ⟨Or.inl (jt 689 rfl rfl), jt 690 rfl rfl, jt 691 rfl rfl, by decide +kernel, rfl⟩
set_option maxRecDepth 100000 in
theorem jcL_141 : jcV RL 141 KX7_likely 7 3 := ⟨Or.inl (jt 1154 rfl rfl), jt 1155 rfl rfl, jt 1156 rfl rfl, by decide +kernel, rfl⟩
set_option maxRecDepth 100000 in
theorem jcL_142 : jcV RL 142 KX6_guess 6 1 := ⟨Or.inl (jt 710 rfl rfl), jt 711 rfl rfl, jt 712 rfl rfl, by decide +kernel, rfl⟩
set_option maxRecDepth 100000 in
theorem jcL_145 : jcV RL 145 KX7_guess 7 1 := ⟨Or.inl (jt 1166 rfl rfl), jt 1167 rfl rfl, jt 1168 rfl rfl, by decide +kernel, rfl⟩
set_option maxRecDepth 100000 in
theorem jcL_146 : jcV RL 146 KX6_drift 6 3 := ⟨Or.inl (jt 714 rfl rfl), jt 715 rfl rfl, jt 716 rfl rfl, by decide +kernel, rfl⟩
set_option maxRecDepth 100000 in
theorem jcL_149 : jcV RL 149 KX7_drift 7 3 := ⟨Or.inl (jt 1170 rfl rfl), jt 1171 rfl rfl, jt 1172 rfl rfl, by decide +kernel, rfl⟩
set_option maxRecDepth 100000 in
theorem jcL_150 : jcV RL 150 KX6_keep 6 1 := ⟨Or.inl (jt 720 rfl rfl), jt 721 rfl rfl, jt 722 rfl rfl, by decide +kernel, rfl⟩
set_option maxRecDepth 100000 in
theorem jcL_153 : jcV RL 153 KX7_keep 7 1 := ⟨Or.inl (jt 1176 rfl rfl), jt 1177 rfl rfl, jt 1178 rfl rfl, by decide +kernel, rfl⟩
set_option maxRecDepth 100000 in
theorem jcL_154 : jcV RL 154 KX6_back 6 1 := ⟨Or.inl (jt 724 rfl rfl), jt 725 rfl rfl, jt 726 rfl rfl, by decide +kernel, rfl⟩
set_option maxRecDepth 100000 in
theorem jcL_157 : jcV RL 157 KX7_back 7 1 := ⟨Or.inl (jt 1184 rfl rfl), jt 1185 rfl rfl, jt 1186 rfl rfl, by decide +kernel, rfl⟩
set_option maxRecDepth 100000 in
theorem jcL_158 : jcV RL 158 KX6_sheet 6 3 := ⟨Or.inl (jt 728 rfl rfl), jt 729 rfl rfl, jt 730 rfl rfl, by decide +kernel, rfl⟩
set_option maxRecDepth 100000 in
theorem jcL_161 : jcV RL 161 KX7_sheet 7 3 := ⟨Or.inl (jt 1188 rfl rfl), jt 1189 rfl rfl, jt 1190 rfl rfl, by decide +kernel, rfl⟩
set_option maxRecDepth 100000 in
theorem jcL_162 : jcV RL 162 KX6_lay 6 3 := ⟨Or.inl (jt 737 rfl rfl), jt 738 rfl rfl, jt 739 rfl rfl, by decide +kernel, rfl⟩
set_option maxRecDepth 100000 in
theorem jcL_165 : jcV RL 165 KX7_lay 7 3 := ⟨Or.inl (jt 1192 rfl rfl), jt 1193 rfl rfl, jt 1194 rfl rfl, by decide +kernel, rfl⟩
set_option maxRecDepth 100000 in
theorem jcL_166 : jcV RL 166 KX6_read 6 4 := ⟨Or.inl (jt 750 rfl rfl), jt 751 rfl rfl, jt 752 rfl rfl, by decide +kernel, rfl⟩
set_option maxRecDepth 100000 in
theorem jcL_170 : jcV RL 170 KX7_read 7 4 := ⟨Or.inl (jt 1196 rfl rfl), jt 1197 rfl rfl, jt 1198 rfl rfl, by decide +kernel, rfl⟩
set_option maxRecDepth 100000 in
theorem jcL_171 : jcV RL 171 KX6_torn 6 0 := ⟨Or.inl (jt 759 rfl rfl), jt 760 rfl rfl, jt 761 rfl rfl, by decide +kernel, rfl⟩
set_option maxRecDepth 100000 in
theorem jcL_174 : jcV RL 174 KX7_torn 7 0 := ⟨Or.inl (jt 1201 rfl rfl), jt 1202 rfl rfl, jt 1203 rfl rfl, by decide +kernel, rfl⟩
set_option maxRecDepth 100000 in
theorem jcL_175 : jcV RL 175 KX6_count 6 1 := ⟨Or.inl (jt 763 rfl rfl), jt 764 rfl rfl, jt 765 rfl rfl, by decide +kernel, rfl⟩
set_option maxRecDepth 100000 in
theorem jcL_178 : jcV RL 178 KX7_count 7 1 := ⟨Or.inl (jt 1205 rfl rfl), jt 1206 rfl rfl, jt 1207 rfl rfl, by decide +kernel, rfl⟩
