theorem inX0 : ∀ w ∈ u_ws RX0 TX0 3, w ∈ tbW := fun w h => tbW_mem ((by decide +kernel : ∀ w ∈ u_ws RX0 TX0 3, w ∈ lw_tbl) w h) ((by decide +kernel : ∀ w ∈ u_ws RX0 TX0 3, goodWord w = true) w h)
theorem inX1 : ∀ w ∈ u_ws RX1 TX1 5, w ∈ tbW := fun w h => tbW_mem ((by decide +kernel : ∀ w ∈ u_ws RX1 TX1 5, w ∈ lw_tbl) w h) ((by decide +kernel : ∀ w ∈ u_ws RX1 TX1 5, goodWord w = true) w h)
theorem inX2 : ∀ w ∈ u_ws RX2 TX2 6, w ∈ tbW := fun w h => tbW_mem ((by decide +kernel : ∀ w ∈ u_ws RX2 TX2 6, w ∈ lw_tbl) w h) ((by decide +kernel : ∀ w ∈ u_ws RX2 TX2 6, goodWord w = true) w h)
theorem inX3 : ∀ w ∈ u_ws RX3 TX3 7, w ∈ tbW := fun w h => tbW_mem ((by decide +kernel : ∀ w ∈ u_ws RX3 TX3 7, w ∈ lw_tbl) w h) ((by decide +kernel : ∀ w ∈ u_ws RX3 TX3 7, goodWord w = true) w h)
theorem inX4 : ∀ w ∈ u_ws RX4 TX4 7, w ∈ tbW := fun w h => tbW_mem ((by decide +kernel : ∀ w ∈ u_ws RX4 TX4 7, w ∈ lw_tbl) w h) ((by decide +kernel : ∀ w ∈ u_ws RX4 TX4 7, goodWord w = true) w h)
theorem inX5 : ∀ w ∈ u_ws RX5 TX5 4, w ∈ tbW := fun w h => tbW_mem ((by decide +kernel : ∀ w ∈ u_ws RX5 TX5 4, w ∈ lw_tbl) w h) ((by decide +kernel : ∀ w ∈ u_ws RX5 TX5 4, goodWord w = true) w h)
theorem inX6 : ∀ w ∈ u_ws RX6 TX6 13, w ∈ tbW := fun w h => tbW_mem ((by decide +kernel : ∀ w ∈ u_ws RX6 TX6 13, w ∈ lw_tbl) w h) ((by decide +kernel : ∀ w ∈ u_ws RX6 TX6 13, goodWord w = true) w h)
theorem inX7 : ∀ w ∈ u_ws RX7 TX7 16, w ∈ tbW := fun w h => tbW_mem ((by decide +kernel : ∀ w ∈ u_ws RX7 TX7 16, w ∈ lw_tbl) w h) ((by decide +kernel : ∀ w ∈ u_ws RX7 TX7 16, goodWord w = true) w h)
theorem inX8 : ∀ w ∈ u_ws RX8 TX8 2, w ∈ tbW := fun w h => tbW_mem ((by decide +kernel : ∀ w ∈ u_ws RX8 TX8 2, w ∈ lw_tbl) w h) ((by decide +kernel : ∀ w ∈ u_ws RX8 TX8 2, goodWord w = true) w h)
theorem inX9 : ∀ w ∈ u_ws RX9 TX9 9, w ∈ tbW := fun w h => tbW_mem ((by decide +kernel : ∀ w ∈ u_ws RX9 TX9 9, w ∈ lw_tbl) w h) ((by decide +kernel : ∀ w ∈ u_ws RX9 TX9 9, goodWord w = true) w h)
theorem inX10 : ∀ w ∈ u_ws RX10 TX10 61, w ∈ tbW := fun w h => tbW_mem ((by decide +kernel : ∀ w ∈ u_ws RX10 TX10 61, w ∈ lw_tbl) w h) ((by decide +kernel : ∀ w ∈ u_ws RX10 TX10 61, goodWord w = true) w h)
abbrev mX0_init : MInf := (yX0_init, cX0_init, 1, (none : Option Jvm.ClassFile.FieldType), 1, 2, 10)
theorem oX0_init : Cond.code yX0_init cX0_init 1 (none : Option Jvm.ClassFile.FieldType) ∈ tbW := tbW_mem (List.mem_of_getElem? (i := 403) (by decide +kernel)) rfl
theorem iX0_init : Cond.instanceMethod yX0_init ∈ tbW := tbW_mem (List.mem_of_getElem? (i := 402) (by decide +kernel)) rfl
abbrev mX0_begin : MInf := (yX0_begin, cX0_begin, 4, (none : Option Jvm.ClassFile.FieldType), 2, 0, 0)
theorem oX0_begin : Cond.code yX0_begin cX0_begin 4 (none : Option Jvm.ClassFile.FieldType) ∈ tbW := tbW_mem (List.mem_of_getElem? (i := 915) (by decide +kernel)) rfl
theorem iX0_begin : Cond.instanceMethod yX0_begin ∈ tbW ∧ Cond.selects yX0_begin.cls yX0_begin yX0_begin ∈ tbW := ⟨tbW_mem (List.mem_of_getElem? (i := 913) (by decide +kernel)) rfl, tbW_mem (List.mem_of_getElem? (i := 914) (by decide +kernel)) rfl⟩
abbrev mX0_goOn : MInf := (yX0_goOn, cX0_goOn, 2, (some .int), 1, 0, 0)
theorem oX0_goOn : Cond.code yX0_goOn cX0_goOn 2 (some .int) ∈ tbW := tbW_mem (List.mem_of_getElem? (i := 933) (by decide +kernel)) rfl
theorem iX0_goOn : Cond.instanceMethod yX0_goOn ∈ tbW ∧ Cond.selects yX0_goOn.cls yX0_goOn yX0_goOn ∈ tbW := ⟨tbW_mem (List.mem_of_getElem? (i := 931) (by decide +kernel)) rfl, tbW_mem (List.mem_of_getElem? (i := 932) (by decide +kernel)) rfl⟩
abbrev mX1_init : MInf := (yX1_init, cX1_init, 1, (none : Option Jvm.ClassFile.FieldType), 2, 11, 69)
theorem oX1_init : Cond.code yX1_init cX1_init 1 (none : Option Jvm.ClassFile.FieldType) ∈ tbW := tbW_mem (List.mem_of_getElem? (i := 302) (by decide +kernel)) rfl
theorem iX1_init : Cond.instanceMethod yX1_init ∈ tbW := tbW_mem (List.mem_of_getElem? (i := 301) (by decide +kernel)) rfl
abbrev mX1_begin : MInf := (yX1_begin, cX1_begin, 2, (none : Option Jvm.ClassFile.FieldType), 3, 0, 0)
theorem oX1_begin : Cond.code yX1_begin cX1_begin 2 (none : Option Jvm.ClassFile.FieldType) ∈ tbW := tbW_mem (List.mem_of_getElem? (i := 503) (by decide +kernel)) rfl
theorem iX1_begin : Cond.instanceMethod yX1_begin ∈ tbW ∧ Cond.selects yX1_begin.cls yX1_begin yX1_begin ∈ tbW := ⟨tbW_mem (List.mem_of_getElem? (i := 501) (by decide +kernel)) rfl, tbW_mem (List.mem_of_getElem? (i := 502) (by decide +kernel)) rfl⟩
abbrev mX1_copyFrom : MInf := (yX1_copyFrom, cX1_copyFrom, 2, (none : Option Jvm.ClassFile.FieldType), 2, 0, 0)
theorem oX1_copyFrom : Cond.code yX1_copyFrom cX1_copyFrom 2 (none : Option Jvm.ClassFile.FieldType) ∈ tbW := tbW_mem (List.mem_of_getElem? (i := 864) (by decide +kernel)) rfl
theorem iX1_copyFrom : Cond.instanceMethod yX1_copyFrom ∈ tbW ∧ Cond.selects yX1_copyFrom.cls yX1_copyFrom yX1_copyFrom ∈ tbW := ⟨tbW_mem (List.mem_of_getElem? (i := 862) (by decide +kernel)) rfl, tbW_mem (List.mem_of_getElem? (i := 863) (by decide +kernel)) rfl⟩
abbrev mX1_passQuarter : MInf := (yX1_passQuarter, cX1_passQuarter, 2, (none : Option Jvm.ClassFile.FieldType), 4, 0, 0)
theorem oX1_passQuarter : Cond.code yX1_passQuarter cX1_passQuarter 2 (none : Option Jvm.ClassFile.FieldType) ∈ tbW := tbW_mem (List.mem_of_getElem? (i := 783) (by decide +kernel)) rfl
theorem iX1_passQuarter : Cond.instanceMethod yX1_passQuarter ∈ tbW ∧ Cond.selects yX1_passQuarter.cls yX1_passQuarter yX1_passQuarter ∈ tbW := ⟨tbW_mem (List.mem_of_getElem? (i := 781) (by decide +kernel)) rfl, tbW_mem (List.mem_of_getElem? (i := 782) (by decide +kernel)) rfl⟩
abbrev mX1_stroll : MInf := (yX1_stroll, cX1_stroll, 5, (none : Option Jvm.ClassFile.FieldType), 2, 0, 0)
theorem oX1_stroll : Cond.code yX1_stroll cX1_stroll 5 (none : Option Jvm.ClassFile.FieldType) ∈ tbW := tbW_mem (List.mem_of_getElem? (i := 795) (by decide +kernel)) rfl
theorem iX1_stroll : Cond.instanceMethod yX1_stroll ∈ tbW ∧ Cond.selects yX1_stroll.cls yX1_stroll yX1_stroll ∈ tbW := ⟨tbW_mem (List.mem_of_getElem? (i := 794) (by decide +kernel)) rfl, tbW_mem (List.mem_of_getElem? (i := 22) (by decide +kernel)) rfl⟩
abbrev mX1_draw : MInf := (yX1_draw, cX1_draw, 2, (some .int), 1, 0, 0)
theorem oX1_draw : Cond.code yX1_draw cX1_draw 2 (some .int) ∈ tbW := tbW_mem (List.mem_of_getElem? (i := 799) (by decide +kernel)) rfl
theorem iX1_draw : Cond.instanceMethod yX1_draw ∈ tbW ∧ Cond.selects yX1_draw.cls yX1_draw yX1_draw ∈ tbW := ⟨tbW_mem (List.mem_of_getElem? (i := 798) (by decide +kernel)) rfl, tbW_mem (List.mem_of_getElem? (i := 23) (by decide +kernel)) rfl⟩
abbrev mX2_init : MInf := (yX2_init, cX2_init, 1, (none : Option Jvm.ClassFile.FieldType), 2, 11, 492)
theorem oX2_init : Cond.code yX2_init cX2_init 1 (none : Option Jvm.ClassFile.FieldType) ∈ tbW := tbW_mem (List.mem_of_getElem? (i := 467) (by decide +kernel)) rfl
theorem iX2_init : Cond.instanceMethod yX2_init ∈ tbW := tbW_mem (List.mem_of_getElem? (i := 466) (by decide +kernel)) rfl
abbrev mX2_readAll : MInf := (yX2_readAll, cX2_readAll, 4, (some .boolean), 6, 0, 0)
theorem oX2_readAll : Cond.code yX2_readAll cX2_readAll 4 (some .boolean) ∈ tbW := tbW_mem (List.mem_of_getElem? (i := 1130) (by decide +kernel)) rfl
theorem iX2_readAll : Cond.instanceMethod yX2_readAll ∈ tbW ∧ Cond.selects yX2_readAll.cls yX2_readAll yX2_readAll ∈ tbW := ⟨tbW_mem (List.mem_of_getElem? (i := 1128) (by decide +kernel)) rfl, tbW_mem (List.mem_of_getElem? (i := 1129) (by decide +kernel)) rfl⟩
abbrev mX2_readRow : MInf := (yX2_readRow, cX2_readRow, 5, (some .boolean), 5, 0, 0)
theorem oX2_readRow : Cond.code yX2_readRow cX2_readRow 5 (some .boolean) ∈ tbW := tbW_mem (List.mem_of_getElem? (i := 1135) (by decide +kernel)) rfl
theorem iX2_readRow : Cond.instanceMethod yX2_readRow ∈ tbW ∧ Cond.selects yX2_readRow.cls yX2_readRow yX2_readRow ∈ tbW := ⟨tbW_mem (List.mem_of_getElem? (i := 1134) (by decide +kernel)) rfl, tbW_mem (List.mem_of_getElem? (i := 47) (by decide +kernel)) rfl⟩
abbrev mX2_readNumber : MInf := (yX2_readNumber, cX2_readNumber, 3, (some .int), 4, 0, 0)
theorem oX2_readNumber : Cond.code yX2_readNumber cX2_readNumber 3 (some .int) ∈ tbW := tbW_mem (List.mem_of_getElem? (i := 1138) (by decide +kernel)) rfl
theorem sX2_readNumber : Cond.static yX2_readNumber ∈ tbW := tbW_mem (List.mem_of_getElem? (i := 1137) (by decide +kernel)) rfl
abbrev mX2_firstThatCannot : MInf := (yX2_firstThatCannot, cX2_firstThatCannot, 7, (some .int), 5, 0, 0)
theorem oX2_firstThatCannot : Cond.code yX2_firstThatCannot cX2_firstThatCannot 7 (some .int) ∈ tbW := tbW_mem (List.mem_of_getElem? (i := 1143) (by decide +kernel)) rfl
theorem iX2_firstThatCannot : Cond.instanceMethod yX2_firstThatCannot ∈ tbW ∧ Cond.selects yX2_firstThatCannot.cls yX2_firstThatCannot yX2_firstThatCannot ∈ tbW := ⟨tbW_mem (List.mem_of_getElem? (i := 1141) (by decide +kernel)) rfl, tbW_mem (List.mem_of_getElem? (i := 1142) (by decide +kernel)) rfl⟩
abbrev mX2_rowsInOrder : MInf := (yX2_rowsInOrder, cX2_rowsInOrder, 3, (some .int), 2, 0, 0)
theorem oX2_rowsInOrder : Cond.code yX2_rowsInOrder cX2_rowsInOrder 3 (some .int) ∈ tbW := tbW_mem (List.mem_of_getElem? (i := 1147) (by decide +kernel)) rfl
theorem iX2_rowsInOrder : Cond.instanceMethod yX2_rowsInOrder ∈ tbW ∧ Cond.selects yX2_rowsInOrder.cls yX2_rowsInOrder yX2_rowsInOrder ∈ tbW := ⟨tbW_mem (List.mem_of_getElem? (i := 1146) (by decide +kernel)) rfl, tbW_mem (List.mem_of_getElem? (i := 48) (by decide +kernel)) rfl⟩
abbrev mX2_isOutOfOrder : MInf := (yX2_isOutOfOrder, cX2_isOutOfOrder, 3, (some .boolean), 1, 0, 0)
theorem oX2_isOutOfOrder : Cond.code yX2_isOutOfOrder cX2_isOutOfOrder 3 (some .boolean) ∈ tbW := tbW_mem (List.mem_of_getElem? (i := 1151) (by decide +kernel)) rfl
theorem iX2_isOutOfOrder : Cond.instanceMethod yX2_isOutOfOrder ∈ tbW ∧ Cond.selects yX2_isOutOfOrder.cls yX2_isOutOfOrder yX2_isOutOfOrder ∈ tbW := ⟨tbW_mem (List.mem_of_getElem? (i := 1150) (by decide +kernel)) rfl, tbW_mem (List.mem_of_getElem? (i := 49) (by decide +kernel)) rfl⟩
abbrev mX2_passRows : MInf := (yX2_passRows, cX2_passRows, 7, (some .int), 4, 0, 0)
theorem oX2_passRows : Cond.code yX2_passRows cX2_passRows 7 (some .int) ∈ tbW := tbW_mem (List.mem_of_getElem? (i := 1156) (by decide +kernel)) rfl
theorem iX2_passRows : Cond.instanceMethod yX2_passRows ∈ tbW ∧ Cond.selects yX2_passRows.cls yX2_passRows yX2_passRows ∈ tbW := ⟨tbW_mem (List.mem_of_getElem? (i := 1155) (by decide +kernel)) rfl, tbW_mem (List.mem_of_getElem? (i := 50) (by decide +kernel)) rfl⟩
abbrev mX3_init : MInf := (yX3_init, cX3_init, 1, (none : Option Jvm.ClassFile.FieldType), 1, 6, 30)
theorem oX3_init : Cond.code yX3_init cX3_init 1 (none : Option Jvm.ClassFile.FieldType) ∈ tbW := tbW_mem (List.mem_of_getElem? (i := 308) (by decide +kernel)) rfl
theorem iX3_init : Cond.instanceMethod yX3_init ∈ tbW := tbW_mem (List.mem_of_getElem? (i := 307) (by decide +kernel)) rfl
abbrev mX3_begin : MInf := (yX3_begin, cX3_begin, 3, (none : Option Jvm.ClassFile.FieldType), 1, 0, 0)
theorem oX3_begin : Cond.code yX3_begin cX3_begin 3 (none : Option Jvm.ClassFile.FieldType) ∈ tbW := tbW_mem (List.mem_of_getElem? (i := 507) (by decide +kernel)) rfl
theorem iX3_begin : Cond.instanceMethod yX3_begin ∈ tbW ∧ Cond.selects yX3_begin.cls yX3_begin yX3_begin ∈ tbW := ⟨tbW_mem (List.mem_of_getElem? (i := 505) (by decide +kernel)) rfl, tbW_mem (List.mem_of_getElem? (i := 506) (by decide +kernel)) rfl⟩
abbrev mX3_copyFrom : MInf := (yX3_copyFrom, cX3_copyFrom, 2, (none : Option Jvm.ClassFile.FieldType), 1, 0, 0)
theorem oX3_copyFrom : Cond.code yX3_copyFrom cX3_copyFrom 2 (none : Option Jvm.ClassFile.FieldType) ∈ tbW := tbW_mem (List.mem_of_getElem? (i := 868) (by decide +kernel)) rfl
theorem iX3_copyFrom : Cond.instanceMethod yX3_copyFrom ∈ tbW ∧ Cond.selects yX3_copyFrom.cls yX3_copyFrom yX3_copyFrom ∈ tbW := ⟨tbW_mem (List.mem_of_getElem? (i := 866) (by decide +kernel)) rfl, tbW_mem (List.mem_of_getElem? (i := 867) (by decide +kernel)) rfl⟩
abbrev mX3_guestsIn : MInf := (yX3_guestsIn, cX3_guestsIn, 5, (some .int), 1, 0, 0)
theorem oX3_guestsIn : Cond.code yX3_guestsIn cX3_guestsIn 5 (some .int) ∈ tbW := tbW_mem (List.mem_of_getElem? (i := 819) (by decide +kernel)) rfl
theorem iX3_guestsIn : Cond.instanceMethod yX3_guestsIn ∈ tbW ∧ Cond.selects yX3_guestsIn.cls yX3_guestsIn yX3_guestsIn ∈ tbW := ⟨tbW_mem (List.mem_of_getElem? (i := 817) (by decide +kernel)) rfl, tbW_mem (List.mem_of_getElem? (i := 818) (by decide +kernel)) rfl⟩
abbrev mX3_haver : MInf := (yX3_haver, cX3_haver, 8, (some .int), 1, 0, 0)
theorem oX3_haver : Cond.code yX3_haver cX3_haver 8 (some .int) ∈ tbW := tbW_mem (List.mem_of_getElem? (i := 823) (by decide +kernel)) rfl
theorem iX3_haver : Cond.instanceMethod yX3_haver ∈ tbW ∧ Cond.selects yX3_haver.cls yX3_haver yX3_haver ∈ tbW := ⟨tbW_mem (List.mem_of_getElem? (i := 821) (by decide +kernel)) rfl, tbW_mem (List.mem_of_getElem? (i := 822) (by decide +kernel)) rfl⟩
abbrev mX3_wordOf : MInf := (yX3_wordOf, cX3_wordOf, 8, (some .int), 2, 0, 0)
theorem oX3_wordOf : Cond.code yX3_wordOf cX3_wordOf 8 (some .int) ∈ tbW := tbW_mem (List.mem_of_getElem? (i := 856) (by decide +kernel)) rfl
theorem iX3_wordOf : Cond.instanceMethod yX3_wordOf ∈ tbW ∧ Cond.selects yX3_wordOf.cls yX3_wordOf yX3_wordOf ∈ tbW := ⟨tbW_mem (List.mem_of_getElem? (i := 854) (by decide +kernel)) rfl, tbW_mem (List.mem_of_getElem? (i := 855) (by decide +kernel)) rfl⟩
abbrev mX3_goOn : MInf := (yX3_goOn, cX3_goOn, 6, (none : Option Jvm.ClassFile.FieldType), 3, 0, 0)
theorem oX3_goOn : Cond.code yX3_goOn cX3_goOn 6 (none : Option Jvm.ClassFile.FieldType) ∈ tbW := tbW_mem (List.mem_of_getElem? (i := 807) (by decide +kernel)) rfl
theorem iX3_goOn : Cond.instanceMethod yX3_goOn ∈ tbW ∧ Cond.selects yX3_goOn.cls yX3_goOn yX3_goOn ∈ tbW := ⟨tbW_mem (List.mem_of_getElem? (i := 805) (by decide +kernel)) rfl, tbW_mem (List.mem_of_getElem? (i := 806) (by decide +kernel)) rfl⟩
abbrev mX3_leave : MInf := (yX3_leave, cX3_leave, 5, (some .int), 1, 0, 0)
theorem oX3_leave : Cond.code yX3_leave cX3_leave 5 (some .int) ∈ tbW := tbW_mem (List.mem_of_getElem? (i := 811) (by decide +kernel)) rfl
theorem iX3_leave : Cond.instanceMethod yX3_leave ∈ tbW ∧ Cond.selects yX3_leave.cls yX3_leave yX3_leave ∈ tbW := ⟨tbW_mem (List.mem_of_getElem? (i := 810) (by decide +kernel)) rfl, tbW_mem (List.mem_of_getElem? (i := 24) (by decide +kernel)) rfl⟩
abbrev mX3_mayCome : MInf := (yX3_mayCome, cX3_mayCome, 6, (some .boolean), 2, 0, 0)
theorem oX3_mayCome : Cond.code yX3_mayCome cX3_mayCome 6 (some .boolean) ∈ tbW := tbW_mem (List.mem_of_getElem? (i := 815) (by decide +kernel)) rfl
theorem iX3_mayCome : Cond.instanceMethod yX3_mayCome ∈ tbW ∧ Cond.selects yX3_mayCome.cls yX3_mayCome yX3_mayCome ∈ tbW := ⟨tbW_mem (List.mem_of_getElem? (i := 814) (by decide +kernel)) rfl, tbW_mem (List.mem_of_getElem? (i := 25) (by decide +kernel)) rfl⟩
abbrev mX3_gainOfTies : MInf := (yX3_gainOfTies, cX3_gainOfTies, 5, (some .int), 1, 0, 0)
theorem oX3_gainOfTies : Cond.code yX3_gainOfTies cX3_gainOfTies 5 (some .int) ∈ tbW := tbW_mem (List.mem_of_getElem? (i := 827) (by decide +kernel)) rfl
theorem iX3_gainOfTies : Cond.instanceMethod yX3_gainOfTies ∈ tbW ∧ Cond.selects yX3_gainOfTies.cls yX3_gainOfTies yX3_gainOfTies ∈ tbW := ⟨tbW_mem (List.mem_of_getElem? (i := 826) (by decide +kernel)) rfl, tbW_mem (List.mem_of_getElem? (i := 26) (by decide +kernel)) rfl⟩
abbrev mX3_useHouse : MInf := (yX3_useHouse, cX3_useHouse, 5, (none : Option Jvm.ClassFile.FieldType), 2, 0, 0)
theorem oX3_useHouse : Cond.code yX3_useHouse cX3_useHouse 5 (none : Option Jvm.ClassFile.FieldType) ∈ tbW := tbW_mem (List.mem_of_getElem? (i := 831) (by decide +kernel)) rfl
theorem iX3_useHouse : Cond.instanceMethod yX3_useHouse ∈ tbW ∧ Cond.selects yX3_useHouse.cls yX3_useHouse yX3_useHouse ∈ tbW := ⟨tbW_mem (List.mem_of_getElem? (i := 830) (by decide +kernel)) rfl, tbW_mem (List.mem_of_getElem? (i := 27) (by decide +kernel)) rfl⟩
abbrev mX4_init : MInf := (yX4_init, cX4_init, 1, (none : Option Jvm.ClassFile.FieldType), 1, 1, 900)
theorem oX4_init : Cond.code yX4_init cX4_init 1 (none : Option Jvm.ClassFile.FieldType) ∈ tbW := tbW_mem (List.mem_of_getElem? (i := 134) (by decide +kernel)) rfl
theorem iX4_init : Cond.instanceMethod yX4_init ∈ tbW := tbW_mem (List.mem_of_getElem? (i := 133) (by decide +kernel)) rfl
abbrev mX4_addFour : MInf := (yX4_addFour, cX4_addFour, 3, (none : Option Jvm.ClassFile.FieldType), 1, 0, 0)
theorem oX4_addFour : Cond.code yX4_addFour cX4_addFour 3 (none : Option Jvm.ClassFile.FieldType) ∈ tbW := tbW_mem (List.mem_of_getElem? (i := 551) (by decide +kernel)) rfl
theorem iX4_addFour : Cond.instanceMethod yX4_addFour ∈ tbW ∧ Cond.selects yX4_addFour.cls yX4_addFour yX4_addFour ∈ tbW := ⟨tbW_mem (List.mem_of_getElem? (i := 549) (by decide +kernel)) rfl, tbW_mem (List.mem_of_getElem? (i := 550) (by decide +kernel)) rfl⟩
abbrev mX4_byteAt : MInf := (yX4_byteAt, cX4_byteAt, 2, (some .int), 1, 0, 0)
theorem oX4_byteAt : Cond.code yX4_byteAt cX4_byteAt 2 (some .int) ∈ tbW := tbW_mem (List.mem_of_getElem? (i := 584) (by decide +kernel)) rfl
theorem iX4_byteAt : Cond.instanceMethod yX4_byteAt ∈ tbW ∧ Cond.selects yX4_byteAt.cls yX4_byteAt yX4_byteAt ∈ tbW := ⟨tbW_mem (List.mem_of_getElem? (i := 582) (by decide +kernel)) rfl, tbW_mem (List.mem_of_getElem? (i := 583) (by decide +kernel)) rfl⟩
abbrev mX4_readFirst : MInf := (yX4_readFirst, cX4_readFirst, 1, (none : Option Jvm.ClassFile.FieldType), 4, 0, 0)
theorem oX4_readFirst : Cond.code yX4_readFirst cX4_readFirst 1 (none : Option Jvm.ClassFile.FieldType) ∈ tbW := tbW_mem (List.mem_of_getElem? (i := 568) (by decide +kernel)) rfl
theorem iX4_readFirst : Cond.instanceMethod yX4_readFirst ∈ tbW ∧ Cond.selects yX4_readFirst.cls yX4_readFirst yX4_readFirst ∈ tbW := ⟨tbW_mem (List.mem_of_getElem? (i := 566) (by decide +kernel)) rfl, tbW_mem (List.mem_of_getElem? (i := 567) (by decide +kernel)) rfl⟩
abbrev mX4_readToken : MInf := (yX4_readToken, cX4_readToken, 1, (none : Option Jvm.ClassFile.FieldType), 3, 0, 0)
theorem oX4_readToken : Cond.code yX4_readToken cX4_readToken 1 (none : Option Jvm.ClassFile.FieldType) ∈ tbW := tbW_mem (List.mem_of_getElem? (i := 572) (by decide +kernel)) rfl
theorem iX4_readToken : Cond.instanceMethod yX4_readToken ∈ tbW ∧ Cond.selects yX4_readToken.cls yX4_readToken yX4_readToken ∈ tbW := ⟨tbW_mem (List.mem_of_getElem? (i := 570) (by decide +kernel)) rfl, tbW_mem (List.mem_of_getElem? (i := 571) (by decide +kernel)) rfl⟩
abbrev mX4_readRun : MInf := (yX4_readRun, cX4_readRun, 2, (none : Option Jvm.ClassFile.FieldType), 2, 0, 0)
theorem oX4_readRun : Cond.code yX4_readRun cX4_readRun 2 (none : Option Jvm.ClassFile.FieldType) ∈ tbW := tbW_mem (List.mem_of_getElem? (i := 580) (by decide +kernel)) rfl
theorem iX4_readRun : Cond.instanceMethod yX4_readRun ∈ tbW ∧ Cond.selects yX4_readRun.cls yX4_readRun yX4_readRun ∈ tbW := ⟨tbW_mem (List.mem_of_getElem? (i := 579) (by decide +kernel)) rfl, tbW_mem (List.mem_of_getElem? (i := 1) (by decide +kernel)) rfl⟩
abbrev mX4_kindAt : MInf := (yX4_kindAt, cX4_kindAt, 3, (some .int), 1, 0, 0)
theorem oX4_kindAt : Cond.code yX4_kindAt cX4_kindAt 3 (some .int) ∈ tbW := tbW_mem (List.mem_of_getElem? (i := 576) (by decide +kernel)) rfl
theorem iX4_kindAt : Cond.instanceMethod yX4_kindAt ∈ tbW ∧ Cond.selects yX4_kindAt.cls yX4_kindAt yX4_kindAt ∈ tbW := ⟨tbW_mem (List.mem_of_getElem? (i := 575) (by decide +kernel)) rfl, tbW_mem (List.mem_of_getElem? (i := 0) (by decide +kernel)) rfl⟩
abbrev mX4_reads : MInf := (yX4_reads, cX4_reads, 3, (some .boolean), 6, 0, 0)
theorem oX4_reads : Cond.code yX4_reads cX4_reads 3 (some .boolean) ∈ tbW := tbW_mem (List.mem_of_getElem? (i := 594) (by decide +kernel)) rfl
theorem iX4_reads : Cond.instanceMethod yX4_reads ∈ tbW ∧ Cond.selects yX4_reads.cls yX4_reads yX4_reads ∈ tbW := ⟨tbW_mem (List.mem_of_getElem? (i := 592) (by decide +kernel)) rfl, tbW_mem (List.mem_of_getElem? (i := 593) (by decide +kernel)) rfl⟩
abbrev mX5_init : MInf := (yX5_init, cX5_init, 2, (none : Option Jvm.ClassFile.FieldType), 2, 11, 87)
theorem oX5_init : Cond.code yX5_init cX5_init 2 (none : Option Jvm.ClassFile.FieldType) ∈ tbW := tbW_mem (List.mem_of_getElem? (i := 170) (by decide +kernel)) rfl
theorem iX5_init : Cond.instanceMethod yX5_init ∈ tbW := tbW_mem (List.mem_of_getElem? (i := 169) (by decide +kernel)) rfl
abbrev mX5_tellAll : MInf := (yX5_tellAll, cX5_tellAll, 2, (some .boolean), 10, 0, 0)
theorem oX5_tellAll : Cond.code yX5_tellAll cX5_tellAll 2 (some .boolean) ∈ tbW := tbW_mem (List.mem_of_getElem? (i := 563) (by decide +kernel)) rfl
theorem iX5_tellAll : Cond.instanceMethod yX5_tellAll ∈ tbW ∧ Cond.selects yX5_tellAll.cls yX5_tellAll yX5_tellAll ∈ tbW := ⟨tbW_mem (List.mem_of_getElem? (i := 561) (by decide +kernel)) rfl, tbW_mem (List.mem_of_getElem? (i := 562) (by decide +kernel)) rfl⟩
abbrev mX5_tellClause : MInf := (yX5_tellClause, cX5_tellClause, 1, (none : Option Jvm.ClassFile.FieldType), 9, 0, 0)
theorem oX5_tellClause : Cond.code yX5_tellClause cX5_tellClause 1 (none : Option Jvm.ClassFile.FieldType) ∈ tbW := tbW_mem (List.mem_of_getElem? (i := 589) (by decide +kernel)) rfl
theorem iX5_tellClause : Cond.instanceMethod yX5_tellClause ∈ tbW ∧ Cond.selects yX5_tellClause.cls yX5_tellClause yX5_tellClause ∈ tbW := ⟨tbW_mem (List.mem_of_getElem? (i := 588) (by decide +kernel)) rfl, tbW_mem (List.mem_of_getElem? (i := 2) (by decide +kernel)) rfl⟩
abbrev mX5_tellHouse : MInf := (yX5_tellHouse, cX5_tellHouse, 2, (none : Option Jvm.ClassFile.FieldType), 5, 0, 0)
theorem oX5_tellHouse : Cond.code yX5_tellHouse cX5_tellHouse 2 (none : Option Jvm.ClassFile.FieldType) ∈ tbW := tbW_mem (List.mem_of_getElem? (i := 646) (by decide +kernel)) rfl
theorem iX5_tellHouse : Cond.instanceMethod yX5_tellHouse ∈ tbW ∧ Cond.selects yX5_tellHouse.cls yX5_tellHouse yX5_tellHouse ∈ tbW := ⟨tbW_mem (List.mem_of_getElem? (i := 645) (by decide +kernel)) rfl, tbW_mem (List.mem_of_getElem? (i := 3) (by decide +kernel)) rfl⟩
abbrev mX5_tellPerson : MInf := (yX5_tellPerson, cX5_tellPerson, 2, (none : Option Jvm.ClassFile.FieldType), 7, 0, 0)
theorem oX5_tellPerson : Cond.code yX5_tellPerson cX5_tellPerson 2 (none : Option Jvm.ClassFile.FieldType) ∈ tbW := tbW_mem (List.mem_of_getElem? (i := 675) (by decide +kernel)) rfl
theorem iX5_tellPerson : Cond.instanceMethod yX5_tellPerson ∈ tbW ∧ Cond.selects yX5_tellPerson.cls yX5_tellPerson yX5_tellPerson ∈ tbW := ⟨tbW_mem (List.mem_of_getElem? (i := 674) (by decide +kernel)) rfl, tbW_mem (List.mem_of_getElem? (i := 7) (by decide +kernel)) rfl⟩
abbrev mX5_tellHome : MInf := (yX5_tellHome, cX5_tellHome, 3, (none : Option Jvm.ClassFile.FieldType), 4, 0, 0)
theorem oX5_tellHome : Cond.code yX5_tellHome cX5_tellHome 3 (none : Option Jvm.ClassFile.FieldType) ∈ tbW := tbW_mem (List.mem_of_getElem? (i := 680) (by decide +kernel)) rfl
theorem iX5_tellHome : Cond.instanceMethod yX5_tellHome ∈ tbW ∧ Cond.selects yX5_tellHome.cls yX5_tellHome yX5_tellHome ∈ tbW := ⟨tbW_mem (List.mem_of_getElem? (i := 679) (by decide +kernel)) rfl, tbW_mem (List.mem_of_getElem? (i := 8) (by decide +kernel)) rfl⟩
abbrev mX5_tellTie : MInf := (yX5_tellTie, cX5_tellTie, 4, (none : Option Jvm.ClassFile.FieldType), 5, 0, 0)
theorem oX5_tellTie : Cond.code yX5_tellTie cX5_tellTie 4 (none : Option Jvm.ClassFile.FieldType) ∈ tbW := tbW_mem (List.mem_of_getElem? (i := 685) (by decide +kernel)) rfl
theorem iX5_tellTie : Cond.instanceMethod yX5_tellTie ∈ tbW ∧ Cond.selects yX5_tellTie.cls yX5_tellTie yX5_tellTie ∈ tbW := ⟨tbW_mem (List.mem_of_getElem? (i := 684) (by decide +kernel)) rfl, tbW_mem (List.mem_of_getElem? (i := 9) (by decide +kernel)) rfl⟩
abbrev mX5_isTiedAgain : MInf := (yX5_isTiedAgain, cX5_isTiedAgain, 3, (some .boolean), 3, 0, 0)
theorem oX5_isTiedAgain : Cond.code yX5_isTiedAgain cX5_isTiedAgain 3 (some .boolean) ∈ tbW := tbW_mem (List.mem_of_getElem? (i := 693) (by decide +kernel)) rfl
theorem iX5_isTiedAgain : Cond.instanceMethod yX5_isTiedAgain ∈ tbW ∧ Cond.selects yX5_isTiedAgain.cls yX5_isTiedAgain yX5_isTiedAgain ∈ tbW := ⟨tbW_mem (List.mem_of_getElem? (i := 692) (by decide +kernel)) rfl, tbW_mem (List.mem_of_getElem? (i := 11) (by decide +kernel)) rfl⟩
abbrev mX5_tellWork : MInf := (yX5_tellWork, cX5_tellWork, 4, (none : Option Jvm.ClassFile.FieldType), 5, 0, 0)
theorem oX5_tellWork : Cond.code yX5_tellWork cX5_tellWork 4 (none : Option Jvm.ClassFile.FieldType) ∈ tbW := tbW_mem (List.mem_of_getElem? (i := 698) (by decide +kernel)) rfl
theorem iX5_tellWork : Cond.instanceMethod yX5_tellWork ∈ tbW ∧ Cond.selects yX5_tellWork.cls yX5_tellWork yX5_tellWork ∈ tbW := ⟨tbW_mem (List.mem_of_getElem? (i := 697) (by decide +kernel)) rfl, tbW_mem (List.mem_of_getElem? (i := 12) (by decide +kernel)) rfl⟩
abbrev mX5_tellLast : MInf := (yX5_tellLast, cX5_tellLast, 1, (none : Option Jvm.ClassFile.FieldType), 4, 0, 0)
theorem oX5_tellLast : Cond.code yX5_tellLast cX5_tellLast 1 (none : Option Jvm.ClassFile.FieldType) ∈ tbW := tbW_mem (List.mem_of_getElem? (i := 703) (by decide +kernel)) rfl
theorem iX5_tellLast : Cond.instanceMethod yX5_tellLast ∈ tbW ∧ Cond.selects yX5_tellLast.cls yX5_tellLast yX5_tellLast ∈ tbW := ⟨tbW_mem (List.mem_of_getElem? (i := 702) (by decide +kernel)) rfl, tbW_mem (List.mem_of_getElem? (i := 13) (by decide +kernel)) rfl⟩
abbrev mX5_tellRule : MInf := (yX5_tellRule, cX5_tellRule, 2, (none : Option Jvm.ClassFile.FieldType), 8, 0, 0)
theorem oX5_tellRule : Cond.code yX5_tellRule cX5_tellRule 2 (none : Option Jvm.ClassFile.FieldType) ∈ tbW := tbW_mem (List.mem_of_getElem? (i := 707) (by decide +kernel)) rfl
theorem iX5_tellRule : Cond.instanceMethod yX5_tellRule ∈ tbW ∧ Cond.selects yX5_tellRule.cls yX5_tellRule yX5_tellRule ∈ tbW := ⟨tbW_mem (List.mem_of_getElem? (i := 706) (by decide +kernel)) rfl, tbW_mem (List.mem_of_getElem? (i := 14) (by decide +kernel)) rfl⟩
abbrev mX5_ruleRead : MInf := (yX5_ruleRead, cX5_ruleRead, 1, (some .int), 7, 0, 0)
theorem oX5_ruleRead : Cond.code yX5_ruleRead cX5_ruleRead 1 (some .int) ∈ tbW := tbW_mem (List.mem_of_getElem? (i := 711) (by decide +kernel)) rfl
theorem iX5_ruleRead : Cond.instanceMethod yX5_ruleRead ∈ tbW ∧ Cond.selects yX5_ruleRead.cls yX5_ruleRead yX5_ruleRead ∈ tbW := ⟨tbW_mem (List.mem_of_getElem? (i := 710) (by decide +kernel)) rfl, tbW_mem (List.mem_of_getElem? (i := 15) (by decide +kernel)) rfl⟩
abbrev mX5_readNewName : MInf := (yX5_readNewName, cX5_readNewName, 5, (some .long), 4, 0, 0)
theorem oX5_readNewName : Cond.code yX5_readNewName cX5_readNewName 5 (some .long) ∈ tbW := tbW_mem (List.mem_of_getElem? (i := 655) (by decide +kernel)) rfl
theorem iX5_readNewName : Cond.instanceMethod yX5_readNewName ∈ tbW ∧ Cond.selects yX5_readNewName.cls yX5_readNewName yX5_readNewName ∈ tbW := ⟨tbW_mem (List.mem_of_getElem? (i := 654) (by decide +kernel)) rfl, tbW_mem (List.mem_of_getElem? (i := 5) (by decide +kernel)) rfl⟩
abbrev mX5_readPerson : MInf := (yX5_readPerson, cX5_readPerson, 2, (some .int), 4, 0, 0)
theorem oX5_readPerson : Cond.code yX5_readPerson cX5_readPerson 2 (some .int) ∈ tbW := tbW_mem (List.mem_of_getElem? (i := 689) (by decide +kernel)) rfl
theorem iX5_readPerson : Cond.instanceMethod yX5_readPerson ∈ tbW ∧ Cond.selects yX5_readPerson.cls yX5_readPerson yX5_readPerson ∈ tbW := ⟨tbW_mem (List.mem_of_getElem? (i := 688) (by decide +kernel)) rfl, tbW_mem (List.mem_of_getElem? (i := 10) (by decide +kernel)) rfl⟩
abbrev mX5_readNumber : MInf := (yX5_readNumber, cX5_readNumber, 4, (some .int), 4, 0, 0)
theorem oX5_readNumber : Cond.code yX5_readNumber cX5_readNumber 4 (some .int) ∈ tbW := tbW_mem (List.mem_of_getElem? (i := 670) (by decide +kernel)) rfl
theorem iX5_readNumber : Cond.instanceMethod yX5_readNumber ∈ tbW ∧ Cond.selects yX5_readNumber.cls yX5_readNumber yX5_readNumber ∈ tbW := ⟨tbW_mem (List.mem_of_getElem? (i := 669) (by decide +kernel)) rfl, tbW_mem (List.mem_of_getElem? (i := 6) (by decide +kernel)) rfl⟩
abbrev mX5_blame : MInf := (yX5_blame, cX5_blame, 2, (none : Option Jvm.ClassFile.FieldType), 1, 0, 0)
theorem oX5_blame : Cond.code yX5_blame cX5_blame 2 (none : Option Jvm.ClassFile.FieldType) ∈ tbW := tbW_mem (List.mem_of_getElem? (i := 650) (by decide +kernel)) rfl
theorem iX5_blame : Cond.instanceMethod yX5_blame ∈ tbW ∧ Cond.selects yX5_blame.cls yX5_blame yX5_blame ∈ tbW := ⟨tbW_mem (List.mem_of_getElem? (i := 649) (by decide +kernel)) rfl, tbW_mem (List.mem_of_getElem? (i := 4) (by decide +kernel)) rfl⟩
abbrev mX6_init : MInf := (yX6_init, cX6_init, 2, (none : Option Jvm.ClassFile.FieldType), 2, 70, 8177)
theorem oX6_init : Cond.code yX6_init cX6_init 2 (none : Option Jvm.ClassFile.FieldType) ∈ tbW := tbW_mem (List.mem_of_getElem? (i := 390) (by decide +kernel)) rfl
theorem iX6_init : Cond.instanceMethod yX6_init ∈ tbW := tbW_mem (List.mem_of_getElem? (i := 389) (by decide +kernel)) rfl
abbrev mX6_setOut : MInf := (yX6_setOut, cX6_setOut, 3, (none : Option Jvm.ClassFile.FieldType), 2, 0, 0)
theorem oX6_setOut : Cond.code yX6_setOut cX6_setOut 3 (none : Option Jvm.ClassFile.FieldType) ∈ tbW := tbW_mem (List.mem_of_getElem? (i := 886) (by decide +kernel)) rfl
theorem iX6_setOut : Cond.instanceMethod yX6_setOut ∈ tbW ∧ Cond.selects yX6_setOut.cls yX6_setOut yX6_setOut ∈ tbW := ⟨tbW_mem (List.mem_of_getElem? (i := 884) (by decide +kernel)) rfl, tbW_mem (List.mem_of_getElem? (i := 885) (by decide +kernel)) rfl⟩
abbrev mX6_placeOf : MInf := (yX6_placeOf, cX6_placeOf, 2, (some .int), 1, 0, 0)
theorem oX6_placeOf : Cond.code yX6_placeOf cX6_placeOf 2 (some .int) ∈ tbW := tbW_mem (List.mem_of_getElem? (i := 925) (by decide +kernel)) rfl
theorem iX6_placeOf : Cond.instanceMethod yX6_placeOf ∈ tbW ∧ Cond.selects yX6_placeOf.cls yX6_placeOf yX6_placeOf ∈ tbW := ⟨tbW_mem (List.mem_of_getElem? (i := 924) (by decide +kernel)) rfl, tbW_mem (List.mem_of_getElem? (i := 29) (by decide +kernel)) rfl⟩
abbrev mX6_runQuarters : MInf := (yX6_runQuarters, cX6_runQuarters, 3, (none : Option Jvm.ClassFile.FieldType), 4, 0, 0)
theorem oX6_runQuarters : Cond.code yX6_runQuarters cX6_runQuarters 3 (none : Option Jvm.ClassFile.FieldType) ∈ tbW := tbW_mem (List.mem_of_getElem? (i := 900) (by decide +kernel)) rfl
theorem iX6_runQuarters : Cond.instanceMethod yX6_runQuarters ∈ tbW ∧ Cond.selects yX6_runQuarters.cls yX6_runQuarters yX6_runQuarters ∈ tbW := ⟨tbW_mem (List.mem_of_getElem? (i := 898) (by decide +kernel)) rfl, tbW_mem (List.mem_of_getElem? (i := 899) (by decide +kernel)) rfl⟩
abbrev mX6_sumOf : MInf := (yX6_sumOf, cX6_sumOf, 2, (some .int), 5, 0, 0)
theorem oX6_sumOf : Cond.code yX6_sumOf cX6_sumOf 2 (some .int) ∈ tbW := tbW_mem (List.mem_of_getElem? (i := 896) (by decide +kernel)) rfl
theorem iX6_sumOf : Cond.instanceMethod yX6_sumOf ∈ tbW ∧ Cond.selects yX6_sumOf.cls yX6_sumOf yX6_sumOf ∈ tbW := ⟨tbW_mem (List.mem_of_getElem? (i := 894) (by decide +kernel)) rfl, tbW_mem (List.mem_of_getElem? (i := 895) (by decide +kernel)) rfl⟩
abbrev mX6_findBest : MInf := (yX6_findBest, cX6_findBest, 5, (none : Option Jvm.ClassFile.FieldType), 5, 0, 0)
theorem oX6_findBest : Cond.code yX6_findBest cX6_findBest 5 (none : Option Jvm.ClassFile.FieldType) ∈ tbW := tbW_mem (List.mem_of_getElem? (i := 910) (by decide +kernel)) rfl
theorem iX6_findBest : Cond.instanceMethod yX6_findBest ∈ tbW ∧ Cond.selects yX6_findBest.cls yX6_findBest yX6_findBest ∈ tbW := ⟨tbW_mem (List.mem_of_getElem? (i := 908) (by decide +kernel)) rfl, tbW_mem (List.mem_of_getElem? (i := 909) (by decide +kernel)) rfl⟩
abbrev mX6_passOfDay : MInf := (yX6_passOfDay, cX6_passOfDay, 5, (none : Option Jvm.ClassFile.FieldType), 4, 0, 0)
theorem oX6_passOfDay : Cond.code yX6_passOfDay cX6_passOfDay 5 (none : Option Jvm.ClassFile.FieldType) ∈ tbW := tbW_mem (List.mem_of_getElem? (i := 920) (by decide +kernel)) rfl
theorem iX6_passOfDay : Cond.instanceMethod yX6_passOfDay ∈ tbW ∧ Cond.selects yX6_passOfDay.cls yX6_passOfDay yX6_passOfDay ∈ tbW := ⟨tbW_mem (List.mem_of_getElem? (i := 919) (by decide +kernel)) rfl, tbW_mem (List.mem_of_getElem? (i := 28) (by decide +kernel)) rfl⟩
abbrev mX6_judgeDay : MInf := (yX6_judgeDay, cX6_judgeDay, 6, (none : Option Jvm.ClassFile.FieldType), 1, 0, 0)
theorem oX6_judgeDay : Cond.code yX6_judgeDay cX6_judgeDay 6 (none : Option Jvm.ClassFile.FieldType) ∈ tbW := tbW_mem (List.mem_of_getElem? (i := 929) (by decide +kernel)) rfl
theorem iX6_judgeDay : Cond.instanceMethod yX6_judgeDay ∈ tbW ∧ Cond.selects yX6_judgeDay.cls yX6_judgeDay yX6_judgeDay ∈ tbW := ⟨tbW_mem (List.mem_of_getElem? (i := 928) (by decide +kernel)) rfl, tbW_mem (List.mem_of_getElem? (i := 30) (by decide +kernel)) rfl⟩
abbrev mX6_bestPlace : MInf := (yX6_bestPlace, cX6_bestPlace, 2, (some .int), 2, 0, 0)
theorem oX6_bestPlace : Cond.code yX6_bestPlace cX6_bestPlace 2 (some .int) ∈ tbW := tbW_mem (List.mem_of_getElem? (i := 937) (by decide +kernel)) rfl
theorem iX6_bestPlace : Cond.instanceMethod yX6_bestPlace ∈ tbW ∧ Cond.selects yX6_bestPlace.cls yX6_bestPlace yX6_bestPlace ∈ tbW := ⟨tbW_mem (List.mem_of_getElem? (i := 935) (by decide +kernel)) rfl, tbW_mem (List.mem_of_getElem? (i := 936) (by decide +kernel)) rfl⟩
abbrev mX6_settleAll : MInf := (yX6_settleAll, cX6_settleAll, 5, (some .int), 6, 0, 0)
theorem oX6_settleAll : Cond.code yX6_settleAll cX6_settleAll 5 (some .int) ∈ tbW := tbW_mem (List.mem_of_getElem? (i := 982) (by decide +kernel)) rfl
theorem iX6_settleAll : Cond.instanceMethod yX6_settleAll ∈ tbW ∧ Cond.selects yX6_settleAll.cls yX6_settleAll yX6_settleAll ∈ tbW := ⟨tbW_mem (List.mem_of_getElem? (i := 980) (by decide +kernel)) rfl, tbW_mem (List.mem_of_getElem? (i := 981) (by decide +kernel)) rfl⟩
abbrev mX6_planBest : MInf := (yX6_planBest, cX6_planBest, 3, (none : Option Jvm.ClassFile.FieldType), 3, 0, 0)
theorem oX6_planBest : Cond.code yX6_planBest cX6_planBest 3 (none : Option Jvm.ClassFile.FieldType) ∈ tbW := tbW_mem (List.mem_of_getElem? (i := 988) (by decide +kernel)) rfl
theorem iX6_planBest : Cond.instanceMethod yX6_planBest ∈ tbW ∧ Cond.selects yX6_planBest.cls yX6_planBest yX6_planBest ∈ tbW := ⟨tbW_mem (List.mem_of_getElem? (i := 987) (by decide +kernel)) rfl, tbW_mem (List.mem_of_getElem? (i := 37) (by decide +kernel)) rfl⟩
abbrev mX6_findRest : MInf := (yX6_findRest, cX6_findRest, 5, (some .int), 5, 0, 0)
theorem oX6_findRest : Cond.code yX6_findRest cX6_findRest 5 (some .int) ∈ tbW := tbW_mem (List.mem_of_getElem? (i := 945) (by decide +kernel)) rfl
theorem iX6_findRest : Cond.instanceMethod yX6_findRest ∈ tbW ∧ Cond.selects yX6_findRest.cls yX6_findRest yX6_findRest ∈ tbW := ⟨tbW_mem (List.mem_of_getElem? (i := 943) (by decide +kernel)) rfl, tbW_mem (List.mem_of_getElem? (i := 944) (by decide +kernel)) rfl⟩
abbrev mX6_beginRows : MInf := (yX6_beginRows, cX6_beginRows, 3, (none : Option Jvm.ClassFile.FieldType), 3, 0, 0)
theorem oX6_beginRows : Cond.code yX6_beginRows cX6_beginRows 3 (none : Option Jvm.ClassFile.FieldType) ∈ tbW := tbW_mem (List.mem_of_getElem? (i := 953) (by decide +kernel)) rfl
theorem iX6_beginRows : Cond.instanceMethod yX6_beginRows ∈ tbW ∧ Cond.selects yX6_beginRows.cls yX6_beginRows yX6_beginRows ∈ tbW := ⟨tbW_mem (List.mem_of_getElem? (i := 952) (by decide +kernel)) rfl, tbW_mem (List.mem_of_getElem? (i := 32) (by decide +kernel)) rfl⟩
abbrev mX6_wishRow : MInf := (yX6_wishRow, cX6_wishRow, 2, (none : Option Jvm.ClassFile.FieldType), 2, 0, 0)
theorem oX6_wishRow : Cond.code yX6_wishRow cX6_wishRow 2 (none : Option Jvm.ClassFile.FieldType) ∈ tbW := tbW_mem (List.mem_of_getElem? (i := 957) (by decide +kernel)) rfl
theorem iX6_wishRow : Cond.instanceMethod yX6_wishRow ∈ tbW ∧ Cond.selects yX6_wishRow.cls yX6_wishRow yX6_wishRow ∈ tbW := ⟨tbW_mem (List.mem_of_getElem? (i := 956) (by decide +kernel)) rfl, tbW_mem (List.mem_of_getElem? (i := 33) (by decide +kernel)) rfl⟩
abbrev mX6_gainByWishes : MInf := (yX6_gainByWishes, cX6_gainByWishes, 2, (some .int), 4, 0, 0)
theorem oX6_gainByWishes : Cond.code yX6_gainByWishes cX6_gainByWishes 2 (some .int) ∈ tbW := tbW_mem (List.mem_of_getElem? (i := 1032) (by decide +kernel)) rfl
theorem iX6_gainByWishes : Cond.instanceMethod yX6_gainByWishes ∈ tbW ∧ Cond.selects yX6_gainByWishes.cls yX6_gainByWishes yX6_gainByWishes ∈ tbW := ⟨tbW_mem (List.mem_of_getElem? (i := 1031) (by decide +kernel)) rfl, tbW_mem (List.mem_of_getElem? (i := 42) (by decide +kernel)) rfl⟩
abbrev mX6_fillGains : MInf := (yX6_fillGains, cX6_fillGains, 3, (none : Option Jvm.ClassFile.FieldType), 4, 0, 0)
theorem oX6_fillGains : Cond.code yX6_fillGains cX6_fillGains 3 (none : Option Jvm.ClassFile.FieldType) ∈ tbW := tbW_mem (List.mem_of_getElem? (i := 949) (by decide +kernel)) rfl
theorem iX6_fillGains : Cond.instanceMethod yX6_fillGains ∈ tbW ∧ Cond.selects yX6_fillGains.cls yX6_fillGains yX6_fillGains ∈ tbW := ⟨tbW_mem (List.mem_of_getElem? (i := 948) (by decide +kernel)) rfl, tbW_mem (List.mem_of_getElem? (i := 31) (by decide +kernel)) rfl⟩
abbrev mX6_packedGains : MInf := (yX6_packedGains, cX6_packedGains, 4, (some .long), 1, 0, 0)
theorem oX6_packedGains : Cond.code yX6_packedGains cX6_packedGains 4 (some .long) ∈ tbW := tbW_mem (List.mem_of_getElem? (i := 961) (by decide +kernel)) rfl
theorem iX6_packedGains : Cond.instanceMethod yX6_packedGains ∈ tbW ∧ Cond.selects yX6_packedGains.cls yX6_packedGains yX6_packedGains ∈ tbW := ⟨tbW_mem (List.mem_of_getElem? (i := 960) (by decide +kernel)) rfl, tbW_mem (List.mem_of_getElem? (i := 34) (by decide +kernel)) rfl⟩
abbrev mX6_isRest : MInf := (yX6_isRest, cX6_isRest, 5, (some .boolean), 2, 0, 0)
theorem oX6_isRest : Cond.code yX6_isRest cX6_isRest 5 (some .boolean) ∈ tbW := tbW_mem (List.mem_of_getElem? (i := 965) (by decide +kernel)) rfl
theorem iX6_isRest : Cond.instanceMethod yX6_isRest ∈ tbW ∧ Cond.selects yX6_isRest.cls yX6_isRest yX6_isRest ∈ tbW := ⟨tbW_mem (List.mem_of_getElem? (i := 964) (by decide +kernel)) rfl, tbW_mem (List.mem_of_getElem? (i := 35) (by decide +kernel)) rfl⟩
abbrev mX6_gainAt : MInf := (yX6_gainAt, cX6_gainAt, 3, (some .int), 1, 0, 0)
theorem oX6_gainAt : Cond.code yX6_gainAt cX6_gainAt 3 (some .int) ∈ tbW := tbW_mem (List.mem_of_getElem? (i := 969) (by decide +kernel)) rfl
theorem iX6_gainAt : Cond.instanceMethod yX6_gainAt ∈ tbW ∧ Cond.selects yX6_gainAt.cls yX6_gainAt yX6_gainAt ∈ tbW := ⟨tbW_mem (List.mem_of_getElem? (i := 968) (by decide +kernel)) rfl, tbW_mem (List.mem_of_getElem? (i := 36) (by decide +kernel)) rfl⟩
abbrev mX6_holds : MInf := (yX6_holds, cX6_holds, 4, (some .boolean), 6, 0, 0)
theorem oX6_holds : Cond.code yX6_holds cX6_holds 4 (some .boolean) ∈ tbW := tbW_mem (List.mem_of_getElem? (i := 1003) (by decide +kernel)) rfl
theorem iX6_holds : Cond.instanceMethod yX6_holds ∈ tbW ∧ Cond.selects yX6_holds.cls yX6_holds yX6_holds ∈ tbW := ⟨tbW_mem (List.mem_of_getElem? (i := 1001) (by decide +kernel)) rfl, tbW_mem (List.mem_of_getElem? (i := 1002) (by decide +kernel)) rfl⟩
abbrev mX6_findRings : MInf := (yX6_findRings, cX6_findRings, 3, (none : Option Jvm.ClassFile.FieldType), 6, 0, 0)
theorem oX6_findRings : Cond.code yX6_findRings cX6_findRings 3 (none : Option Jvm.ClassFile.FieldType) ∈ tbW := tbW_mem (List.mem_of_getElem? (i := 1012) (by decide +kernel)) rfl
theorem iX6_findRings : Cond.instanceMethod yX6_findRings ∈ tbW ∧ Cond.selects yX6_findRings.cls yX6_findRings yX6_findRings ∈ tbW := ⟨tbW_mem (List.mem_of_getElem? (i := 1010) (by decide +kernel)) rfl, tbW_mem (List.mem_of_getElem? (i := 1011) (by decide +kernel)) rfl⟩
abbrev mX6_canRing : MInf := (yX6_canRing, cX6_canRing, 3, (some .boolean), 2, 0, 0)
theorem oX6_canRing : Cond.code yX6_canRing cX6_canRing 3 (some .boolean) ∈ tbW := tbW_mem (List.mem_of_getElem? (i := 1016) (by decide +kernel)) rfl
theorem iX6_canRing : Cond.instanceMethod yX6_canRing ∈ tbW ∧ Cond.selects yX6_canRing.cls yX6_canRing yX6_canRing ∈ tbW := ⟨tbW_mem (List.mem_of_getElem? (i := 1015) (by decide +kernel)) rfl, tbW_mem (List.mem_of_getElem? (i := 38) (by decide +kernel)) rfl⟩
abbrev mX6_goRound : MInf := (yX6_goRound, cX6_goRound, 4, (some .boolean), 1, 0, 0)
theorem oX6_goRound : Cond.code yX6_goRound cX6_goRound 4 (some .boolean) ∈ tbW := tbW_mem (List.mem_of_getElem? (i := 1020) (by decide +kernel)) rfl
theorem iX6_goRound : Cond.instanceMethod yX6_goRound ∈ tbW ∧ Cond.selects yX6_goRound.cls yX6_goRound yX6_goRound ∈ tbW := ⟨tbW_mem (List.mem_of_getElem? (i := 1019) (by decide +kernel)) rfl, tbW_mem (List.mem_of_getElem? (i := 39) (by decide +kernel)) rfl⟩
abbrev mX6_isRing : MInf := (yX6_isRing, cX6_isRing, 4, (some .boolean), 5, 0, 0)
theorem oX6_isRing : Cond.code yX6_isRing cX6_isRing 4 (some .boolean) ∈ tbW := tbW_mem (List.mem_of_getElem? (i := 1024) (by decide +kernel)) rfl
theorem iX6_isRing : Cond.instanceMethod yX6_isRing ∈ tbW ∧ Cond.selects yX6_isRing.cls yX6_isRing yX6_isRing ∈ tbW := ⟨tbW_mem (List.mem_of_getElem? (i := 1023) (by decide +kernel)) rfl, tbW_mem (List.mem_of_getElem? (i := 40) (by decide +kernel)) rfl⟩
abbrev mX6_wishRing : MInf := (yX6_wishRing, cX6_wishRing, 2, (none : Option Jvm.ClassFile.FieldType), 3, 0, 0)
theorem oX6_wishRing : Cond.code yX6_wishRing cX6_wishRing 2 (none : Option Jvm.ClassFile.FieldType) ∈ tbW := tbW_mem (List.mem_of_getElem? (i := 1028) (by decide +kernel)) rfl
theorem iX6_wishRing : Cond.instanceMethod yX6_wishRing ∈ tbW ∧ Cond.selects yX6_wishRing.cls yX6_wishRing yX6_wishRing ∈ tbW := ⟨tbW_mem (List.mem_of_getElem? (i := 1027) (by decide +kernel)) rfl, tbW_mem (List.mem_of_getElem? (i := 41) (by decide +kernel)) rfl⟩
abbrev mX6_ringNumber : MInf := (yX6_ringNumber, cX6_ringNumber, 3, (some .int), 1, 0, 0)
theorem oX6_ringNumber : Cond.code yX6_ringNumber cX6_ringNumber 3 (some .int) ∈ tbW := tbW_mem (List.mem_of_getElem? (i := 1036) (by decide +kernel)) rfl
theorem iX6_ringNumber : Cond.instanceMethod yX6_ringNumber ∈ tbW ∧ Cond.selects yX6_ringNumber.cls yX6_ringNumber yX6_ringNumber ∈ tbW := ⟨tbW_mem (List.mem_of_getElem? (i := 1035) (by decide +kernel)) rfl, tbW_mem (List.mem_of_getElem? (i := 43) (by decide +kernel)) rfl⟩
abbrev mX6_bestQuarterOut : MInf := (yX6_bestQuarterOut, cX6_bestQuarterOut, 8, (some .int), 6, 0, 0)
theorem oX6_bestQuarterOut : Cond.code yX6_bestQuarterOut cX6_bestQuarterOut 8 (some .int) ∈ tbW := tbW_mem (List.mem_of_getElem? (i := 1044) (by decide +kernel)) rfl
theorem iX6_bestQuarterOut : Cond.instanceMethod yX6_bestQuarterOut ∈ tbW ∧ Cond.selects yX6_bestQuarterOut.cls yX6_bestQuarterOut yX6_bestQuarterOut ∈ tbW := ⟨tbW_mem (List.mem_of_getElem? (i := 1042) (by decide +kernel)) rfl, tbW_mem (List.mem_of_getElem? (i := 1043) (by decide +kernel)) rfl⟩
abbrev mX6_leastAfter : MInf := (yX6_leastAfter, cX6_leastAfter, 4, (some .int), 6, 0, 0)
theorem oX6_leastAfter : Cond.code yX6_leastAfter cX6_leastAfter 4 (some .int) ∈ tbW := tbW_mem (List.mem_of_getElem? (i := 1052) (by decide +kernel)) rfl
theorem iX6_leastAfter : Cond.instanceMethod yX6_leastAfter ∈ tbW ∧ Cond.selects yX6_leastAfter.cls yX6_leastAfter yX6_leastAfter ∈ tbW := ⟨tbW_mem (List.mem_of_getElem? (i := 1050) (by decide +kernel)) rfl, tbW_mem (List.mem_of_getElem? (i := 1051) (by decide +kernel)) rfl⟩
abbrev mX6_bestLets : MInf := (yX6_bestLets, cX6_bestLets, 6, (some .int), 6, 0, 0)
theorem oX6_bestLets : Cond.code yX6_bestLets cX6_bestLets 6 (some .int) ∈ tbW := tbW_mem (List.mem_of_getElem? (i := 1106) (by decide +kernel)) rfl
theorem iX6_bestLets : Cond.instanceMethod yX6_bestLets ∈ tbW ∧ Cond.selects yX6_bestLets.cls yX6_bestLets yX6_bestLets ∈ tbW := ⟨tbW_mem (List.mem_of_getElem? (i := 1104) (by decide +kernel)) rfl, tbW_mem (List.mem_of_getElem? (i := 1105) (by decide +kernel)) rfl⟩
abbrev mX6_leastWorth : MInf := (yX6_leastWorth, cX6_leastWorth, 7, (some .int), 6, 0, 0)
theorem oX6_leastWorth : Cond.code yX6_leastWorth cX6_leastWorth 7 (some .int) ∈ tbW := tbW_mem (List.mem_of_getElem? (i := 1114) (by decide +kernel)) rfl
theorem iX6_leastWorth : Cond.instanceMethod yX6_leastWorth ∈ tbW ∧ Cond.selects yX6_leastWorth.cls yX6_leastWorth yX6_leastWorth ∈ tbW := ⟨tbW_mem (List.mem_of_getElem? (i := 1112) (by decide +kernel)) rfl, tbW_mem (List.mem_of_getElem? (i := 1113) (by decide +kernel)) rfl⟩
abbrev mX6_bestChairs : MInf := (yX6_bestChairs, cX6_bestChairs, 6, (some .int), 6, 0, 0)
theorem oX6_bestChairs : Cond.code yX6_bestChairs cX6_bestChairs 6 (some .int) ∈ tbW := tbW_mem (List.mem_of_getElem? (i := 1122) (by decide +kernel)) rfl
theorem iX6_bestChairs : Cond.instanceMethod yX6_bestChairs ∈ tbW ∧ Cond.selects yX6_bestChairs.cls yX6_bestChairs yX6_bestChairs ∈ tbW := ⟨tbW_mem (List.mem_of_getElem? (i := 1120) (by decide +kernel)) rfl, tbW_mem (List.mem_of_getElem? (i := 1121) (by decide +kernel)) rfl⟩
abbrev mX6_runLaw : MInf := (yX6_runLaw, cX6_runLaw, 4, (none : Option Jvm.ClassFile.FieldType), 5, 0, 0)
theorem oX6_runLaw : Cond.code yX6_runLaw cX6_runLaw 4 (none : Option Jvm.ClassFile.FieldType) ∈ tbW := tbW_mem (List.mem_of_getElem? (i := 1060) (by decide +kernel)) rfl
theorem iX6_runLaw : Cond.instanceMethod yX6_runLaw ∈ tbW ∧ Cond.selects yX6_runLaw.cls yX6_runLaw yX6_runLaw ∈ tbW := ⟨tbW_mem (List.mem_of_getElem? (i := 1058) (by decide +kernel)) rfl, tbW_mem (List.mem_of_getElem? (i := 1059) (by decide +kernel)) rfl⟩
abbrev mX6_gainOfAll : MInf := (yX6_gainOfAll, cX6_gainOfAll, 3, (some .int), 1, 0, 0)
theorem oX6_gainOfAll : Cond.code yX6_gainOfAll cX6_gainOfAll 3 (some .int) ∈ tbW := tbW_mem (List.mem_of_getElem? (i := 1064) (by decide +kernel)) rfl
theorem iX6_gainOfAll : Cond.instanceMethod yX6_gainOfAll ∈ tbW ∧ Cond.selects yX6_gainOfAll.cls yX6_gainOfAll yX6_gainOfAll ∈ tbW := ⟨tbW_mem (List.mem_of_getElem? (i := 1062) (by decide +kernel)) rfl, tbW_mem (List.mem_of_getElem? (i := 1063) (by decide +kernel)) rfl⟩
abbrev mX6_stateLost : MInf := (yX6_stateLost, cX6_stateLost, 3, (some .int), 1, 0, 0)
theorem oX6_stateLost : Cond.code yX6_stateLost cX6_stateLost 3 (some .int) ∈ tbW := tbW_mem (List.mem_of_getElem? (i := 1068) (by decide +kernel)) rfl
theorem iX6_stateLost : Cond.instanceMethod yX6_stateLost ∈ tbW ∧ Cond.selects yX6_stateLost.cls yX6_stateLost yX6_stateLost ∈ tbW := ⟨tbW_mem (List.mem_of_getElem? (i := 1066) (by decide +kernel)) rfl, tbW_mem (List.mem_of_getElem? (i := 1067) (by decide +kernel)) rfl⟩
abbrev mX6_greatestLaw : MInf := (yX6_greatestLaw, cX6_greatestLaw, 6, (some .int), 6, 0, 0)
theorem oX6_greatestLaw : Cond.code yX6_greatestLaw cX6_greatestLaw 6 (some .int) ∈ tbW := tbW_mem (List.mem_of_getElem? (i := 1076) (by decide +kernel)) rfl
theorem iX6_greatestLaw : Cond.instanceMethod yX6_greatestLaw ∈ tbW ∧ Cond.selects yX6_greatestLaw.cls yX6_greatestLaw yX6_greatestLaw ∈ tbW := ⟨tbW_mem (List.mem_of_getElem? (i := 1074) (by decide +kernel)) rfl, tbW_mem (List.mem_of_getElem? (i := 1075) (by decide +kernel)) rfl⟩
abbrev mX7_init : MInf := (yX7_init, cX7_init, 1, (none : Option Jvm.ClassFile.FieldType), 1, 10, 71)
theorem oX7_init : Cond.code yX7_init cX7_init 1 (none : Option Jvm.ClassFile.FieldType) ∈ tbW := tbW_mem (List.mem_of_getElem? (i := 176) (by decide +kernel)) rfl
theorem iX7_init : Cond.instanceMethod yX7_init ∈ tbW := tbW_mem (List.mem_of_getElem? (i := 175) (by decide +kernel)) rfl
abbrev mX7_clear : MInf := (yX7_clear, cX7_clear, 2, (none : Option Jvm.ClassFile.FieldType), 1, 0, 0)
theorem oX7_clear : Cond.code yX7_clear cX7_clear 2 (none : Option Jvm.ClassFile.FieldType) ∈ tbW := tbW_mem (List.mem_of_getElem? (i := 494) (by decide +kernel)) rfl
theorem iX7_clear : Cond.instanceMethod yX7_clear ∈ tbW ∧ Cond.selects yX7_clear.cls yX7_clear yX7_clear ∈ tbW := ⟨tbW_mem (List.mem_of_getElem? (i := 492) (by decide +kernel)) rfl, tbW_mem (List.mem_of_getElem? (i := 493) (by decide +kernel)) rfl⟩
abbrev mX7_copyFrom : MInf := (yX7_copyFrom, cX7_copyFrom, 2, (none : Option Jvm.ClassFile.FieldType), 1, 0, 0)
theorem oX7_copyFrom : Cond.code yX7_copyFrom cX7_copyFrom 2 (none : Option Jvm.ClassFile.FieldType) ∈ tbW := tbW_mem (List.mem_of_getElem? (i := 890) (by decide +kernel)) rfl
theorem iX7_copyFrom : Cond.instanceMethod yX7_copyFrom ∈ tbW ∧ Cond.selects yX7_copyFrom.cls yX7_copyFrom yX7_copyFrom ∈ tbW := ⟨tbW_mem (List.mem_of_getElem? (i := 888) (by decide +kernel)) rfl, tbW_mem (List.mem_of_getElem? (i := 889) (by decide +kernel)) rfl⟩
abbrev mX7_mustWork : MInf := (yX7_mustWork, cX7_mustWork, 3, (some .boolean), 1, 0, 0)
theorem oX7_mustWork : Cond.code yX7_mustWork cX7_mustWork 3 (some .boolean) ∈ tbW := tbW_mem (List.mem_of_getElem? (i := 791) (by decide +kernel)) rfl
theorem iX7_mustWork : Cond.instanceMethod yX7_mustWork ∈ tbW ∧ Cond.selects yX7_mustWork.cls yX7_mustWork yX7_mustWork ∈ tbW := ⟨tbW_mem (List.mem_of_getElem? (i := 789) (by decide +kernel)) rfl, tbW_mem (List.mem_of_getElem? (i := 790) (by decide +kernel)) rfl⟩
abbrev mX7_houseNamed : MInf := (yX7_houseNamed, cX7_houseNamed, 3, (some .int), 2, 0, 0)
theorem oX7_houseNamed : Cond.code yX7_houseNamed cX7_houseNamed 3 (some .int) ∈ tbW := tbW_mem (List.mem_of_getElem? (i := 659) (by decide +kernel)) rfl
theorem iX7_houseNamed : Cond.instanceMethod yX7_houseNamed ∈ tbW ∧ Cond.selects yX7_houseNamed.cls yX7_houseNamed yX7_houseNamed ∈ tbW := ⟨tbW_mem (List.mem_of_getElem? (i := 657) (by decide +kernel)) rfl, tbW_mem (List.mem_of_getElem? (i := 658) (by decide +kernel)) rfl⟩
abbrev mX7_personNamed : MInf := (yX7_personNamed, cX7_personNamed, 3, (some .int), 2, 0, 0)
theorem oX7_personNamed : Cond.code yX7_personNamed cX7_personNamed 3 (some .int) ∈ tbW := tbW_mem (List.mem_of_getElem? (i := 666) (by decide +kernel)) rfl
theorem iX7_personNamed : Cond.instanceMethod yX7_personNamed ∈ tbW ∧ Cond.selects yX7_personNamed.cls yX7_personNamed yX7_personNamed ∈ tbW := ⟨tbW_mem (List.mem_of_getElem? (i := 664) (by decide +kernel)) rfl, tbW_mem (List.mem_of_getElem? (i := 665) (by decide +kernel)) rfl⟩
abbrev mX7_find : MInf := (yX7_find, cX7_find, 5, (some .int), 1, 0, 0)
theorem oX7_find : Cond.code yX7_find cX7_find 5 (some .int) ∈ tbW := tbW_mem (List.mem_of_getElem? (i := 662) (by decide +kernel)) rfl
theorem sX7_find : Cond.static yX7_find ∈ tbW := tbW_mem (List.mem_of_getElem? (i := 661) (by decide +kernel)) rfl
abbrev mX8_init : MInf := (yX8_init, cX8_init, 1, (none : Option Jvm.ClassFile.FieldType), 1, 2, 25)
theorem oX8_init : Cond.code yX8_init cX8_init 1 (none : Option Jvm.ClassFile.FieldType) ∈ tbW := tbW_mem (List.mem_of_getElem? (i := 350) (by decide +kernel)) rfl
theorem iX8_init : Cond.instanceMethod yX8_init ∈ tbW := tbW_mem (List.mem_of_getElem? (i := 349) (by decide +kernel)) rfl
abbrev mX8_begin : MInf := (yX8_begin, cX8_begin, 3, (none : Option Jvm.ClassFile.FieldType), 2, 0, 0)
theorem oX8_begin : Cond.code yX8_begin cX8_begin 3 (none : Option Jvm.ClassFile.FieldType) ∈ tbW := tbW_mem (List.mem_of_getElem? (i := 511) (by decide +kernel)) rfl
theorem iX8_begin : Cond.instanceMethod yX8_begin ∈ tbW ∧ Cond.selects yX8_begin.cls yX8_begin yX8_begin ∈ tbW := ⟨tbW_mem (List.mem_of_getElem? (i := 509) (by decide +kernel)) rfl, tbW_mem (List.mem_of_getElem? (i := 510) (by decide +kernel)) rfl⟩
abbrev mX8_copyFrom : MInf := (yX8_copyFrom, cX8_copyFrom, 2, (none : Option Jvm.ClassFile.FieldType), 1, 0, 0)
theorem oX8_copyFrom : Cond.code yX8_copyFrom cX8_copyFrom 2 (none : Option Jvm.ClassFile.FieldType) ∈ tbW := tbW_mem (List.mem_of_getElem? (i := 873) (by decide +kernel)) rfl
theorem iX8_copyFrom : Cond.instanceMethod yX8_copyFrom ∈ tbW ∧ Cond.selects yX8_copyFrom.cls yX8_copyFrom yX8_copyFrom ∈ tbW := ⟨tbW_mem (List.mem_of_getElem? (i := 871) (by decide +kernel)) rfl, tbW_mem (List.mem_of_getElem? (i := 872) (by decide +kernel)) rfl⟩
abbrev mX8_planEach : MInf := (yX8_planEach, cX8_planEach, 4, (none : Option Jvm.ClassFile.FieldType), 1, 0, 0)
theorem oX8_planEach : Cond.code yX8_planEach cX8_planEach 4 (none : Option Jvm.ClassFile.FieldType) ∈ tbW := tbW_mem (List.mem_of_getElem? (i := 515) (by decide +kernel)) rfl
theorem iX8_planEach : Cond.instanceMethod yX8_planEach ∈ tbW ∧ Cond.selects yX8_planEach.cls yX8_planEach yX8_planEach ∈ tbW := ⟨tbW_mem (List.mem_of_getElem? (i := 513) (by decide +kernel)) rfl, tbW_mem (List.mem_of_getElem? (i := 514) (by decide +kernel)) rfl⟩
abbrev mX8_fillWishes : MInf := (yX8_fillWishes, cX8_fillWishes, 5, (none : Option Jvm.ClassFile.FieldType), 2, 0, 0)
theorem oX8_fillWishes : Cond.code yX8_fillWishes cX8_fillWishes 5 (none : Option Jvm.ClassFile.FieldType) ∈ tbW := tbW_mem (List.mem_of_getElem? (i := 787) (by decide +kernel)) rfl
theorem iX8_fillWishes : Cond.instanceMethod yX8_fillWishes ∈ tbW ∧ Cond.selects yX8_fillWishes.cls yX8_fillWishes yX8_fillWishes ∈ tbW := ⟨tbW_mem (List.mem_of_getElem? (i := 785) (by decide +kernel)) rfl, tbW_mem (List.mem_of_getElem? (i := 786) (by decide +kernel)) rfl⟩
abbrev mX9_init : MInf := (yX9_init, cX9_init, 2, (none : Option Jvm.ClassFile.FieldType), 4, 158, 10077)
theorem oX9_init : Cond.code yX9_init cX9_init 2 (none : Option Jvm.ClassFile.FieldType) ∈ tbW := tbW_mem (List.mem_of_getElem? (i := 126) (by decide +kernel)) rfl
theorem iX9_init : Cond.instanceMethod yX9_init ∈ tbW := tbW_mem (List.mem_of_getElem? (i := 125) (by decide +kernel)) rfl
abbrev mX9_feed : MInf := (yX9_feed, cX9_feed, 6, (some .int), 2, 0, 0)
theorem oX9_feed : Cond.code yX9_feed cX9_feed 6 (some .int) ∈ tbW := tbW_mem (List.mem_of_getElem? (i := 547) (by decide +kernel)) rfl
theorem iX9_feed : Cond.instanceMethod yX9_feed ∈ tbW ∧ Cond.selects yX9_feed.cls yX9_feed yX9_feed ∈ tbW := ⟨tbW_mem (List.mem_of_getElem? (i := 545) (by decide +kernel)) rfl, tbW_mem (List.mem_of_getElem? (i := 546) (by decide +kernel)) rfl⟩
abbrev mX9_end : MInf := (yX9_end, cX9_end, 2, (some .int), 1, 0, 0)
theorem oX9_end : Cond.code yX9_end cX9_end 2 (some .int) ∈ tbW := tbW_mem (List.mem_of_getElem? (i := 555) (by decide +kernel)) rfl
theorem iX9_end : Cond.instanceMethod yX9_end ∈ tbW ∧ Cond.selects yX9_end.cls yX9_end yX9_end ∈ tbW := ⟨tbW_mem (List.mem_of_getElem? (i := 553) (by decide +kernel)) rfl, tbW_mem (List.mem_of_getElem? (i := 554) (by decide +kernel)) rfl⟩
abbrev mX9_village : MInf := (yX9_village, cX9_village, 4, (some .int), 11, 0, 0)
theorem oX9_village : Cond.code yX9_village cX9_village 4 (some .int) ∈ tbW := tbW_mem (List.mem_of_getElem? (i := 559) (by decide +kernel)) rfl
theorem iX9_village : Cond.instanceMethod yX9_village ∈ tbW ∧ Cond.selects yX9_village.cls yX9_village yX9_village ∈ tbW := ⟨tbW_mem (List.mem_of_getElem? (i := 557) (by decide +kernel)) rfl, tbW_mem (List.mem_of_getElem? (i := 558) (by decide +kernel)) rfl⟩
abbrev mX9_fault : MInf := (yX9_fault, cX9_fault, 2, (some .int), 1, 0, 0)
theorem oX9_fault : Cond.code yX9_fault cX9_fault 2 (some .int) ∈ tbW := tbW_mem (List.mem_of_getElem? (i := 726) (by decide +kernel)) rfl
theorem iX9_fault : Cond.instanceMethod yX9_fault ∈ tbW ∧ Cond.selects yX9_fault.cls yX9_fault yX9_fault ∈ tbW := ⟨tbW_mem (List.mem_of_getElem? (i := 724) (by decide +kernel)) rfl, tbW_mem (List.mem_of_getElem? (i := 725) (by decide +kernel)) rfl⟩
abbrev mX9_told : MInf := (yX9_told, cX9_told, 3, (some .int), 3, 0, 0)
theorem oX9_told : Cond.code yX9_told cX9_told 3 (some .int) ∈ tbW := tbW_mem (List.mem_of_getElem? (i := 730) (by decide +kernel)) rfl
theorem iX9_told : Cond.instanceMethod yX9_told ∈ tbW ∧ Cond.selects yX9_told.cls yX9_told yX9_told ∈ tbW := ⟨tbW_mem (List.mem_of_getElem? (i := 728) (by decide +kernel)) rfl, tbW_mem (List.mem_of_getElem? (i := 729) (by decide +kernel)) rfl⟩
abbrev mX9_toldOfHouse : MInf := (yX9_toldOfHouse, cX9_toldOfHouse, 3, (some .int), 2, 0, 0)
theorem oX9_toldOfHouse : Cond.code yX9_toldOfHouse cX9_toldOfHouse 3 (some .int) ∈ tbW := tbW_mem (List.mem_of_getElem? (i := 734) (by decide +kernel)) rfl
theorem iX9_toldOfHouse : Cond.instanceMethod yX9_toldOfHouse ∈ tbW ∧ Cond.selects yX9_toldOfHouse.cls yX9_toldOfHouse yX9_toldOfHouse ∈ tbW := ⟨tbW_mem (List.mem_of_getElem? (i := 733) (by decide +kernel)) rfl, tbW_mem (List.mem_of_getElem? (i := 16) (by decide +kernel)) rfl⟩
abbrev mX9_toldOfPerson : MInf := (yX9_toldOfPerson, cX9_toldOfPerson, 3, (some .int), 2, 0, 0)
theorem oX9_toldOfPerson : Cond.code yX9_toldOfPerson cX9_toldOfPerson 3 (some .int) ∈ tbW := tbW_mem (List.mem_of_getElem? (i := 742) (by decide +kernel)) rfl
theorem iX9_toldOfPerson : Cond.instanceMethod yX9_toldOfPerson ∈ tbW ∧ Cond.selects yX9_toldOfPerson.cls yX9_toldOfPerson yX9_toldOfPerson ∈ tbW := ⟨tbW_mem (List.mem_of_getElem? (i := 741) (by decide +kernel)) rfl, tbW_mem (List.mem_of_getElem? (i := 18) (by decide +kernel)) rfl⟩
abbrev mX9_tie : MInf := (yX9_tie, cX9_tie, 3, (some .int), 3, 0, 0)
theorem oX9_tie : Cond.code yX9_tie cX9_tie 3 (some .int) ∈ tbW := tbW_mem (List.mem_of_getElem? (i := 750) (by decide +kernel)) rfl
theorem iX9_tie : Cond.instanceMethod yX9_tie ∈ tbW ∧ Cond.selects yX9_tie.cls yX9_tie yX9_tie ∈ tbW := ⟨tbW_mem (List.mem_of_getElem? (i := 748) (by decide +kernel)) rfl, tbW_mem (List.mem_of_getElem? (i := 749) (by decide +kernel)) rfl⟩
abbrev mX9_plan : MInf := (yX9_plan, cX9_plan, 3, (some .int), 3, 0, 0)
theorem oX9_plan : Cond.code yX9_plan cX9_plan 3 (some .int) ∈ tbW := tbW_mem (List.mem_of_getElem? (i := 758) (by decide +kernel)) rfl
theorem iX9_plan : Cond.instanceMethod yX9_plan ∈ tbW ∧ Cond.selects yX9_plan.cls yX9_plan yX9_plan ∈ tbW := ⟨tbW_mem (List.mem_of_getElem? (i := 756) (by decide +kernel)) rfl, tbW_mem (List.mem_of_getElem? (i := 757) (by decide +kernel)) rfl⟩
abbrev mX9_readPlan : MInf := (yX9_readPlan, cX9_readPlan, 4, (some .int), 2, 0, 0)
theorem oX9_readPlan : Cond.code yX9_readPlan cX9_readPlan 4 (some .int) ∈ tbW := tbW_mem (List.mem_of_getElem? (i := 762) (by decide +kernel)) rfl
theorem iX9_readPlan : Cond.instanceMethod yX9_readPlan ∈ tbW ∧ Cond.selects yX9_readPlan.cls yX9_readPlan yX9_readPlan ∈ tbW := ⟨tbW_mem (List.mem_of_getElem? (i := 761) (by decide +kernel)) rfl, tbW_mem (List.mem_of_getElem? (i := 21) (by decide +kernel)) rfl⟩
abbrev mX9_planned : MInf := (yX9_planned, cX9_planned, 3, (some .int), 2, 0, 0)
theorem oX9_planned : Cond.code yX9_planned cX9_planned 3 (some .int) ∈ tbW := tbW_mem (List.mem_of_getElem? (i := 767) (by decide +kernel)) rfl
theorem iX9_planned : Cond.instanceMethod yX9_planned ∈ tbW ∧ Cond.selects yX9_planned.cls yX9_planned yX9_planned ∈ tbW := ⟨tbW_mem (List.mem_of_getElem? (i := 765) (by decide +kernel)) rfl, tbW_mem (List.mem_of_getElem? (i := 766) (by decide +kernel)) rfl⟩
abbrev mX9_lets : MInf := (yX9_lets, cX9_lets, 4, (some .int), 2, 0, 0)
theorem oX9_lets : Cond.code yX9_lets cX9_lets 4 (some .int) ∈ tbW := tbW_mem (List.mem_of_getElem? (i := 771) (by decide +kernel)) rfl
theorem iX9_lets : Cond.instanceMethod yX9_lets ∈ tbW ∧ Cond.selects yX9_lets.cls yX9_lets yX9_lets ∈ tbW := ⟨tbW_mem (List.mem_of_getElem? (i := 769) (by decide +kernel)) rfl, tbW_mem (List.mem_of_getElem? (i := 770) (by decide +kernel)) rfl⟩
abbrev mX9_chance : MInf := (yX9_chance, cX9_chance, 2, (some .int), 1, 0, 0)
theorem oX9_chance : Cond.code yX9_chance cX9_chance 2 (some .int) ∈ tbW := tbW_mem (List.mem_of_getElem? (i := 775) (by decide +kernel)) rfl
theorem iX9_chance : Cond.instanceMethod yX9_chance ∈ tbW ∧ Cond.selects yX9_chance.cls yX9_chance yX9_chance ∈ tbW := ⟨tbW_mem (List.mem_of_getElem? (i := 773) (by decide +kernel)) rfl, tbW_mem (List.mem_of_getElem? (i := 774) (by decide +kernel)) rfl⟩
abbrev mX9_pass : MInf := (yX9_pass, cX9_pass, 3, (some .int), 5, 0, 0)
theorem oX9_pass : Cond.code yX9_pass cX9_pass 3 (some .int) ∈ tbW := tbW_mem (List.mem_of_getElem? (i := 779) (by decide +kernel)) rfl
theorem iX9_pass : Cond.instanceMethod yX9_pass ∈ tbW ∧ Cond.selects yX9_pass.cls yX9_pass yX9_pass ∈ tbW := ⟨tbW_mem (List.mem_of_getElem? (i := 777) (by decide +kernel)) rfl, tbW_mem (List.mem_of_getElem? (i := 778) (by decide +kernel)) rfl⟩
abbrev mX9_who : MInf := (yX9_who, cX9_who, 3, (some .int), 2, 0, 0)
theorem oX9_who : Cond.code yX9_who cX9_who 3 (some .int) ∈ tbW := tbW_mem (List.mem_of_getElem? (i := 841) (by decide +kernel)) rfl
theorem iX9_who : Cond.instanceMethod yX9_who ∈ tbW ∧ Cond.selects yX9_who.cls yX9_who yX9_who ∈ tbW := ⟨tbW_mem (List.mem_of_getElem? (i := 839) (by decide +kernel)) rfl, tbW_mem (List.mem_of_getElem? (i := 840) (by decide +kernel)) rfl⟩
abbrev mX9_house : MInf := (yX9_house, cX9_house, 3, (some .int), 2, 0, 0)
theorem oX9_house : Cond.code yX9_house cX9_house 3 (some .int) ∈ tbW := tbW_mem (List.mem_of_getElem? (i := 846) (by decide +kernel)) rfl
theorem iX9_house : Cond.instanceMethod yX9_house ∈ tbW ∧ Cond.selects yX9_house.cls yX9_house yX9_house ∈ tbW := ⟨tbW_mem (List.mem_of_getElem? (i := 844) (by decide +kernel)) rfl, tbW_mem (List.mem_of_getElem? (i := 845) (by decide +kernel)) rfl⟩
abbrev mX9_word : MInf := (yX9_word, cX9_word, 2, (some .int), 3, 0, 0)
theorem oX9_word : Cond.code yX9_word cX9_word 2 (some .int) ∈ tbW := tbW_mem (List.mem_of_getElem? (i := 852) (by decide +kernel)) rfl
theorem iX9_word : Cond.instanceMethod yX9_word ∈ tbW ∧ Cond.selects yX9_word.cls yX9_word yX9_word ∈ tbW := ⟨tbW_mem (List.mem_of_getElem? (i := 850) (by decide +kernel)) rfl, tbW_mem (List.mem_of_getElem? (i := 851) (by decide +kernel)) rfl⟩
abbrev mX9_keep : MInf := (yX9_keep, cX9_keep, 2, (some .int), 3, 0, 0)
theorem oX9_keep : Cond.code yX9_keep cX9_keep 2 (some .int) ∈ tbW := tbW_mem (List.mem_of_getElem? (i := 860) (by decide +kernel)) rfl
theorem iX9_keep : Cond.instanceMethod yX9_keep ∈ tbW ∧ Cond.selects yX9_keep.cls yX9_keep yX9_keep ∈ tbW := ⟨tbW_mem (List.mem_of_getElem? (i := 858) (by decide +kernel)) rfl, tbW_mem (List.mem_of_getElem? (i := 859) (by decide +kernel)) rfl⟩
abbrev mX9_take : MInf := (yX9_take, cX9_take, 2, (some .int), 3, 0, 0)
theorem oX9_take : Cond.code yX9_take cX9_take 2 (some .int) ∈ tbW := tbW_mem (List.mem_of_getElem? (i := 878) (by decide +kernel)) rfl
theorem iX9_take : Cond.instanceMethod yX9_take ∈ tbW ∧ Cond.selects yX9_take.cls yX9_take yX9_take ∈ tbW := ⟨tbW_mem (List.mem_of_getElem? (i := 876) (by decide +kernel)) rfl, tbW_mem (List.mem_of_getElem? (i := 877) (by decide +kernel)) rfl⟩
abbrev mX9_sum : MInf := (yX9_sum, cX9_sum, 2, (some .int), 6, 0, 0)
theorem oX9_sum : Cond.code yX9_sum cX9_sum 2 (some .int) ∈ tbW := tbW_mem (List.mem_of_getElem? (i := 882) (by decide +kernel)) rfl
theorem iX9_sum : Cond.instanceMethod yX9_sum ∈ tbW ∧ Cond.selects yX9_sum.cls yX9_sum yX9_sum ∈ tbW := ⟨tbW_mem (List.mem_of_getElem? (i := 880) (by decide +kernel)) rfl, tbW_mem (List.mem_of_getElem? (i := 881) (by decide +kernel)) rfl⟩
abbrev mX9_best : MInf := (yX9_best, cX9_best, 3, (some .int), 6, 0, 0)
theorem oX9_best : Cond.code yX9_best cX9_best 3 (some .int) ∈ tbW := tbW_mem (List.mem_of_getElem? (i := 906) (by decide +kernel)) rfl
theorem iX9_best : Cond.instanceMethod yX9_best ∈ tbW ∧ Cond.selects yX9_best.cls yX9_best yX9_best ∈ tbW := ⟨tbW_mem (List.mem_of_getElem? (i := 904) (by decide +kernel)) rfl, tbW_mem (List.mem_of_getElem? (i := 905) (by decide +kernel)) rfl⟩
abbrev mX9_rests : MInf := (yX9_rests, cX9_rests, 1, (some .int), 6, 0, 0)
theorem oX9_rests : Cond.code yX9_rests cX9_rests 1 (some .int) ∈ tbW := tbW_mem (List.mem_of_getElem? (i := 941) (by decide +kernel)) rfl
theorem iX9_rests : Cond.instanceMethod yX9_rests ∈ tbW ∧ Cond.selects yX9_rests.cls yX9_rests yX9_rests ∈ tbW := ⟨tbW_mem (List.mem_of_getElem? (i := 939) (by decide +kernel)) rfl, tbW_mem (List.mem_of_getElem? (i := 940) (by decide +kernel)) rfl⟩
abbrev mX9_rest : MInf := (yX9_rest, cX9_rest, 3, (some .int), 6, 0, 0)
theorem oX9_rest : Cond.code yX9_rest cX9_rest 3 (some .int) ∈ tbW := tbW_mem (List.mem_of_getElem? (i := 974) (by decide +kernel)) rfl
theorem iX9_rest : Cond.instanceMethod yX9_rest ∈ tbW ∧ Cond.selects yX9_rest.cls yX9_rest yX9_rest ∈ tbW := ⟨tbW_mem (List.mem_of_getElem? (i := 972) (by decide +kernel)) rfl, tbW_mem (List.mem_of_getElem? (i := 973) (by decide +kernel)) rfl⟩
abbrev mX9_settle : MInf := (yX9_settle, cX9_settle, 2, (some .int), 7, 0, 0)
theorem oX9_settle : Cond.code yX9_settle cX9_settle 2 (some .int) ∈ tbW := tbW_mem (List.mem_of_getElem? (i := 978) (by decide +kernel)) rfl
theorem iX9_settle : Cond.instanceMethod yX9_settle ∈ tbW ∧ Cond.selects yX9_settle.cls yX9_settle yX9_settle ∈ tbW := ⟨tbW_mem (List.mem_of_getElem? (i := 976) (by decide +kernel)) rfl, tbW_mem (List.mem_of_getElem? (i := 977) (by decide +kernel)) rfl⟩
abbrev mX9_longer : MInf := (yX9_longer, cX9_longer, 4, (some .int), 5, 0, 0)
theorem oX9_longer : Cond.code yX9_longer cX9_longer 4 (some .int) ∈ tbW := tbW_mem (List.mem_of_getElem? (i := 994) (by decide +kernel)) rfl
theorem iX9_longer : Cond.instanceMethod yX9_longer ∈ tbW ∧ Cond.selects yX9_longer.cls yX9_longer yX9_longer ∈ tbW := ⟨tbW_mem (List.mem_of_getElem? (i := 992) (by decide +kernel)) rfl, tbW_mem (List.mem_of_getElem? (i := 993) (by decide +kernel)) rfl⟩
abbrev mX9_guard : MInf := (yX9_guard, cX9_guard, 4, (some .int), 7, 0, 0)
theorem oX9_guard : Cond.code yX9_guard cX9_guard 4 (some .int) ∈ tbW := tbW_mem (List.mem_of_getElem? (i := 999) (by decide +kernel)) rfl
theorem iX9_guard : Cond.instanceMethod yX9_guard ∈ tbW ∧ Cond.selects yX9_guard.cls yX9_guard yX9_guard ∈ tbW := ⟨tbW_mem (List.mem_of_getElem? (i := 997) (by decide +kernel)) rfl, tbW_mem (List.mem_of_getElem? (i := 998) (by decide +kernel)) rfl⟩
abbrev mX9_rings : MInf := (yX9_rings, cX9_rings, 2, (some .int), 7, 0, 0)
theorem oX9_rings : Cond.code yX9_rings cX9_rings 2 (some .int) ∈ tbW := tbW_mem (List.mem_of_getElem? (i := 1008) (by decide +kernel)) rfl
theorem iX9_rings : Cond.instanceMethod yX9_rings ∈ tbW ∧ Cond.selects yX9_rings.cls yX9_rings yX9_rings ∈ tbW := ⟨tbW_mem (List.mem_of_getElem? (i := 1006) (by decide +kernel)) rfl, tbW_mem (List.mem_of_getElem? (i := 1007) (by decide +kernel)) rfl⟩
abbrev mX9_when : MInf := (yX9_when, cX9_when, 2, (some .int), 7, 0, 0)
theorem oX9_when : Cond.code yX9_when cX9_when 2 (some .int) ∈ tbW := tbW_mem (List.mem_of_getElem? (i := 1040) (by decide +kernel)) rfl
theorem iX9_when : Cond.instanceMethod yX9_when ∈ tbW ∧ Cond.selects yX9_when.cls yX9_when yX9_when ∈ tbW := ⟨tbW_mem (List.mem_of_getElem? (i := 1038) (by decide +kernel)) rfl, tbW_mem (List.mem_of_getElem? (i := 1039) (by decide +kernel)) rfl⟩
abbrev mX9_bound : MInf := (yX9_bound, cX9_bound, 3, (some .int), 7, 0, 0)
theorem oX9_bound : Cond.code yX9_bound cX9_bound 3 (some .int) ∈ tbW := tbW_mem (List.mem_of_getElem? (i := 1048) (by decide +kernel)) rfl
theorem iX9_bound : Cond.instanceMethod yX9_bound ∈ tbW ∧ Cond.selects yX9_bound.cls yX9_bound yX9_bound ∈ tbW := ⟨tbW_mem (List.mem_of_getElem? (i := 1046) (by decide +kernel)) rfl, tbW_mem (List.mem_of_getElem? (i := 1047) (by decide +kernel)) rfl⟩
abbrev mX9_law : MInf := (yX9_law, cX9_law, 5, (some .int), 6, 0, 0)
theorem oX9_law : Cond.code yX9_law cX9_law 5 (some .int) ∈ tbW := tbW_mem (List.mem_of_getElem? (i := 1056) (by decide +kernel)) rfl
theorem iX9_law : Cond.instanceMethod yX9_law ∈ tbW ∧ Cond.selects yX9_law.cls yX9_law yX9_law ∈ tbW := ⟨tbW_mem (List.mem_of_getElem? (i := 1054) (by decide +kernel)) rfl, tbW_mem (List.mem_of_getElem? (i := 1055) (by decide +kernel)) rfl⟩
abbrev mX9_bestLaw : MInf := (yX9_bestLaw, cX9_bestLaw, 2, (some .int), 7, 0, 0)
theorem oX9_bestLaw : Cond.code yX9_bestLaw cX9_bestLaw 2 (some .int) ∈ tbW := tbW_mem (List.mem_of_getElem? (i := 1072) (by decide +kernel)) rfl
theorem iX9_bestLaw : Cond.instanceMethod yX9_bestLaw ∈ tbW ∧ Cond.selects yX9_bestLaw.cls yX9_bestLaw yX9_bestLaw ∈ tbW := ⟨tbW_mem (List.mem_of_getElem? (i := 1070) (by decide +kernel)) rfl, tbW_mem (List.mem_of_getElem? (i := 1071) (by decide +kernel)) rfl⟩
abbrev mX9_feast : MInf := (yX9_feast, cX9_feast, 3, (some .int), 4, 0, 0)
theorem oX9_feast : Cond.code yX9_feast cX9_feast 3 (some .int) ∈ tbW := tbW_mem (List.mem_of_getElem? (i := 1082) (by decide +kernel)) rfl
theorem iX9_feast : Cond.instanceMethod yX9_feast ∈ tbW ∧ Cond.selects yX9_feast.cls yX9_feast yX9_feast ∈ tbW := ⟨tbW_mem (List.mem_of_getElem? (i := 1080) (by decide +kernel)) rfl, tbW_mem (List.mem_of_getElem? (i := 1081) (by decide +kernel)) rfl⟩
abbrev mX9_isFeastOnTape : MInf := (yX9_isFeastOnTape, cX9_isFeastOnTape, 4, (some .boolean), 2, 0, 0)
theorem oX9_isFeastOnTape : Cond.code yX9_isFeastOnTape cX9_isFeastOnTape 4 (some .boolean) ∈ tbW := tbW_mem (List.mem_of_getElem? (i := 1086) (by decide +kernel)) rfl
theorem iX9_isFeastOnTape : Cond.instanceMethod yX9_isFeastOnTape ∈ tbW ∧ Cond.selects yX9_isFeastOnTape.cls yX9_isFeastOnTape yX9_isFeastOnTape ∈ tbW := ⟨tbW_mem (List.mem_of_getElem? (i := 1085) (by decide +kernel)) rfl, tbW_mem (List.mem_of_getElem? (i := 44) (by decide +kernel)) rfl⟩
abbrev mX9_feastEnd : MInf := (yX9_feastEnd, cX9_feastEnd, 4, (some .int), 3, 0, 0)
theorem oX9_feastEnd : Cond.code yX9_feastEnd cX9_feastEnd 4 (some .int) ∈ tbW := tbW_mem (List.mem_of_getElem? (i := 1090) (by decide +kernel)) rfl
theorem iX9_feastEnd : Cond.instanceMethod yX9_feastEnd ∈ tbW ∧ Cond.selects yX9_feastEnd.cls yX9_feastEnd yX9_feastEnd ∈ tbW := ⟨tbW_mem (List.mem_of_getElem? (i := 1089) (by decide +kernel)) rfl, tbW_mem (List.mem_of_getElem? (i := 45) (by decide +kernel)) rfl⟩
abbrev mX9_placeBehind : MInf := (yX9_placeBehind, cX9_placeBehind, 5, (some .int), 2, 0, 0)
theorem oX9_placeBehind : Cond.code yX9_placeBehind cX9_placeBehind 5 (some .int) ∈ tbW := tbW_mem (List.mem_of_getElem? (i := 1094) (by decide +kernel)) rfl
theorem iX9_placeBehind : Cond.instanceMethod yX9_placeBehind ∈ tbW ∧ Cond.selects yX9_placeBehind.cls yX9_placeBehind yX9_placeBehind ∈ tbW := ⟨tbW_mem (List.mem_of_getElem? (i := 1093) (by decide +kernel)) rfl, tbW_mem (List.mem_of_getElem? (i := 46) (by decide +kernel)) rfl⟩
abbrev mX9_turned : MInf := (yX9_turned, cX9_turned, 3, (some .int), 3, 0, 0)
theorem oX9_turned : Cond.code yX9_turned cX9_turned 3 (some .int) ∈ tbW := tbW_mem (List.mem_of_getElem? (i := 1098) (by decide +kernel)) rfl
theorem iX9_turned : Cond.instanceMethod yX9_turned ∈ tbW ∧ Cond.selects yX9_turned.cls yX9_turned yX9_turned ∈ tbW := ⟨tbW_mem (List.mem_of_getElem? (i := 1096) (by decide +kernel)) rfl, tbW_mem (List.mem_of_getElem? (i := 1097) (by decide +kernel)) rfl⟩
abbrev mX9_whom : MInf := (yX9_whom, cX9_whom, 2, (some .int), 7, 0, 0)
theorem oX9_whom : Cond.code yX9_whom cX9_whom 2 (some .int) ∈ tbW := tbW_mem (List.mem_of_getElem? (i := 1102) (by decide +kernel)) rfl
theorem iX9_whom : Cond.instanceMethod yX9_whom ∈ tbW ∧ Cond.selects yX9_whom.cls yX9_whom yX9_whom ∈ tbW := ⟨tbW_mem (List.mem_of_getElem? (i := 1100) (by decide +kernel)) rfl, tbW_mem (List.mem_of_getElem? (i := 1101) (by decide +kernel)) rfl⟩
abbrev mX9_edge : MInf := (yX9_edge, cX9_edge, 3, (some .int), 7, 0, 0)
theorem oX9_edge : Cond.code yX9_edge cX9_edge 3 (some .int) ∈ tbW := tbW_mem (List.mem_of_getElem? (i := 1110) (by decide +kernel)) rfl
theorem iX9_edge : Cond.instanceMethod yX9_edge ∈ tbW ∧ Cond.selects yX9_edge.cls yX9_edge yX9_edge ∈ tbW := ⟨tbW_mem (List.mem_of_getElem? (i := 1108) (by decide +kernel)) rfl, tbW_mem (List.mem_of_getElem? (i := 1109) (by decide +kernel)) rfl⟩
abbrev mX9_show : MInf := (yX9_show, cX9_show, 2, (some .int), 7, 0, 0)
theorem oX9_show : Cond.code yX9_show cX9_show 2 (some .int) ∈ tbW := tbW_mem (List.mem_of_getElem? (i := 1118) (by decide +kernel)) rfl
theorem iX9_show : Cond.instanceMethod yX9_show ∈ tbW ∧ Cond.selects yX9_show.cls yX9_show yX9_show ∈ tbW := ⟨tbW_mem (List.mem_of_getElem? (i := 1116) (by decide +kernel)) rfl, tbW_mem (List.mem_of_getElem? (i := 1117) (by decide +kernel)) rfl⟩
abbrev mX9_book : MInf := (yX9_book, cX9_book, 3, (some .int), 7, 0, 0)
theorem oX9_book : Cond.code yX9_book cX9_book 3 (some .int) ∈ tbW := tbW_mem (List.mem_of_getElem? (i := 1126) (by decide +kernel)) rfl
theorem iX9_book : Cond.instanceMethod yX9_book ∈ tbW ∧ Cond.selects yX9_book.cls yX9_book yX9_book ∈ tbW := ⟨tbW_mem (List.mem_of_getElem? (i := 1124) (by decide +kernel)) rfl, tbW_mem (List.mem_of_getElem? (i := 1125) (by decide +kernel)) rfl⟩
abbrev mX9_count : MInf := (yX9_count, cX9_count, 2, (some .int), 1, 0, 0)
theorem oX9_count : Cond.code yX9_count cX9_count 2 (some .int) ∈ tbW := tbW_mem (List.mem_of_getElem? (i := 1162) (by decide +kernel)) rfl
theorem iX9_count : Cond.instanceMethod yX9_count ∈ tbW ∧ Cond.selects yX9_count.cls yX9_count yX9_count ∈ tbW := ⟨tbW_mem (List.mem_of_getElem? (i := 1160) (by decide +kernel)) rfl, tbW_mem (List.mem_of_getElem? (i := 1161) (by decide +kernel)) rfl⟩
abbrev mX9_isHouse : MInf := (yX9_isHouse, cX9_isHouse, 2, (some .boolean), 1, 0, 0)
theorem oX9_isHouse : Cond.code yX9_isHouse cX9_isHouse 2 (some .boolean) ∈ tbW := tbW_mem (List.mem_of_getElem? (i := 738) (by decide +kernel)) rfl
theorem iX9_isHouse : Cond.instanceMethod yX9_isHouse ∈ tbW ∧ Cond.selects yX9_isHouse.cls yX9_isHouse yX9_isHouse ∈ tbW := ⟨tbW_mem (List.mem_of_getElem? (i := 737) (by decide +kernel)) rfl, tbW_mem (List.mem_of_getElem? (i := 17) (by decide +kernel)) rfl⟩
abbrev mX9_isPerson : MInf := (yX9_isPerson, cX9_isPerson, 2, (some .boolean), 1, 0, 0)
theorem oX9_isPerson : Cond.code yX9_isPerson cX9_isPerson 2 (some .boolean) ∈ tbW := tbW_mem (List.mem_of_getElem? (i := 746) (by decide +kernel)) rfl
theorem iX9_isPerson : Cond.instanceMethod yX9_isPerson ∈ tbW ∧ Cond.selects yX9_isPerson.cls yX9_isPerson yX9_isPerson ∈ tbW := ⟨tbW_mem (List.mem_of_getElem? (i := 745) (by decide +kernel)) rfl, tbW_mem (List.mem_of_getElem? (i := 19) (by decide +kernel)) rfl⟩
abbrev mX9_areTwo : MInf := (yX9_areTwo, cX9_areTwo, 3, (some .boolean), 2, 0, 0)
theorem oX9_areTwo : Cond.code yX9_areTwo cX9_areTwo 3 (some .boolean) ∈ tbW := tbW_mem (List.mem_of_getElem? (i := 754) (by decide +kernel)) rfl
theorem iX9_areTwo : Cond.instanceMethod yX9_areTwo ∈ tbW ∧ Cond.selects yX9_areTwo.cls yX9_areTwo yX9_areTwo ∈ tbW := ⟨tbW_mem (List.mem_of_getElem? (i := 753) (by decide +kernel)) rfl, tbW_mem (List.mem_of_getElem? (i := 20) (by decide +kernel)) rfl⟩
abbrev mX10_in : MInf := (yX10_in, cX10_in, 6, (some .boolean), 1, 0, 0)
theorem oX10_in : Cond.code yX10_in cX10_in 6 (some .boolean) ∈ tbW := tbW_mem (List.mem_of_getElem? (i := 1376) (by decide +kernel)) rfl
theorem sX10_in : Cond.static yX10_in ∈ tbW := tbW_mem (List.mem_of_getElem? (i := 1375) (by decide +kernel)) rfl
abbrev mX10_bad : MInf := (yX10_bad, cX10_bad, 2, (some .boolean), 1, 0, 0)
theorem oX10_bad : Cond.code yX10_bad cX10_bad 2 (some .boolean) ∈ tbW := tbW_mem (List.mem_of_getElem? (i := 1420) (by decide +kernel)) rfl
theorem iX10_bad : Cond.instanceMethod yX10_bad ∈ tbW ∧ Cond.selects yX10_bad.cls yX10_bad yX10_bad ∈ tbW := ⟨tbW_mem (List.mem_of_getElem? (i := 1419) (by decide +kernel)) rfl, tbW_mem (List.mem_of_getElem? (i := 59) (by decide +kernel)) rfl⟩
abbrev mX10_byteAt : MInf := (yX10_byteAt, cX10_byteAt, 2, (some .int), 1, 0, 0)
theorem oX10_byteAt : Cond.code yX10_byteAt cX10_byteAt 2 (some .int) ∈ tbW := tbW_mem (List.mem_of_getElem? (i := 1392) (by decide +kernel)) rfl
theorem iX10_byteAt : Cond.instanceMethod yX10_byteAt ∈ tbW ∧ Cond.selects yX10_byteAt.cls yX10_byteAt yX10_byteAt ∈ tbW := ⟨tbW_mem (List.mem_of_getElem? (i := 1391) (by decide +kernel)) rfl, tbW_mem (List.mem_of_getElem? (i := 55) (by decide +kernel)) rfl⟩
abbrev mX10_isSmall : MInf := (yX10_isSmall, cX10_isSmall, 1, (some .boolean), 1, 0, 0)
theorem oX10_isSmall : Cond.code yX10_isSmall cX10_isSmall 1 (some .boolean) ∈ tbW := tbW_mem (List.mem_of_getElem? (i := 1395) (by decide +kernel)) rfl
theorem sX10_isSmall : Cond.static yX10_isSmall ∈ tbW := tbW_mem (List.mem_of_getElem? (i := 1394) (by decide +kernel)) rfl
abbrev mX10_isDigit : MInf := (yX10_isDigit, cX10_isDigit, 1, (some .boolean), 1, 0, 0)
theorem oX10_isDigit : Cond.code yX10_isDigit cX10_isDigit 1 (some .boolean) ∈ tbW := tbW_mem (List.mem_of_getElem? (i := 1398) (by decide +kernel)) rfl
theorem sX10_isDigit : Cond.static yX10_isDigit ∈ tbW := tbW_mem (List.mem_of_getElem? (i := 1397) (by decide +kernel)) rfl
abbrev mX10_scan : MInf := (yX10_scan, cX10_scan, 2, (none : Option Jvm.ClassFile.FieldType), 2, 0, 0)
theorem oX10_scan : Cond.code yX10_scan cX10_scan 2 (none : Option Jvm.ClassFile.FieldType) ∈ tbW := tbW_mem (List.mem_of_getElem? (i := 1388) (by decide +kernel)) rfl
theorem iX10_scan : Cond.instanceMethod yX10_scan ∈ tbW ∧ Cond.selects yX10_scan.cls yX10_scan yX10_scan ∈ tbW := ⟨tbW_mem (List.mem_of_getElem? (i := 1387) (by decide +kernel)) rfl, tbW_mem (List.mem_of_getElem? (i := 54) (by decide +kernel)) rfl⟩
abbrev mX10_is : MInf := (yX10_is, cX10_is, 4, (some .boolean), 6, 0, 0)
theorem oX10_is : Cond.code yX10_is cX10_is 4 (some .boolean) ∈ tbW := tbW_mem (List.mem_of_getElem? (i := 1410) (by decide +kernel)) rfl
theorem iX10_is : Cond.instanceMethod yX10_is ∈ tbW ∧ Cond.selects yX10_is.cls yX10_is yX10_is ∈ tbW := ⟨tbW_mem (List.mem_of_getElem? (i := 1409) (by decide +kernel)) rfl, tbW_mem (List.mem_of_getElem? (i := 57) (by decide +kernel)) rfl⟩
abbrev mX10_number : MInf := (yX10_number, cX10_number, 3, (some .boolean), 3, 0, 0)
theorem oX10_number : Cond.code yX10_number cX10_number 3 (some .boolean) ∈ tbW := tbW_mem (List.mem_of_getElem? (i := 1436) (by decide +kernel)) rfl
theorem iX10_number : Cond.instanceMethod yX10_number ∈ tbW ∧ Cond.selects yX10_number.cls yX10_number yX10_number ∈ tbW := ⟨tbW_mem (List.mem_of_getElem? (i := 1435) (by decide +kernel)) rfl, tbW_mem (List.mem_of_getElem? (i := 63) (by decide +kernel)) rfl⟩
abbrev mX10_name : MInf := (yX10_name, cX10_name, 4, (some .long), 2, 0, 0)
theorem oX10_name : Cond.code yX10_name cX10_name 4 (some .long) ∈ tbW := tbW_mem (List.mem_of_getElem? (i := 1432) (by decide +kernel)) rfl
theorem iX10_name : Cond.instanceMethod yX10_name ∈ tbW ∧ Cond.selects yX10_name.cls yX10_name yX10_name ∈ tbW := ⟨tbW_mem (List.mem_of_getElem? (i := 1431) (by decide +kernel)) rfl, tbW_mem (List.mem_of_getElem? (i := 62) (by decide +kernel)) rfl⟩
abbrev mX10_find : MInf := (yX10_find, cX10_find, 4, (some .int), 3, 0, 0)
theorem oX10_find : Cond.code yX10_find cX10_find 4 (some .int) ∈ tbW := tbW_mem (List.mem_of_getElem? (i := 1428) (by decide +kernel)) rfl
theorem iX10_find : Cond.instanceMethod yX10_find ∈ tbW ∧ Cond.selects yX10_find.cls yX10_find yX10_find ∈ tbW := ⟨tbW_mem (List.mem_of_getElem? (i := 1427) (by decide +kernel)) rfl, tbW_mem (List.mem_of_getElem? (i := 61) (by decide +kernel)) rfl⟩
abbrev mX10_fresh : MInf := (yX10_fresh, cX10_fresh, 3, (some .boolean), 4, 0, 0)
theorem oX10_fresh : Cond.code yX10_fresh cX10_fresh 3 (some .boolean) ∈ tbW := tbW_mem (List.mem_of_getElem? (i := 1424) (by decide +kernel)) rfl
theorem iX10_fresh : Cond.instanceMethod yX10_fresh ∈ tbW ∧ Cond.selects yX10_fresh.cls yX10_fresh yX10_fresh ∈ tbW := ⟨tbW_mem (List.mem_of_getElem? (i := 1423) (by decide +kernel)) rfl, tbW_mem (List.mem_of_getElem? (i := 60) (by decide +kernel)) rfl⟩
abbrev mX10_known : MInf := (yX10_known, cX10_known, 3, (some .boolean), 4, 0, 0)
theorem oX10_known : Cond.code yX10_known cX10_known 3 (some .boolean) ∈ tbW := tbW_mem (List.mem_of_getElem? (i := 1451) (by decide +kernel)) rfl
theorem iX10_known : Cond.instanceMethod yX10_known ∈ tbW ∧ Cond.selects yX10_known.cls yX10_known yX10_known ∈ tbW := ⟨tbW_mem (List.mem_of_getElem? (i := 1450) (by decide +kernel)) rfl, tbW_mem (List.mem_of_getElem? (i := 66) (by decide +kernel)) rfl⟩
abbrev mX10_open : MInf := (yX10_open, cX10_open, 1, (none : Option Jvm.ClassFile.FieldType), 3, 0, 0)
theorem oX10_open : Cond.code yX10_open cX10_open 1 (none : Option Jvm.ClassFile.FieldType) ∈ tbW := tbW_mem (List.mem_of_getElem? (i := 1384) (by decide +kernel)) rfl
theorem iX10_open : Cond.instanceMethod yX10_open ∈ tbW ∧ Cond.selects yX10_open.cls yX10_open yX10_open ∈ tbW := ⟨tbW_mem (List.mem_of_getElem? (i := 1383) (by decide +kernel)) rfl, tbW_mem (List.mem_of_getElem? (i := 53) (by decide +kernel)) rfl⟩
abbrev mX10_close : MInf := (yX10_close, cX10_close, 1, (some .boolean), 3, 0, 0)
theorem oX10_close : Cond.code yX10_close cX10_close 1 (some .boolean) ∈ tbW := tbW_mem (List.mem_of_getElem? (i := 1478) (by decide +kernel)) rfl
theorem iX10_close : Cond.instanceMethod yX10_close ∈ tbW ∧ Cond.selects yX10_close.cls yX10_close yX10_close ∈ tbW := ⟨tbW_mem (List.mem_of_getElem? (i := 1477) (by decide +kernel)) rfl, tbW_mem (List.mem_of_getElem? (i := 70) (by decide +kernel)) rfl⟩
abbrev mX10_usual : MInf := (yX10_usual, cX10_usual, 1, (some .int), 1, 0, 0)
theorem oX10_usual : Cond.code yX10_usual cX10_usual 1 (some .int) ∈ tbW := tbW_mem (List.mem_of_getElem? (i := 1405) (by decide +kernel)) rfl
theorem sX10_usual : Cond.static yX10_usual ∈ tbW := tbW_mem (List.mem_of_getElem? (i := 1404) (by decide +kernel)) rfl
abbrev mX10_greatest : MInf := (yX10_greatest, cX10_greatest, 1, (some .int), 1, 0, 0)
theorem oX10_greatest : Cond.code yX10_greatest cX10_greatest 1 (some .int) ∈ tbW := tbW_mem (List.mem_of_getElem? (i := 1474) (by decide +kernel)) rfl
theorem sX10_greatest : Cond.static yX10_greatest ∈ tbW := tbW_mem (List.mem_of_getElem? (i := 1473) (by decide +kernel)) rfl
abbrev mX10_readHouse : MInf := (yX10_readHouse, cX10_readHouse, 2, (some .boolean), 5, 0, 0)
theorem oX10_readHouse : Cond.code yX10_readHouse cX10_readHouse 2 (some .boolean) ∈ tbW := tbW_mem (List.mem_of_getElem? (i := 1416) (by decide +kernel)) rfl
theorem iX10_readHouse : Cond.instanceMethod yX10_readHouse ∈ tbW ∧ Cond.selects yX10_readHouse.cls yX10_readHouse yX10_readHouse ∈ tbW := ⟨tbW_mem (List.mem_of_getElem? (i := 1415) (by decide +kernel)) rfl, tbW_mem (List.mem_of_getElem? (i := 58) (by decide +kernel)) rfl⟩
abbrev mX10_readPerson : MInf := (yX10_readPerson, cX10_readPerson, 3, (some .boolean), 7, 0, 0)
theorem oX10_readPerson : Cond.code yX10_readPerson cX10_readPerson 3 (some .boolean) ∈ tbW := tbW_mem (List.mem_of_getElem? (i := 1441) (by decide +kernel)) rfl
theorem iX10_readPerson : Cond.instanceMethod yX10_readPerson ∈ tbW ∧ Cond.selects yX10_readPerson.cls yX10_readPerson yX10_readPerson ∈ tbW := ⟨tbW_mem (List.mem_of_getElem? (i := 1440) (by decide +kernel)) rfl, tbW_mem (List.mem_of_getElem? (i := 64) (by decide +kernel)) rfl⟩
abbrev mX10_readTies : MInf := (yX10_readTies, cX10_readTies, 3, (some .boolean), 5, 0, 0)
theorem oX10_readTies : Cond.code yX10_readTies cX10_readTies 3 (some .boolean) ∈ tbW := tbW_mem (List.mem_of_getElem? (i := 1447) (by decide +kernel)) rfl
theorem iX10_readTies : Cond.instanceMethod yX10_readTies ∈ tbW ∧ Cond.selects yX10_readTies.cls yX10_readTies yX10_readTies ∈ tbW := ⟨tbW_mem (List.mem_of_getElem? (i := 1446) (by decide +kernel)) rfl, tbW_mem (List.mem_of_getElem? (i := 65) (by decide +kernel)) rfl⟩
abbrev mX10_readWorks : MInf := (yX10_readWorks, cX10_readWorks, 2, (some .boolean), 4, 0, 0)
theorem oX10_readWorks : Cond.code yX10_readWorks cX10_readWorks 2 (some .boolean) ∈ tbW := tbW_mem (List.mem_of_getElem? (i := 1456) (by decide +kernel)) rfl
theorem iX10_readWorks : Cond.instanceMethod yX10_readWorks ∈ tbW ∧ Cond.selects yX10_readWorks.cls yX10_readWorks yX10_readWorks ∈ tbW := ⟨tbW_mem (List.mem_of_getElem? (i := 1455) (by decide +kernel)) rfl, tbW_mem (List.mem_of_getElem? (i := 67) (by decide +kernel)) rfl⟩
abbrev mX10_wordAt : MInf := (yX10_wordAt, cX10_wordAt, 1, (some .int), 7, 0, 0)
theorem oX10_wordAt : Cond.code yX10_wordAt cX10_wordAt 1 (some .int) ∈ tbW := tbW_mem (List.mem_of_getElem? (i := 1464) (by decide +kernel)) rfl
theorem iX10_wordAt : Cond.instanceMethod yX10_wordAt ∈ tbW ∧ Cond.selects yX10_wordAt.cls yX10_wordAt yX10_wordAt ∈ tbW := ⟨tbW_mem (List.mem_of_getElem? (i := 1463) (by decide +kernel)) rfl, tbW_mem (List.mem_of_getElem? (i := 69) (by decide +kernel)) rfl⟩
abbrev mX10_readSmall : MInf := (yX10_readSmall, cX10_readSmall, 2, (some .boolean), 8, 0, 0)
theorem oX10_readSmall : Cond.code yX10_readSmall cX10_readSmall 2 (some .boolean) ∈ tbW := tbW_mem (List.mem_of_getElem? (i := 1460) (by decide +kernel)) rfl
theorem iX10_readSmall : Cond.instanceMethod yX10_readSmall ∈ tbW ∧ Cond.selects yX10_readSmall.cls yX10_readSmall yX10_readSmall ∈ tbW := ⟨tbW_mem (List.mem_of_getElem? (i := 1459) (by decide +kernel)) rfl, tbW_mem (List.mem_of_getElem? (i := 68) (by decide +kernel)) rfl⟩
abbrev mX10_readVillage : MInf := (yX10_readVillage, cX10_readVillage, 2, (some .boolean), 9, 0, 0)
theorem oX10_readVillage : Cond.code yX10_readVillage cX10_readVillage 2 (some .boolean) ∈ tbW := tbW_mem (List.mem_of_getElem? (i := 1402) (by decide +kernel)) rfl
theorem iX10_readVillage : Cond.instanceMethod yX10_readVillage ∈ tbW ∧ Cond.selects yX10_readVillage.cls yX10_readVillage yX10_readVillage ∈ tbW := ⟨tbW_mem (List.mem_of_getElem? (i := 1401) (by decide +kernel)) rfl, tbW_mem (List.mem_of_getElem? (i := 56) (by decide +kernel)) rfl⟩
abbrev mX10_init : MInf := (yX10_init, cX10_init, 1, (none : Option Jvm.ClassFile.FieldType), 3, 31, 40672)
theorem oX10_init : Cond.code yX10_init cX10_init 1 (none : Option Jvm.ClassFile.FieldType) ∈ tbW := tbW_mem (List.mem_of_getElem? (i := 1167) (by decide +kernel)) rfl
theorem iX10_init : Cond.instanceMethod yX10_init ∈ tbW := tbW_mem (List.mem_of_getElem? (i := 1166) (by decide +kernel)) rfl
abbrev mX10_feed : MInf := (yX10_feed, cX10_feed, 6, (some .int), 2, 0, 0)
theorem oX10_feed : Cond.code yX10_feed cX10_feed 6 (some .int) ∈ tbW := tbW_mem (List.mem_of_getElem? (i := 1365) (by decide +kernel)) rfl
theorem iX10_feed : Cond.instanceMethod yX10_feed ∈ tbW ∧ Cond.selects yX10_feed.cls yX10_feed yX10_feed ∈ tbW := ⟨tbW_mem (List.mem_of_getElem? (i := 1363) (by decide +kernel)) rfl, tbW_mem (List.mem_of_getElem? (i := 1364) (by decide +kernel)) rfl⟩
abbrev mX10_putFour : MInf := (yX10_putFour, cX10_putFour, 3, (none : Option Jvm.ClassFile.FieldType), 1, 0, 0)
theorem oX10_putFour : Cond.code yX10_putFour cX10_putFour 3 (none : Option Jvm.ClassFile.FieldType) ∈ tbW := tbW_mem (List.mem_of_getElem? (i := 1369) (by decide +kernel)) rfl
theorem iX10_putFour : Cond.instanceMethod yX10_putFour ∈ tbW ∧ Cond.selects yX10_putFour.cls yX10_putFour yX10_putFour ∈ tbW := ⟨tbW_mem (List.mem_of_getElem? (i := 1368) (by decide +kernel)) rfl, tbW_mem (List.mem_of_getElem? (i := 52) (by decide +kernel)) rfl⟩
abbrev mX10_end : MInf := (yX10_end, cX10_end, 2, (some .int), 2, 0, 0)
theorem oX10_end : Cond.code yX10_end cX10_end 2 (some .int) ∈ tbW := tbW_mem (List.mem_of_getElem? (i := 1373) (by decide +kernel)) rfl
theorem iX10_end : Cond.instanceMethod yX10_end ∈ tbW ∧ Cond.selects yX10_end.cls yX10_end yX10_end ∈ tbW := ⟨tbW_mem (List.mem_of_getElem? (i := 1371) (by decide +kernel)) rfl, tbW_mem (List.mem_of_getElem? (i := 1372) (by decide +kernel)) rfl⟩
abbrev mX10_village : MInf := (yX10_village, cX10_village, 2, (some .int), 10, 0, 0)
theorem oX10_village : Cond.code yX10_village cX10_village 2 (some .int) ∈ tbW := tbW_mem (List.mem_of_getElem? (i := 1380) (by decide +kernel)) rfl
theorem iX10_village : Cond.instanceMethod yX10_village ∈ tbW ∧ Cond.selects yX10_village.cls yX10_village yX10_village ∈ tbW := ⟨tbW_mem (List.mem_of_getElem? (i := 1378) (by decide +kernel)) rfl, tbW_mem (List.mem_of_getElem? (i := 1379) (by decide +kernel)) rfl⟩
abbrev mX10_fault : MInf := (yX10_fault, cX10_fault, 2, (some .int), 1, 0, 0)
theorem oX10_fault : Cond.code yX10_fault cX10_fault 2 (some .int) ∈ tbW := tbW_mem (List.mem_of_getElem? (i := 1482) (by decide +kernel)) rfl
theorem iX10_fault : Cond.instanceMethod yX10_fault ∈ tbW ∧ Cond.selects yX10_fault.cls yX10_fault yX10_fault ∈ tbW := ⟨tbW_mem (List.mem_of_getElem? (i := 1480) (by decide +kernel)) rfl, tbW_mem (List.mem_of_getElem? (i := 1481) (by decide +kernel)) rfl⟩
abbrev mX10_told : MInf := (yX10_told, cX10_told, 3, (some .int), 2, 0, 0)
theorem oX10_told : Cond.code yX10_told cX10_told 3 (some .int) ∈ tbW := tbW_mem (List.mem_of_getElem? (i := 1486) (by decide +kernel)) rfl
theorem iX10_told : Cond.instanceMethod yX10_told ∈ tbW ∧ Cond.selects yX10_told.cls yX10_told yX10_told ∈ tbW := ⟨tbW_mem (List.mem_of_getElem? (i := 1484) (by decide +kernel)) rfl, tbW_mem (List.mem_of_getElem? (i := 1485) (by decide +kernel)) rfl⟩
abbrev mX10_isHouse : MInf := (yX10_isHouse, cX10_isHouse, 2, (some .boolean), 2, 0, 0)
theorem oX10_isHouse : Cond.code yX10_isHouse cX10_isHouse 2 (some .boolean) ∈ tbW := tbW_mem (List.mem_of_getElem? (i := 1508) (by decide +kernel)) rfl
theorem iX10_isHouse : Cond.instanceMethod yX10_isHouse ∈ tbW ∧ Cond.selects yX10_isHouse.cls yX10_isHouse yX10_isHouse ∈ tbW := ⟨tbW_mem (List.mem_of_getElem? (i := 1507) (by decide +kernel)) rfl, tbW_mem (List.mem_of_getElem? (i := 72) (by decide +kernel)) rfl⟩
abbrev mX10_isPerson : MInf := (yX10_isPerson, cX10_isPerson, 2, (some .boolean), 2, 0, 0)
theorem oX10_isPerson : Cond.code yX10_isPerson cX10_isPerson 2 (some .boolean) ∈ tbW := tbW_mem (List.mem_of_getElem? (i := 1500) (by decide +kernel)) rfl
theorem iX10_isPerson : Cond.instanceMethod yX10_isPerson ∈ tbW ∧ Cond.selects yX10_isPerson.cls yX10_isPerson yX10_isPerson ∈ tbW := ⟨tbW_mem (List.mem_of_getElem? (i := 1499) (by decide +kernel)) rfl, tbW_mem (List.mem_of_getElem? (i := 71) (by decide +kernel)) rfl⟩
abbrev mX10_tie : MInf := (yX10_tie, cX10_tie, 3, (some .int), 3, 0, 0)
theorem oX10_tie : Cond.code yX10_tie cX10_tie 3 (some .int) ∈ tbW := tbW_mem (List.mem_of_getElem? (i := 1496) (by decide +kernel)) rfl
theorem iX10_tie : Cond.instanceMethod yX10_tie ∈ tbW ∧ Cond.selects yX10_tie.cls yX10_tie yX10_tie ∈ tbW := ⟨tbW_mem (List.mem_of_getElem? (i := 1494) (by decide +kernel)) rfl, tbW_mem (List.mem_of_getElem? (i := 1495) (by decide +kernel)) rfl⟩
abbrev mX10_placed : MInf := (yX10_placed, cX10_placed, 1, (some .int), 1, 0, 0)
theorem oX10_placed : Cond.code yX10_placed cX10_placed 1 (some .int) ∈ tbW := tbW_mem (List.mem_of_getElem? (i := 1176) (by decide +kernel)) rfl
theorem sX10_placed : Cond.static yX10_placed ∈ tbW := tbW_mem (List.mem_of_getElem? (i := 1175) (by decide +kernel)) rfl
abbrev mX10_begin : MInf := (yX10_begin, cX10_begin, 4, (none : Option Jvm.ClassFile.FieldType), 2, 0, 0)
theorem oX10_begin : Cond.code yX10_begin cX10_begin 4 (none : Option Jvm.ClassFile.FieldType) ∈ tbW := tbW_mem (List.mem_of_getElem? (i := 1173) (by decide +kernel)) rfl
theorem iX10_begin : Cond.instanceMethod yX10_begin ∈ tbW ∧ Cond.selects yX10_begin.cls yX10_begin yX10_begin ∈ tbW := ⟨tbW_mem (List.mem_of_getElem? (i := 1172) (by decide +kernel)) rfl, tbW_mem (List.mem_of_getElem? (i := 51) (by decide +kernel)) rfl⟩
abbrev mX10_after : MInf := (yX10_after, cX10_after, 1, (some .int), 1, 0, 0)
theorem oX10_after : Cond.code yX10_after cX10_after 1 (some .int) ∈ tbW := tbW_mem (List.mem_of_getElem? (i := 1572) (by decide +kernel)) rfl
theorem iX10_after : Cond.instanceMethod yX10_after ∈ tbW ∧ Cond.selects yX10_after.cls yX10_after yX10_after ∈ tbW := ⟨tbW_mem (List.mem_of_getElem? (i := 1571) (by decide +kernel)) rfl, tbW_mem (List.mem_of_getElem? (i := 80) (by decide +kernel)) rfl⟩
abbrev mX10_goesByLast : MInf := (yX10_goesByLast, cX10_goesByLast, 1, (some .boolean), 1, 0, 0)
theorem oX10_goesByLast : Cond.code yX10_goesByLast cX10_goesByLast 1 (some .boolean) ∈ tbW := tbW_mem (List.mem_of_getElem? (i := 1576) (by decide +kernel)) rfl
theorem iX10_goesByLast : Cond.instanceMethod yX10_goesByLast ∈ tbW ∧ Cond.selects yX10_goesByLast.cls yX10_goesByLast yX10_goesByLast ∈ tbW := ⟨tbW_mem (List.mem_of_getElem? (i := 1575) (by decide +kernel)) rfl, tbW_mem (List.mem_of_getElem? (i := 81) (by decide +kernel)) rfl⟩
abbrev mX10_worthAt : MInf := (yX10_worthAt, cX10_worthAt, 2, (some .int), 1, 0, 0)
theorem oX10_worthAt : Cond.code yX10_worthAt cX10_worthAt 2 (some .int) ∈ tbW := tbW_mem (List.mem_of_getElem? (i := 1589) (by decide +kernel)) rfl
theorem iX10_worthAt : Cond.instanceMethod yX10_worthAt ∈ tbW ∧ Cond.selects yX10_worthAt.cls yX10_worthAt yX10_worthAt ∈ tbW := ⟨tbW_mem (List.mem_of_getElem? (i := 1588) (by decide +kernel)) rfl, tbW_mem (List.mem_of_getElem? (i := 84) (by decide +kernel)) rfl⟩
abbrev mX10_isGuest : MInf := (yX10_isGuest, cX10_isGuest, 4, (some .boolean), 1, 0, 0)
theorem oX10_isGuest : Cond.code yX10_isGuest cX10_isGuest 4 (some .boolean) ∈ tbW := tbW_mem (List.mem_of_getElem? (i := 1568) (by decide +kernel)) rfl
theorem iX10_isGuest : Cond.instanceMethod yX10_isGuest ∈ tbW ∧ Cond.selects yX10_isGuest.cls yX10_isGuest yX10_isGuest ∈ tbW := ⟨tbW_mem (List.mem_of_getElem? (i := 1567) (by decide +kernel)) rfl, tbW_mem (List.mem_of_getElem? (i := 79) (by decide +kernel)) rfl⟩
abbrev mX10_guests : MInf := (yX10_guests, cX10_guests, 5, (some .int), 2, 0, 0)
theorem oX10_guests : Cond.code yX10_guests cX10_guests 5 (some .int) ∈ tbW := tbW_mem (List.mem_of_getElem? (i := 1580) (by decide +kernel)) rfl
theorem iX10_guests : Cond.instanceMethod yX10_guests ∈ tbW ∧ Cond.selects yX10_guests.cls yX10_guests yX10_guests ∈ tbW := ⟨tbW_mem (List.mem_of_getElem? (i := 1579) (by decide +kernel)) rfl, tbW_mem (List.mem_of_getElem? (i := 82) (by decide +kernel)) rfl⟩
abbrev mX10_has : MInf := (yX10_has, cX10_has, 6, (some .int), 2, 0, 0)
theorem oX10_has : Cond.code yX10_has cX10_has 6 (some .int) ∈ tbW := tbW_mem (List.mem_of_getElem? (i := 1564) (by decide +kernel)) rfl
theorem iX10_has : Cond.instanceMethod yX10_has ∈ tbW ∧ Cond.selects yX10_has.cls yX10_has yX10_has ∈ tbW := ⟨tbW_mem (List.mem_of_getElem? (i := 1563) (by decide +kernel)) rfl, tbW_mem (List.mem_of_getElem? (i := 78) (by decide +kernel)) rfl⟩
abbrev mX10_works : MInf := (yX10_works, cX10_works, 3, (some .boolean), 1, 0, 0)
theorem oX10_works : Cond.code yX10_works cX10_works 3 (some .boolean) ∈ tbW := tbW_mem (List.mem_of_getElem? (i := 1541) (by decide +kernel)) rfl
theorem iX10_works : Cond.instanceMethod yX10_works ∈ tbW ∧ Cond.selects yX10_works.cls yX10_works yX10_works ∈ tbW := ⟨tbW_mem (List.mem_of_getElem? (i := 1540) (by decide +kernel)) rfl, tbW_mem (List.mem_of_getElem? (i := 74) (by decide +kernel)) rfl⟩
abbrev mX10_draw : MInf := (yX10_draw, cX10_draw, 4, (some .int), 1, 0, 0)
theorem oX10_draw : Cond.code yX10_draw cX10_draw 4 (some .int) ∈ tbW := tbW_mem (List.mem_of_getElem? (i := 1548) (by decide +kernel)) rfl
theorem sX10_draw : Cond.static yX10_draw ∈ tbW := tbW_mem (List.mem_of_getElem? (i := 1547) (by decide +kernel)) rfl
abbrev mX10_planWishes : MInf := (yX10_planWishes, cX10_planWishes, 3, (none : Option Jvm.ClassFile.FieldType), 2, 0, 0)
theorem oX10_planWishes : Cond.code yX10_planWishes cX10_planWishes 3 (none : Option Jvm.ClassFile.FieldType) ∈ tbW := tbW_mem (List.mem_of_getElem? (i := 1537) (by decide +kernel)) rfl
theorem iX10_planWishes : Cond.instanceMethod yX10_planWishes ∈ tbW ∧ Cond.selects yX10_planWishes.cls yX10_planWishes yX10_planWishes ∈ tbW := ⟨tbW_mem (List.mem_of_getElem? (i := 1536) (by decide +kernel)) rfl, tbW_mem (List.mem_of_getElem? (i := 73) (by decide +kernel)) rfl⟩
abbrev mX10_strolls : MInf := (yX10_strolls, cX10_strolls, 4, (none : Option Jvm.ClassFile.FieldType), 2, 0, 0)
theorem oX10_strolls : Cond.code yX10_strolls cX10_strolls 4 (none : Option Jvm.ClassFile.FieldType) ∈ tbW := tbW_mem (List.mem_of_getElem? (i := 1545) (by decide +kernel)) rfl
theorem iX10_strolls : Cond.instanceMethod yX10_strolls ∈ tbW ∧ Cond.selects yX10_strolls.cls yX10_strolls yX10_strolls ∈ tbW := ⟨tbW_mem (List.mem_of_getElem? (i := 1544) (by decide +kernel)) rfl, tbW_mem (List.mem_of_getElem? (i := 75) (by decide +kernel)) rfl⟩
abbrev mX10_comes : MInf := (yX10_comes, cX10_comes, 5, (none : Option Jvm.ClassFile.FieldType), 3, 0, 0)
theorem oX10_comes : Cond.code yX10_comes cX10_comes 5 (none : Option Jvm.ClassFile.FieldType) ∈ tbW := tbW_mem (List.mem_of_getElem? (i := 1560) (by decide +kernel)) rfl
theorem iX10_comes : Cond.instanceMethod yX10_comes ∈ tbW ∧ Cond.selects yX10_comes.cls yX10_comes yX10_comes ∈ tbW := ⟨tbW_mem (List.mem_of_getElem? (i := 1559) (by decide +kernel)) rfl, tbW_mem (List.mem_of_getElem? (i := 77) (by decide +kernel)) rfl⟩
abbrev mX10_goQuarter : MInf := (yX10_goQuarter, cX10_goQuarter, 5, (none : Option Jvm.ClassFile.FieldType), 4, 0, 0)
theorem oX10_goQuarter : Cond.code yX10_goQuarter cX10_goQuarter 5 (none : Option Jvm.ClassFile.FieldType) ∈ tbW := tbW_mem (List.mem_of_getElem? (i := 1556) (by decide +kernel)) rfl
theorem iX10_goQuarter : Cond.instanceMethod yX10_goQuarter ∈ tbW ∧ Cond.selects yX10_goQuarter.cls yX10_goQuarter yX10_goQuarter ∈ tbW := ⟨tbW_mem (List.mem_of_getElem? (i := 1555) (by decide +kernel)) rfl, tbW_mem (List.mem_of_getElem? (i := 76) (by decide +kernel)) rfl⟩
abbrev mX10_tiesOf : MInf := (yX10_tiesOf, cX10_tiesOf, 5, (some .int), 1, 0, 0)
theorem oX10_tiesOf : Cond.code yX10_tiesOf cX10_tiesOf 5 (some .int) ∈ tbW := tbW_mem (List.mem_of_getElem? (i := 1584) (by decide +kernel)) rfl
theorem iX10_tiesOf : Cond.instanceMethod yX10_tiesOf ∈ tbW ∧ Cond.selects yX10_tiesOf.cls yX10_tiesOf yX10_tiesOf ∈ tbW := ⟨tbW_mem (List.mem_of_getElem? (i := 1583) (by decide +kernel)) rfl, tbW_mem (List.mem_of_getElem? (i := 83) (by decide +kernel)) rfl⟩
abbrev mX10_placeOf : MInf := (yX10_placeOf, cX10_placeOf, 1, (some .int), 1, 0, 0)
theorem oX10_placeOf : Cond.code yX10_placeOf cX10_placeOf 1 (some .int) ∈ tbW := tbW_mem (List.mem_of_getElem? (i := 1511) (by decide +kernel)) rfl
theorem sX10_placeOf : Cond.static yX10_placeOf ∈ tbW := tbW_mem (List.mem_of_getElem? (i := 1510) (by decide +kernel)) rfl
abbrev mX10_plan : MInf := (yX10_plan, cX10_plan, 4, (some .int), 3, 0, 0)
theorem oX10_plan : Cond.code yX10_plan cX10_plan 4 (some .int) ∈ tbW := tbW_mem (List.mem_of_getElem? (i := 1504) (by decide +kernel)) rfl
theorem iX10_plan : Cond.instanceMethod yX10_plan ∈ tbW ∧ Cond.selects yX10_plan.cls yX10_plan yX10_plan ∈ tbW := ⟨tbW_mem (List.mem_of_getElem? (i := 1502) (by decide +kernel)) rfl, tbW_mem (List.mem_of_getElem? (i := 1503) (by decide +kernel)) rfl⟩
abbrev mX10_told0 : MInf := (yX10_told0, cX10_told0, 1, (some .int), 1, 0, 0)
theorem oX10_told0 : Cond.code yX10_told0 cX10_told0 1 (some .int) ∈ tbW := tbW_mem (List.mem_of_getElem? (i := 1519) (by decide +kernel)) rfl
theorem sX10_told0 : Cond.static yX10_told0 ∈ tbW := tbW_mem (List.mem_of_getElem? (i := 1518) (by decide +kernel)) rfl
abbrev mX10_planned : MInf := (yX10_planned, cX10_planned, 3, (some .int), 3, 0, 0)
theorem oX10_planned : Cond.code yX10_planned cX10_planned 3 (some .int) ∈ tbW := tbW_mem (List.mem_of_getElem? (i := 1515) (by decide +kernel)) rfl
theorem iX10_planned : Cond.instanceMethod yX10_planned ∈ tbW ∧ Cond.selects yX10_planned.cls yX10_planned yX10_planned ∈ tbW := ⟨tbW_mem (List.mem_of_getElem? (i := 1513) (by decide +kernel)) rfl, tbW_mem (List.mem_of_getElem? (i := 1514) (by decide +kernel)) rfl⟩
abbrev mX10_lets : MInf := (yX10_lets, cX10_lets, 4, (some .int), 3, 0, 0)
theorem oX10_lets : Cond.code yX10_lets cX10_lets 4 (some .int) ∈ tbW := tbW_mem (List.mem_of_getElem? (i := 1523) (by decide +kernel)) rfl
theorem iX10_lets : Cond.instanceMethod yX10_lets ∈ tbW ∧ Cond.selects yX10_lets.cls yX10_lets yX10_lets ∈ tbW := ⟨tbW_mem (List.mem_of_getElem? (i := 1521) (by decide +kernel)) rfl, tbW_mem (List.mem_of_getElem? (i := 1522) (by decide +kernel)) rfl⟩
abbrev mX10_chance : MInf := (yX10_chance, cX10_chance, 2, (some .int), 1, 0, 0)
theorem oX10_chance : Cond.code yX10_chance cX10_chance 2 (some .int) ∈ tbW := tbW_mem (List.mem_of_getElem? (i := 1528) (by decide +kernel)) rfl
theorem iX10_chance : Cond.instanceMethod yX10_chance ∈ tbW ∧ Cond.selects yX10_chance.cls yX10_chance yX10_chance ∈ tbW := ⟨tbW_mem (List.mem_of_getElem? (i := 1526) (by decide +kernel)) rfl, tbW_mem (List.mem_of_getElem? (i := 1527) (by decide +kernel)) rfl⟩
abbrev mX10_pass : MInf := (yX10_pass, cX10_pass, 3, (some .int), 5, 0, 0)
theorem oX10_pass : Cond.code yX10_pass cX10_pass 3 (some .int) ∈ tbW := tbW_mem (List.mem_of_getElem? (i := 1532) (by decide +kernel)) rfl
theorem iX10_pass : Cond.instanceMethod yX10_pass ∈ tbW ∧ Cond.selects yX10_pass.cls yX10_pass yX10_pass ∈ tbW := ⟨tbW_mem (List.mem_of_getElem? (i := 1530) (by decide +kernel)) rfl, tbW_mem (List.mem_of_getElem? (i := 1531) (by decide +kernel)) rfl⟩
abbrev mX10_who : MInf := (yX10_who, cX10_who, 3, (some .int), 3, 0, 0)
theorem oX10_who : Cond.code yX10_who cX10_who 3 (some .int) ∈ tbW := tbW_mem (List.mem_of_getElem? (i := 1594) (by decide +kernel)) rfl
theorem iX10_who : Cond.instanceMethod yX10_who ∈ tbW ∧ Cond.selects yX10_who.cls yX10_who yX10_who ∈ tbW := ⟨tbW_mem (List.mem_of_getElem? (i := 1592) (by decide +kernel)) rfl, tbW_mem (List.mem_of_getElem? (i := 1593) (by decide +kernel)) rfl⟩
abbrev mX10_house : MInf := (yX10_house, cX10_house, 3, (some .int), 3, 0, 0)
theorem oX10_house : Cond.code yX10_house cX10_house 3 (some .int) ∈ tbW := tbW_mem (List.mem_of_getElem? (i := 1599) (by decide +kernel)) rfl
theorem iX10_house : Cond.instanceMethod yX10_house ∈ tbW ∧ Cond.selects yX10_house.cls yX10_house yX10_house ∈ tbW := ⟨tbW_mem (List.mem_of_getElem? (i := 1597) (by decide +kernel)) rfl, tbW_mem (List.mem_of_getElem? (i := 1598) (by decide +kernel)) rfl⟩
abbrev mX10_word : MInf := (yX10_word, cX10_word, 6, (some .int), 3, 0, 0)
theorem oX10_word : Cond.code yX10_word cX10_word 6 (some .int) ∈ tbW := tbW_mem (List.mem_of_getElem? (i := 1603) (by decide +kernel)) rfl
theorem iX10_word : Cond.instanceMethod yX10_word ∈ tbW ∧ Cond.selects yX10_word.cls yX10_word yX10_word ∈ tbW := ⟨tbW_mem (List.mem_of_getElem? (i := 1601) (by decide +kernel)) rfl, tbW_mem (List.mem_of_getElem? (i := 1602) (by decide +kernel)) rfl⟩
abbrev mX10_isSlot : MInf := (yX10_isSlot, cX10_isSlot, 1, (some .boolean), 2, 0, 0)
theorem oX10_isSlot : Cond.code yX10_isSlot cX10_isSlot 1 (some .boolean) ∈ tbW := tbW_mem (List.mem_of_getElem? (i := 1610) (by decide +kernel)) rfl
theorem sX10_isSlot : Cond.static yX10_isSlot ∈ tbW := tbW_mem (List.mem_of_getElem? (i := 1609) (by decide +kernel)) rfl
abbrev mX10_keep : MInf := (yX10_keep, cX10_keep, 3, (some .int), 3, 0, 0)
theorem oX10_keep : Cond.code yX10_keep cX10_keep 3 (some .int) ∈ tbW := tbW_mem (List.mem_of_getElem? (i := 1607) (by decide +kernel)) rfl
theorem iX10_keep : Cond.instanceMethod yX10_keep ∈ tbW ∧ Cond.selects yX10_keep.cls yX10_keep yX10_keep ∈ tbW := ⟨tbW_mem (List.mem_of_getElem? (i := 1605) (by decide +kernel)) rfl, tbW_mem (List.mem_of_getElem? (i := 1606) (by decide +kernel)) rfl⟩
abbrev mX10_take : MInf := (yX10_take, cX10_take, 3, (some .int), 3, 0, 0)
theorem oX10_take : Cond.code yX10_take cX10_take 3 (some .int) ∈ tbW := tbW_mem (List.mem_of_getElem? (i := 1614) (by decide +kernel)) rfl
theorem iX10_take : Cond.instanceMethod yX10_take ∈ tbW ∧ Cond.selects yX10_take.cls yX10_take yX10_take ∈ tbW := ⟨tbW_mem (List.mem_of_getElem? (i := 1612) (by decide +kernel)) rfl, tbW_mem (List.mem_of_getElem? (i := 1613) (by decide +kernel)) rfl⟩
abbrev mX10_copyNow : MInf := (yX10_copyNow, cX10_copyNow, 2, (none : Option Jvm.ClassFile.FieldType), 1, 0, 0)
theorem oX10_copyNow : Cond.code yX10_copyNow cX10_copyNow 2 (none : Option Jvm.ClassFile.FieldType) ∈ tbW := tbW_mem (List.mem_of_getElem? (i := 1626) (by decide +kernel)) rfl
theorem iX10_copyNow : Cond.instanceMethod yX10_copyNow ∈ tbW ∧ Cond.selects yX10_copyNow.cls yX10_copyNow yX10_copyNow ∈ tbW := ⟨tbW_mem (List.mem_of_getElem? (i := 1625) (by decide +kernel)) rfl, tbW_mem (List.mem_of_getElem? (i := 86) (by decide +kernel)) rfl⟩
abbrev mX10_goTrial : MInf := (yX10_goTrial, cX10_goTrial, 3, (none : Option Jvm.ClassFile.FieldType), 5, 0, 0)
theorem oX10_goTrial : Cond.code yX10_goTrial cX10_goTrial 3 (none : Option Jvm.ClassFile.FieldType) ∈ tbW := tbW_mem (List.mem_of_getElem? (i := 1634) (by decide +kernel)) rfl
theorem iX10_goTrial : Cond.instanceMethod yX10_goTrial ∈ tbW ∧ Cond.selects yX10_goTrial.cls yX10_goTrial yX10_goTrial ∈ tbW := ⟨tbW_mem (List.mem_of_getElem? (i := 1633) (by decide +kernel)) rfl, tbW_mem (List.mem_of_getElem? (i := 88) (by decide +kernel)) rfl⟩
abbrev mX10_sumOf : MInf := (yX10_sumOf, cX10_sumOf, 3, (some .int), 6, 0, 0)
theorem oX10_sumOf : Cond.code yX10_sumOf cX10_sumOf 3 (some .int) ∈ tbW := tbW_mem (List.mem_of_getElem? (i := 1630) (by decide +kernel)) rfl
theorem iX10_sumOf : Cond.instanceMethod yX10_sumOf ∈ tbW ∧ Cond.selects yX10_sumOf.cls yX10_sumOf yX10_sumOf ∈ tbW := ⟨tbW_mem (List.mem_of_getElem? (i := 1629) (by decide +kernel)) rfl, tbW_mem (List.mem_of_getElem? (i := 87) (by decide +kernel)) rfl⟩
abbrev mX10_sumNow : MInf := (yX10_sumNow, cX10_sumNow, 2, (some .int), 7, 0, 0)
theorem oX10_sumNow : Cond.code yX10_sumNow cX10_sumNow 2 (some .int) ∈ tbW := tbW_mem (List.mem_of_getElem? (i := 1622) (by decide +kernel)) rfl
theorem iX10_sumNow : Cond.instanceMethod yX10_sumNow ∈ tbW ∧ Cond.selects yX10_sumNow.cls yX10_sumNow yX10_sumNow ∈ tbW := ⟨tbW_mem (List.mem_of_getElem? (i := 1621) (by decide +kernel)) rfl, tbW_mem (List.mem_of_getElem? (i := 85) (by decide +kernel)) rfl⟩
abbrev mX10_sum : MInf := (yX10_sum, cX10_sum, 2, (some .int), 8, 0, 0)
theorem oX10_sum : Cond.code yX10_sum cX10_sum 2 (some .int) ∈ tbW := tbW_mem (List.mem_of_getElem? (i := 1618) (by decide +kernel)) rfl
theorem iX10_sum : Cond.instanceMethod yX10_sum ∈ tbW ∧ Cond.selects yX10_sum.cls yX10_sum yX10_sum ∈ tbW := ⟨tbW_mem (List.mem_of_getElem? (i := 1616) (by decide +kernel)) rfl, tbW_mem (List.mem_of_getElem? (i := 1617) (by decide +kernel)) rfl⟩
abbrev mX10_place : MInf := (yX10_place, cX10_place, 2, (some .int), 1, 0, 0)
theorem oX10_place : Cond.code yX10_place cX10_place 2 (some .int) ∈ tbW := tbW_mem (List.mem_of_getElem? (i := 1647) (by decide +kernel)) rfl
theorem iX10_place : Cond.instanceMethod yX10_place ∈ tbW ∧ Cond.selects yX10_place.cls yX10_place yX10_place ∈ tbW := ⟨tbW_mem (List.mem_of_getElem? (i := 1646) (by decide +kernel)) rfl, tbW_mem (List.mem_of_getElem? (i := 90) (by decide +kernel)) rfl⟩
abbrev mX10_findBest : MInf := (yX10_findBest, cX10_findBest, 9, (some .int), 7, 0, 0)
theorem oX10_findBest : Cond.code yX10_findBest cX10_findBest 9 (some .int) ∈ tbW := tbW_mem (List.mem_of_getElem? (i := 1643) (by decide +kernel)) rfl
theorem iX10_findBest : Cond.instanceMethod yX10_findBest ∈ tbW ∧ Cond.selects yX10_findBest.cls yX10_findBest yX10_findBest ∈ tbW := ⟨tbW_mem (List.mem_of_getElem? (i := 1642) (by decide +kernel)) rfl, tbW_mem (List.mem_of_getElem? (i := 89) (by decide +kernel)) rfl⟩
abbrev mX10_best : MInf := (yX10_best, cX10_best, 4, (some .int), 8, 0, 0)
theorem oX10_best : Cond.code yX10_best cX10_best 4 (some .int) ∈ tbW := tbW_mem (List.mem_of_getElem? (i := 1638) (by decide +kernel)) rfl
theorem iX10_best : Cond.instanceMethod yX10_best ∈ tbW ∧ Cond.selects yX10_best.cls yX10_best yX10_best ∈ tbW := ⟨tbW_mem (List.mem_of_getElem? (i := 1636) (by decide +kernel)) rfl, tbW_mem (List.mem_of_getElem? (i := 1637) (by decide +kernel)) rfl⟩
abbrev mX10_weight : MInf := (yX10_weight, cX10_weight, 4, (some .int), 1, 0, 0)
theorem oX10_weight : Cond.code yX10_weight cX10_weight 4 (some .int) ∈ tbW := tbW_mem (List.mem_of_getElem? (i := 1671) (by decide +kernel)) rfl
theorem iX10_weight : Cond.instanceMethod yX10_weight ∈ tbW ∧ Cond.selects yX10_weight.cls yX10_weight yX10_weight ∈ tbW := ⟨tbW_mem (List.mem_of_getElem? (i := 1670) (by decide +kernel)) rfl, tbW_mem (List.mem_of_getElem? (i := 95) (by decide +kernel)) rfl⟩
abbrev mX10_rows : MInf := (yX10_rows, cX10_rows, 3, (some .int), 1, 0, 0)
theorem oX10_rows : Cond.code yX10_rows cX10_rows 3 (some .int) ∈ tbW := tbW_mem (List.mem_of_getElem? (i := 1659) (by decide +kernel)) rfl
theorem iX10_rows : Cond.instanceMethod yX10_rows ∈ tbW ∧ Cond.selects yX10_rows.cls yX10_rows yX10_rows ∈ tbW := ⟨tbW_mem (List.mem_of_getElem? (i := 1658) (by decide +kernel)) rfl, tbW_mem (List.mem_of_getElem? (i := 92) (by decide +kernel)) rfl⟩
abbrev mX10_wished : MInf := (yX10_wished, cX10_wished, 3, (some .int), 2, 0, 0)
theorem oX10_wished : Cond.code yX10_wished cX10_wished 3 (some .int) ∈ tbW := tbW_mem (List.mem_of_getElem? (i := 1667) (by decide +kernel)) rfl
theorem iX10_wished : Cond.instanceMethod yX10_wished ∈ tbW ∧ Cond.selects yX10_wished.cls yX10_wished yX10_wished ∈ tbW := ⟨tbW_mem (List.mem_of_getElem? (i := 1666) (by decide +kernel)) rfl, tbW_mem (List.mem_of_getElem? (i := 94) (by decide +kernel)) rfl⟩
abbrev mX10_goWishes : MInf := (yX10_goWishes, cX10_goWishes, 3, (none : Option Jvm.ClassFile.FieldType), 5, 0, 0)
theorem oX10_goWishes : Cond.code yX10_goWishes cX10_goWishes 3 (none : Option Jvm.ClassFile.FieldType) ∈ tbW := tbW_mem (List.mem_of_getElem? (i := 1663) (by decide +kernel)) rfl
theorem iX10_goWishes : Cond.instanceMethod yX10_goWishes ∈ tbW ∧ Cond.selects yX10_goWishes.cls yX10_goWishes yX10_goWishes ∈ tbW := ⟨tbW_mem (List.mem_of_getElem? (i := 1662) (by decide +kernel)) rfl, tbW_mem (List.mem_of_getElem? (i := 93) (by decide +kernel)) rfl⟩
abbrev mX10_findGains : MInf := (yX10_findGains, cX10_findGains, 3, (none : Option Jvm.ClassFile.FieldType), 6, 0, 0)
theorem oX10_findGains : Cond.code yX10_findGains cX10_findGains 3 (none : Option Jvm.ClassFile.FieldType) ∈ tbW := tbW_mem (List.mem_of_getElem? (i := 1655) (by decide +kernel)) rfl
theorem iX10_findGains : Cond.instanceMethod yX10_findGains ∈ tbW ∧ Cond.selects yX10_findGains.cls yX10_findGains yX10_findGains ∈ tbW := ⟨tbW_mem (List.mem_of_getElem? (i := 1654) (by decide +kernel)) rfl, tbW_mem (List.mem_of_getElem? (i := 91) (by decide +kernel)) rfl⟩
abbrev mX10_isRest : MInf := (yX10_isRest, cX10_isRest, 5, (some .boolean), 3, 0, 0)
theorem oX10_isRest : Cond.code yX10_isRest cX10_isRest 5 (some .boolean) ∈ tbW := tbW_mem (List.mem_of_getElem? (i := 1675) (by decide +kernel)) rfl
theorem iX10_isRest : Cond.instanceMethod yX10_isRest ∈ tbW ∧ Cond.selects yX10_isRest.cls yX10_isRest yX10_isRest ∈ tbW := ⟨tbW_mem (List.mem_of_getElem? (i := 1674) (by decide +kernel)) rfl, tbW_mem (List.mem_of_getElem? (i := 96) (by decide +kernel)) rfl⟩
abbrev mX10_rests : MInf := (yX10_rests, cX10_rests, 3, (some .int), 7, 0, 0)
theorem oX10_rests : Cond.code yX10_rests cX10_rests 3 (some .int) ∈ tbW := tbW_mem (List.mem_of_getElem? (i := 1651) (by decide +kernel)) rfl
theorem iX10_rests : Cond.instanceMethod yX10_rests ∈ tbW ∧ Cond.selects yX10_rests.cls yX10_rests yX10_rests ∈ tbW := ⟨tbW_mem (List.mem_of_getElem? (i := 1649) (by decide +kernel)) rfl, tbW_mem (List.mem_of_getElem? (i := 1650) (by decide +kernel)) rfl⟩
abbrev mX10_rest : MInf := (yX10_rest, cX10_rest, 5, (some .int), 7, 0, 0)
theorem oX10_rest : Cond.code yX10_rest cX10_rest 5 (some .int) ∈ tbW := tbW_mem (List.mem_of_getElem? (i := 1679) (by decide +kernel)) rfl
theorem iX10_rest : Cond.instanceMethod yX10_rest ∈ tbW ∧ Cond.selects yX10_rest.cls yX10_rest yX10_rest ∈ tbW := ⟨tbW_mem (List.mem_of_getElem? (i := 1677) (by decide +kernel)) rfl, tbW_mem (List.mem_of_getElem? (i := 1678) (by decide +kernel)) rfl⟩
abbrev mX10_settle : MInf := (yX10_settle, cX10_settle, 6, (some .int), 8, 0, 0)
theorem oX10_settle : Cond.code yX10_settle cX10_settle 6 (some .int) ∈ tbW := tbW_mem (List.mem_of_getElem? (i := 1683) (by decide +kernel)) rfl
theorem iX10_settle : Cond.instanceMethod yX10_settle ∈ tbW ∧ Cond.selects yX10_settle.cls yX10_settle yX10_settle ∈ tbW := ⟨tbW_mem (List.mem_of_getElem? (i := 1681) (by decide +kernel)) rfl, tbW_mem (List.mem_of_getElem? (i := 1682) (by decide +kernel)) rfl⟩
abbrev mX10_longer : MInf := (yX10_longer, cX10_longer, 4, (some .int), 6, 0, 0)
theorem oX10_longer : Cond.code yX10_longer cX10_longer 4 (some .int) ∈ tbW := tbW_mem (List.mem_of_getElem? (i := 1687) (by decide +kernel)) rfl
theorem iX10_longer : Cond.instanceMethod yX10_longer ∈ tbW ∧ Cond.selects yX10_longer.cls yX10_longer yX10_longer ∈ tbW := ⟨tbW_mem (List.mem_of_getElem? (i := 1685) (by decide +kernel)) rfl, tbW_mem (List.mem_of_getElem? (i := 1686) (by decide +kernel)) rfl⟩
abbrev mX10_guard : MInf := (yX10_guard, cX10_guard, 5, (some .int), 8, 0, 0)
theorem oX10_guard : Cond.code yX10_guard cX10_guard 5 (some .int) ∈ tbW := tbW_mem (List.mem_of_getElem? (i := 1692) (by decide +kernel)) rfl
theorem iX10_guard : Cond.instanceMethod yX10_guard ∈ tbW ∧ Cond.selects yX10_guard.cls yX10_guard yX10_guard ∈ tbW := ⟨tbW_mem (List.mem_of_getElem? (i := 1690) (by decide +kernel)) rfl, tbW_mem (List.mem_of_getElem? (i := 1691) (by decide +kernel)) rfl⟩
abbrev mX10_holds : MInf := (yX10_holds, cX10_holds, 5, (some .boolean), 2, 0, 0)
theorem oX10_holds : Cond.code yX10_holds cX10_holds 5 (some .boolean) ∈ tbW := tbW_mem (List.mem_of_getElem? (i := 1704) (by decide +kernel)) rfl
theorem iX10_holds : Cond.instanceMethod yX10_holds ∈ tbW ∧ Cond.selects yX10_holds.cls yX10_holds yX10_holds ∈ tbW := ⟨tbW_mem (List.mem_of_getElem? (i := 1703) (by decide +kernel)) rfl, tbW_mem (List.mem_of_getElem? (i := 98) (by decide +kernel)) rfl⟩
abbrev mX10_isRing : MInf := (yX10_isRing, cX10_isRing, 6, (some .boolean), 3, 0, 0)
theorem oX10_isRing : Cond.code yX10_isRing cX10_isRing 6 (some .boolean) ∈ tbW := tbW_mem (List.mem_of_getElem? (i := 1700) (by decide +kernel)) rfl
theorem iX10_isRing : Cond.instanceMethod yX10_isRing ∈ tbW ∧ Cond.selects yX10_isRing.cls yX10_isRing yX10_isRing ∈ tbW := ⟨tbW_mem (List.mem_of_getElem? (i := 1699) (by decide +kernel)) rfl, tbW_mem (List.mem_of_getElem? (i := 97) (by decide +kernel)) rfl⟩
abbrev mX10_rings : MInf := (yX10_rings, cX10_rings, 7, (some .int), 7, 0, 0)
theorem oX10_rings : Cond.code yX10_rings cX10_rings 7 (some .int) ∈ tbW := tbW_mem (List.mem_of_getElem? (i := 1696) (by decide +kernel)) rfl
theorem iX10_rings : Cond.instanceMethod yX10_rings ∈ tbW ∧ Cond.selects yX10_rings.cls yX10_rings yX10_rings ∈ tbW := ⟨tbW_mem (List.mem_of_getElem? (i := 1694) (by decide +kernel)) rfl, tbW_mem (List.mem_of_getElem? (i := 1695) (by decide +kernel)) rfl⟩
abbrev mX10_when : MInf := (yX10_when, cX10_when, 6, (some .int), 7, 0, 0)
theorem oX10_when : Cond.code yX10_when cX10_when 6 (some .int) ∈ tbW := tbW_mem (List.mem_of_getElem? (i := 1708) (by decide +kernel)) rfl
theorem iX10_when : Cond.instanceMethod yX10_when ∈ tbW ∧ Cond.selects yX10_when.cls yX10_when yX10_when ∈ tbW := ⟨tbW_mem (List.mem_of_getElem? (i := 1706) (by decide +kernel)) rfl, tbW_mem (List.mem_of_getElem? (i := 1707) (by decide +kernel)) rfl⟩
abbrev mX10_bound : MInf := (yX10_bound, cX10_bound, 4, (some .int), 8, 0, 0)
theorem oX10_bound : Cond.code yX10_bound cX10_bound 4 (some .int) ∈ tbW := tbW_mem (List.mem_of_getElem? (i := 1712) (by decide +kernel)) rfl
theorem iX10_bound : Cond.instanceMethod yX10_bound ∈ tbW ∧ Cond.selects yX10_bound.cls yX10_bound yX10_bound ∈ tbW := ⟨tbW_mem (List.mem_of_getElem? (i := 1710) (by decide +kernel)) rfl, tbW_mem (List.mem_of_getElem? (i := 1711) (by decide +kernel)) rfl⟩
abbrev mX10_tryLaw : MInf := (yX10_tryLaw, cX10_tryLaw, 5, (none : Option Jvm.ClassFile.FieldType), 6, 0, 0)
theorem oX10_tryLaw : Cond.code yX10_tryLaw cX10_tryLaw 5 (none : Option Jvm.ClassFile.FieldType) ∈ tbW := tbW_mem (List.mem_of_getElem? (i := 1724) (by decide +kernel)) rfl
theorem iX10_tryLaw : Cond.instanceMethod yX10_tryLaw ∈ tbW ∧ Cond.selects yX10_tryLaw.cls yX10_tryLaw yX10_tryLaw ∈ tbW := ⟨tbW_mem (List.mem_of_getElem? (i := 1723) (by decide +kernel)) rfl, tbW_mem (List.mem_of_getElem? (i := 99) (by decide +kernel)) rfl⟩
abbrev mX10_law : MInf := (yX10_law, cX10_law, 5, (some .int), 7, 0, 0)
theorem oX10_law : Cond.code yX10_law cX10_law 5 (some .int) ∈ tbW := tbW_mem (List.mem_of_getElem? (i := 1718) (by decide +kernel)) rfl
theorem iX10_law : Cond.instanceMethod yX10_law ∈ tbW ∧ Cond.selects yX10_law.cls yX10_law yX10_law ∈ tbW := ⟨tbW_mem (List.mem_of_getElem? (i := 1716) (by decide +kernel)) rfl, tbW_mem (List.mem_of_getElem? (i := 1717) (by decide +kernel)) rfl⟩
abbrev mX10_bestLaw : MInf := (yX10_bestLaw, cX10_bestLaw, 6, (some .int), 7, 0, 0)
theorem oX10_bestLaw : Cond.code yX10_bestLaw cX10_bestLaw 6 (some .int) ∈ tbW := tbW_mem (List.mem_of_getElem? (i := 1728) (by decide +kernel)) rfl
theorem iX10_bestLaw : Cond.instanceMethod yX10_bestLaw ∈ tbW ∧ Cond.selects yX10_bestLaw.cls yX10_bestLaw yX10_bestLaw ∈ tbW := ⟨tbW_mem (List.mem_of_getElem? (i := 1726) (by decide +kernel)) rfl, tbW_mem (List.mem_of_getElem? (i := 1727) (by decide +kernel)) rfl⟩
abbrev mX10_feast : MInf := (yX10_feast, cX10_feast, 5, (some .int), 3, 0, 0)
theorem oX10_feast : Cond.code yX10_feast cX10_feast 5 (some .int) ∈ tbW := tbW_mem (List.mem_of_getElem? (i := 1732) (by decide +kernel)) rfl
theorem iX10_feast : Cond.instanceMethod yX10_feast ∈ tbW ∧ Cond.selects yX10_feast.cls yX10_feast yX10_feast ∈ tbW := ⟨tbW_mem (List.mem_of_getElem? (i := 1730) (by decide +kernel)) rfl, tbW_mem (List.mem_of_getElem? (i := 1731) (by decide +kernel)) rfl⟩
abbrev mX10_behindTurns : MInf := (yX10_behindTurns, cX10_behindTurns, 5, (some .int), 1, 0, 0)
theorem oX10_behindTurns : Cond.code yX10_behindTurns cX10_behindTurns 5 (some .int) ∈ tbW := tbW_mem (List.mem_of_getElem? (i := 1740) (by decide +kernel)) rfl
theorem iX10_behindTurns : Cond.instanceMethod yX10_behindTurns ∈ tbW ∧ Cond.selects yX10_behindTurns.cls yX10_behindTurns yX10_behindTurns ∈ tbW := ⟨tbW_mem (List.mem_of_getElem? (i := 1739) (by decide +kernel)) rfl, tbW_mem (List.mem_of_getElem? (i := 101) (by decide +kernel)) rfl⟩
abbrev mX10_allHome : MInf := (yX10_allHome, cX10_allHome, 3, (some .boolean), 2, 0, 0)
theorem oX10_allHome : Cond.code yX10_allHome cX10_allHome 3 (some .boolean) ∈ tbW := tbW_mem (List.mem_of_getElem? (i := 1736) (by decide +kernel)) rfl
theorem iX10_allHome : Cond.instanceMethod yX10_allHome ∈ tbW ∧ Cond.selects yX10_allHome.cls yX10_allHome yX10_allHome ∈ tbW := ⟨tbW_mem (List.mem_of_getElem? (i := 1735) (by decide +kernel)) rfl, tbW_mem (List.mem_of_getElem? (i := 100) (by decide +kernel)) rfl⟩
abbrev mX10_turned : MInf := (yX10_turned, cX10_turned, 3, (some .int), 3, 0, 0)
theorem oX10_turned : Cond.code yX10_turned cX10_turned 3 (some .int) ∈ tbW := tbW_mem (List.mem_of_getElem? (i := 1744) (by decide +kernel)) rfl
theorem iX10_turned : Cond.instanceMethod yX10_turned ∈ tbW ∧ Cond.selects yX10_turned.cls yX10_turned yX10_turned ∈ tbW := ⟨tbW_mem (List.mem_of_getElem? (i := 1742) (by decide +kernel)) rfl, tbW_mem (List.mem_of_getElem? (i := 1743) (by decide +kernel)) rfl⟩
abbrev mX10_whom : MInf := (yX10_whom, cX10_whom, 6, (some .int), 7, 0, 0)
theorem oX10_whom : Cond.code yX10_whom cX10_whom 6 (some .int) ∈ tbW := tbW_mem (List.mem_of_getElem? (i := 1749) (by decide +kernel)) rfl
theorem iX10_whom : Cond.instanceMethod yX10_whom ∈ tbW ∧ Cond.selects yX10_whom.cls yX10_whom yX10_whom ∈ tbW := ⟨tbW_mem (List.mem_of_getElem? (i := 1747) (by decide +kernel)) rfl, tbW_mem (List.mem_of_getElem? (i := 1748) (by decide +kernel)) rfl⟩
abbrev mX10_edge : MInf := (yX10_edge, cX10_edge, 5, (some .int), 7, 0, 0)
theorem oX10_edge : Cond.code yX10_edge cX10_edge 5 (some .int) ∈ tbW := tbW_mem (List.mem_of_getElem? (i := 1753) (by decide +kernel)) rfl
theorem iX10_edge : Cond.instanceMethod yX10_edge ∈ tbW ∧ Cond.selects yX10_edge.cls yX10_edge yX10_edge ∈ tbW := ⟨tbW_mem (List.mem_of_getElem? (i := 1751) (by decide +kernel)) rfl, tbW_mem (List.mem_of_getElem? (i := 1752) (by decide +kernel)) rfl⟩
abbrev mX10_show : MInf := (yX10_show, cX10_show, 5, (some .int), 8, 0, 0)
theorem oX10_show : Cond.code yX10_show cX10_show 5 (some .int) ∈ tbW := tbW_mem (List.mem_of_getElem? (i := 1757) (by decide +kernel)) rfl
theorem iX10_show : Cond.instanceMethod yX10_show ∈ tbW ∧ Cond.selects yX10_show.cls yX10_show yX10_show ∈ tbW := ⟨tbW_mem (List.mem_of_getElem? (i := 1755) (by decide +kernel)) rfl, tbW_mem (List.mem_of_getElem? (i := 1756) (by decide +kernel)) rfl⟩
abbrev mX10_readBook : MInf := (yX10_readBook, cX10_readBook, 4, (some .boolean), 4, 0, 0)
theorem oX10_readBook : Cond.code yX10_readBook cX10_readBook 4 (some .boolean) ∈ tbW := tbW_mem (List.mem_of_getElem? (i := 1765) (by decide +kernel)) rfl
theorem iX10_readBook : Cond.instanceMethod yX10_readBook ∈ tbW ∧ Cond.selects yX10_readBook.cls yX10_readBook yX10_readBook ∈ tbW := ⟨tbW_mem (List.mem_of_getElem? (i := 1764) (by decide +kernel)) rfl, tbW_mem (List.mem_of_getElem? (i := 102) (by decide +kernel)) rfl⟩
abbrev mX10_isInOrder : MInf := (yX10_isInOrder, cX10_isInOrder, 3, (some .boolean), 3, 0, 0)
theorem oX10_isInOrder : Cond.code yX10_isInOrder cX10_isInOrder 3 (some .boolean) ∈ tbW := tbW_mem (List.mem_of_getElem? (i := 1769) (by decide +kernel)) rfl
theorem iX10_isInOrder : Cond.instanceMethod yX10_isInOrder ∈ tbW ∧ Cond.selects yX10_isInOrder.cls yX10_isInOrder yX10_isInOrder ∈ tbW := ⟨tbW_mem (List.mem_of_getElem? (i := 1768) (by decide +kernel)) rfl, tbW_mem (List.mem_of_getElem? (i := 103) (by decide +kernel)) rfl⟩
abbrev mX10_book : MInf := (yX10_book, cX10_book, 6, (some .int), 5, 0, 0)
theorem oX10_book : Cond.code yX10_book cX10_book 6 (some .int) ∈ tbW := tbW_mem (List.mem_of_getElem? (i := 1761) (by decide +kernel)) rfl
theorem iX10_book : Cond.instanceMethod yX10_book ∈ tbW ∧ Cond.selects yX10_book.cls yX10_book yX10_book ∈ tbW := ⟨tbW_mem (List.mem_of_getElem? (i := 1759) (by decide +kernel)) rfl, tbW_mem (List.mem_of_getElem? (i := 1760) (by decide +kernel)) rfl⟩
abbrev mX10_count : MInf := (yX10_count, cX10_count, 2, (some .int), 1, 0, 0)
theorem oX10_count : Cond.code yX10_count cX10_count 2 (some .int) ∈ tbW := tbW_mem (List.mem_of_getElem? (i := 1773) (by decide +kernel)) rfl
theorem iX10_count : Cond.instanceMethod yX10_count ∈ tbW ∧ Cond.selects yX10_count.cls yX10_count yX10_count ∈ tbW := ⟨tbW_mem (List.mem_of_getElem? (i := 1771) (by decide +kernel)) rfl, tbW_mem (List.mem_of_getElem? (i := 1772) (by decide +kernel)) rfl⟩
abbrev mJ9_max_7cf53 : MInf := (yJ9_max_7cf53, cJ9_max_7cf53, 2, (some .int), 1, 0, 0)
theorem oJ9_max_7cf53 : Cond.code yJ9_max_7cf53 cJ9_max_7cf53 2 (some .int) ∈ tbW := tbW_mem (List.mem_of_getElem? (i := 837) (by decide +kernel)) rfl
theorem sJ9_max_7cf53 : Cond.static yJ9_max_7cf53 ∈ tbW := tbW_mem (List.mem_of_getElem? (i := 836) (by decide +kernel)) rfl
abbrev mJ9_min_7cf53 : MInf := (yJ9_min_7cf53, cJ9_min_7cf53, 2, (some .int), 1, 0, 0)
theorem oJ9_min_7cf53 : Cond.code yJ9_min_7cf53 cJ9_min_7cf53 2 (some .int) ∈ tbW := tbW_mem (List.mem_of_getElem? (i := 834) (by decide +kernel)) rfl
theorem sJ9_min_7cf53 : Cond.static yJ9_min_7cf53 ∈ tbW := tbW_mem (List.mem_of_getElem? (i := 833) (by decide +kernel)) rfl
abbrev mJ0_length_8abf5 : MInf := (yJ0_length_8abf5, cJ0_length_8abf5, 1, (some .int), 2, 0, 0)
theorem oJ0_length_8abf5 : Cond.code yJ0_length_8abf5 cJ0_length_8abf5 1 (some .int) ∈ tbW := tbW_mem (List.mem_of_getElem? (i := 598) (by decide +kernel)) rfl
theorem iJ0_length_8abf5 : Cond.instanceMethod yJ0_length_8abf5 ∈ tbW ∧ Cond.selects yJ0_length_8abf5.cls yJ0_length_8abf5 yJ0_length_8abf5 ∈ tbW := ⟨tbW_mem (List.mem_of_getElem? (i := 596) (by decide +kernel)) rfl, tbW_mem (List.mem_of_getElem? (i := 597) (by decide +kernel)) rfl⟩
abbrev mJ0_charAt_5068e : MInf := (yJ0_charAt_5068e, cJ0_charAt_5068e, 2, (some .char), 5, 0, 0)
theorem oJ0_charAt_5068e : Cond.code yJ0_charAt_5068e cJ0_charAt_5068e 2 (some .char) ∈ tbW := tbW_mem (List.mem_of_getElem? (i := 608) (by decide +kernel)) rfl
theorem iJ0_charAt_5068e : Cond.instanceMethod yJ0_charAt_5068e ∈ tbW ∧ Cond.selects yJ0_charAt_5068e.cls yJ0_charAt_5068e yJ0_charAt_5068e ∈ tbW := ⟨tbW_mem (List.mem_of_getElem? (i := 606) (by decide +kernel)) rfl, tbW_mem (List.mem_of_getElem? (i := 607) (by decide +kernel)) rfl⟩
abbrev mJ0_coder_7d493 : MInf := (yJ0_coder_7d493, cJ0_coder_7d493, 1, (some .byte), 1, 0, 0)
theorem oJ0_coder_7d493 : Cond.code yJ0_coder_7d493 cJ0_coder_7d493 1 (some .byte) ∈ tbW := tbW_mem (List.mem_of_getElem? (i := 602) (by decide +kernel)) rfl
theorem iJ0_coder_7d493 : Cond.instanceMethod yJ0_coder_7d493 ∈ tbW ∧ Cond.selects yJ0_coder_7d493.cls yJ0_coder_7d493 yJ0_coder_7d493 ∈ tbW := ⟨tbW_mem (List.mem_of_getElem? (i := 600) (by decide +kernel)) rfl, tbW_mem (List.mem_of_getElem? (i := 601) (by decide +kernel)) rfl⟩
abbrev mJ0_isLatin1_aae02 : MInf := (yJ0_isLatin1_aae02, cJ0_isLatin1_aae02, 1, (some .boolean), 1, 0, 0)
theorem oJ0_isLatin1_aae02 : Cond.code yJ0_isLatin1_aae02 cJ0_isLatin1_aae02 1 (some .boolean) ∈ tbW := tbW_mem (List.mem_of_getElem? (i := 612) (by decide +kernel)) rfl
theorem iJ0_isLatin1_aae02 : Cond.instanceMethod yJ0_isLatin1_aae02 ∈ tbW ∧ Cond.selects yJ0_isLatin1_aae02.cls yJ0_isLatin1_aae02 yJ0_isLatin1_aae02 ∈ tbW := ⟨tbW_mem (List.mem_of_getElem? (i := 610) (by decide +kernel)) rfl, tbW_mem (List.mem_of_getElem? (i := 611) (by decide +kernel)) rfl⟩
abbrev mJ0_checkIndex_df160 : MInf := (yJ0_checkIndex_df160, cJ0_checkIndex_df160, 2, (none : Option Jvm.ClassFile.FieldType), 2, 0, 0)
theorem oJ0_checkIndex_df160 : Cond.code yJ0_checkIndex_df160 cJ0_checkIndex_df160 2 (none : Option Jvm.ClassFile.FieldType) ∈ tbW := tbW_mem (List.mem_of_getElem? (i := 618) (by decide +kernel)) rfl
theorem sJ0_checkIndex_df160 : Cond.static yJ0_checkIndex_df160 ∈ tbW := tbW_mem (List.mem_of_getElem? (i := 617) (by decide +kernel)) rfl
abbrev mJ1_charAt_3b067 : MInf := (yJ1_charAt_3b067, cJ1_charAt_3b067, 2, (some .char), 3, 0, 0)
theorem oJ1_charAt_3b067 : Cond.code yJ1_charAt_3b067 cJ1_charAt_3b067 2 (some .char) ∈ tbW := tbW_mem (List.mem_of_getElem? (i := 615) (by decide +kernel)) rfl
theorem sJ1_charAt_3b067 : Cond.static yJ1_charAt_3b067 ∈ tbW := tbW_mem (List.mem_of_getElem? (i := 614) (by decide +kernel)) rfl
abbrev mJ2_getChar_3b067 : MInf := (yJ2_getChar_3b067, cJ2_getChar_3b067, 2, (some .char), 2, 0, 0)
theorem oJ2_getChar_3b067 : Cond.code yJ2_getChar_3b067 cJ2_getChar_3b067 2 (some .char) ∈ tbW := tbW_mem (List.mem_of_getElem? (i := 636) (by decide +kernel)) rfl
theorem sJ2_getChar_3b067 : Cond.static yJ2_getChar_3b067 ∈ tbW := tbW_mem (List.mem_of_getElem? (i := 635) (by decide +kernel)) rfl
abbrev mJ2_length_9d52b : MInf := (yJ2_length_9d52b, cJ2_length_9d52b, 1, (some .int), 1, 0, 0)
theorem oJ2_length_9d52b : Cond.code yJ2_length_9d52b cJ2_length_9d52b 1 (some .int) ∈ tbW := tbW_mem (List.mem_of_getElem? (i := 632) (by decide +kernel)) rfl
theorem sJ2_length_9d52b : Cond.static yJ2_length_9d52b ∈ tbW := tbW_mem (List.mem_of_getElem? (i := 631) (by decide +kernel)) rfl
abbrev mJ2_charAt_3b067 : MInf := (yJ2_charAt_3b067, cJ2_charAt_3b067, 2, (some .char), 4, 0, 0)
theorem oJ2_charAt_3b067 : Cond.code yJ2_charAt_3b067 cJ2_charAt_3b067 2 (some .char) ∈ tbW := tbW_mem (List.mem_of_getElem? (i := 626) (by decide +kernel)) rfl
theorem sJ2_charAt_3b067 : Cond.static yJ2_charAt_3b067 ∈ tbW := tbW_mem (List.mem_of_getElem? (i := 625) (by decide +kernel)) rfl
abbrev mJ2_checkIndex_2214a : MInf := (yJ2_checkIndex_2214a, cJ2_checkIndex_2214a, 2, (none : Option Jvm.ClassFile.FieldType), 3, 0, 0)
theorem oJ2_checkIndex_2214a : Cond.code yJ2_checkIndex_2214a cJ2_checkIndex_2214a 2 (none : Option Jvm.ClassFile.FieldType) ∈ tbW := tbW_mem (List.mem_of_getElem? (i := 629) (by decide +kernel)) rfl
theorem sJ2_checkIndex_2214a : Cond.static yJ2_checkIndex_2214a ∈ tbW := tbW_mem (List.mem_of_getElem? (i := 628) (by decide +kernel)) rfl
abbrev mJ3_checkIndex_8e157 : MInf := (yJ3_checkIndex_8e157, cJ3_checkIndex_8e157, 3, (some .int), 1, 0, 0)
theorem oJ3_checkIndex_8e157 : Cond.code yJ3_checkIndex_8e157 cJ3_checkIndex_8e157 3 (some .int) ∈ tbW := tbW_mem (List.mem_of_getElem? (i := 623) (by decide +kernel)) rfl
theorem sJ3_checkIndex_8e157 : Cond.static yJ3_checkIndex_8e157 ∈ tbW := tbW_mem (List.mem_of_getElem? (i := 622) (by decide +kernel)) rfl
abbrev mL_law : MInf := (yL_law, cL_law, 4, (some .boolean), 13, 600000, 7302250)
theorem zX0 : Cond.initialized RX0 ∈ tbW := tbW_mem (List.mem_of_getElem? (i := 113) (by decide +kernel)) rfl
theorem zX1 : Cond.initialized RX1 ∈ tbW := tbW_mem (List.mem_of_getElem? (i := 109) (by decide +kernel)) rfl
theorem zX2 : Cond.initialized RX2 ∈ tbW := tbW_mem (List.mem_of_getElem? (i := 114) (by decide +kernel)) rfl
theorem zX3 : Cond.initialized RX3 ∈ tbW := tbW_mem (List.mem_of_getElem? (i := 110) (by decide +kernel)) rfl
theorem zX4 : Cond.initialized RX4 ∈ tbW := tbW_mem (List.mem_of_getElem? (i := 106) (by decide +kernel)) rfl
theorem zX5 : Cond.initialized RX5 ∈ tbW := tbW_mem (List.mem_of_getElem? (i := 107) (by decide +kernel)) rfl
theorem zX6 : Cond.initialized RX6 ∈ tbW := tbW_mem (List.mem_of_getElem? (i := 112) (by decide +kernel)) rfl
theorem zX7 : Cond.initialized RX7 ∈ tbW := tbW_mem (List.mem_of_getElem? (i := 108) (by decide +kernel)) rfl
theorem zX8 : Cond.initialized RX8 ∈ tbW := tbW_mem (List.mem_of_getElem? (i := 111) (by decide +kernel)) rfl
theorem zX9 : Cond.initialized RX9 ∈ tbW := tbW_mem (List.mem_of_getElem? (i := 105) (by decide +kernel)) rfl
theorem zX10 : Cond.initialized RX10 ∈ tbW := tbW_mem (List.mem_of_getElem? (i := 116) (by decide +kernel)) rfl
theorem zJ9 : Cond.initialized RJ9 ∈ tbW := tbW_mem (List.mem_of_getElem? (i := 121) (by decide +kernel)) rfl
theorem zJ0 : Cond.initialized RJ0 ∈ tbW := tbW_mem (List.mem_of_getElem? (i := 117) (by decide +kernel)) rfl
theorem zJ1 : Cond.initialized RJ1 ∈ tbW := tbW_mem (List.mem_of_getElem? (i := 118) (by decide +kernel)) rfl
theorem zJ2 : Cond.initialized RJ2 ∈ tbW := tbW_mem (List.mem_of_getElem? (i := 120) (by decide +kernel)) rfl
theorem zJ10 : Cond.initialized RJ10 ∈ tbW := tbW_mem (List.mem_of_getElem? (i := 115) (by decide +kernel)) rfl
theorem zJ3 : Cond.initialized RJ3 ∈ tbW := tbW_mem (List.mem_of_getElem? (i := 119) (by decide +kernel)) rfl
theorem zL : Cond.initialized RL ∈ tbW := tbW_mem (List.mem_of_getElem? (i := 104) (by decide +kernel)) rfl
theorem kL_9 {lev : Nat} (h : 4 + 1 ≤ lev) : CAt RL 9 mX9_init 0 lev := ⟨tbW_mem (List.mem_of_getElem? (i := 124) (by decide +kernel)) rfl, oX9_init, zX9, by decide +kernel, h, by decide⟩
theorem kX9_9 {lev : Nat} (h : 1 + 1 ≤ lev) : CNt RX9 9 mX4_init 0 lev "OwnedByGuests" := ⟨List.mem_of_getElem? (i := 132) (by decide +kernel), oX4_init, zX4, by decide +kernel, h, by decide⟩
theorem kX9_18 {lev : Nat} (h : 2 + 1 ≤ lev) : CAt RX9 18 mX5_init 1 lev := ⟨tbW_mem (List.mem_of_getElem? (i := 168) (by decide +kernel)) rfl, oX5_init, zX5, by decide +kernel, h, by decide⟩
theorem kX5_11 {lev : Nat} (h : 1 + 1 ≤ lev) : CNt RX5 11 mX7_init 0 lev "OwnedByGuests" := ⟨List.mem_of_getElem? (i := 174) (by decide +kernel), oX7_init, zX7, by decide +kernel, h, by decide⟩
theorem kX9_27 {lev : Nat} (h : 1 + 1 ≤ lev) : CNt RX9 27 mX7_init 0 lev "OwnedByGuests" := ⟨List.mem_of_getElem? (i := 297) (by decide +kernel), oX7_init, zX7, by decide +kernel, h, by decide⟩
theorem kX9_34 {lev : Nat} (h : 2 + 1 ≤ lev) : CNt RX9 34 mX1_init 0 lev "OwnedByGuests" := ⟨List.mem_of_getElem? (i := 300) (by decide +kernel), oX1_init, zX1, by decide +kernel, h, by decide⟩
theorem kX1_11 {lev : Nat} (h : 1 + 1 ≤ lev) : CNt RX1 11 mX3_init 0 lev "OwnedByGuests" := ⟨List.mem_of_getElem? (i := 306) (by decide +kernel), oX3_init, zX3, by decide +kernel, h, by decide⟩
theorem kX1_20 {lev : Nat} (h : 1 + 1 ≤ lev) : CNt RX1 20 mX8_init 0 lev "OwnedByGuests" := ⟨List.mem_of_getElem? (i := 348) (by decide +kernel), oX8_init, zX8, by decide +kernel, h, by decide⟩
theorem kX9_45 {lev : Nat} (h : 2 + 1 ≤ lev) : CAt RX9 45 mX6_init 0 lev := ⟨tbW_mem (List.mem_of_getElem? (i := 388) (by decide +kernel)) rfl, oX6_init, zX6, by decide +kernel, h, by decide⟩
theorem kX6_11 {lev : Nat} (h : 1 + 1 ≤ lev) : CNt RX6 11 mX7_init 0 lev "OwnedByGuests" := ⟨List.mem_of_getElem? (i := 393) (by decide +kernel), oX7_init, zX7, by decide +kernel, h, by decide⟩
theorem kX6_20 {lev : Nat} (h : 1 + 1 ≤ lev) : CNt RX6 20 mX8_init 0 lev "OwnedByGuests" := ⟨List.mem_of_getElem? (i := 395) (by decide +kernel), oX8_init, zX8, by decide +kernel, h, by decide⟩
theorem kX6_27 {lev : Nat} (h : 1 + 1 ≤ lev) : CNt RX6 27 mX3_init 0 lev "OwnedByGuests" := ⟨List.mem_of_getElem? (i := 397) (by decide +kernel), oX3_init, zX3, by decide +kernel, h, by decide⟩
theorem kX6_45 {lev : Nat} (h : 1 + 1 ≤ lev) : CNt RX6 45 mX0_init 0 lev "OwnedByGuests" := ⟨List.mem_of_getElem? (i := 401) (by decide +kernel), oX0_init, zX0, by decide +kernel, h, by decide⟩
theorem kX9_52 {lev : Nat} (h : 2 + 1 ≤ lev) : CNt RX9 52 mX2_init 0 lev "OwnedByGuests" := ⟨List.mem_of_getElem? (i := 465) (by decide +kernel), oX2_init, zX2, by decide +kernel, h, by decide⟩
theorem kX2_23 {lev : Nat} (h : 1 + 1 ≤ lev) : CNt RX2 23 mX3_init 0 lev "OwnedByGuests" := ⟨List.mem_of_getElem? (i := 470) (by decide +kernel), oX3_init, zX3, by decide +kernel, h, by decide⟩
theorem kX9_61 {lev : Nat} (h : 1 + 1 ≤ lev) : CAt RX9 61 mX7_clear 0 lev := ⟨tbW_mem (List.mem_of_getElem? (i := 491) (by decide +kernel)) rfl, oX7_clear, zX7, by decide +kernel, h, by decide⟩
theorem kX9_64 {lev : Nat} (h : 3 + 1 ≤ lev) : CAt RX9 64 mX1_begin 1 lev := ⟨tbW_mem (List.mem_of_getElem? (i := 500) (by decide +kernel)) rfl, oX1_begin, zX1, by decide +kernel, h, by decide⟩
theorem kX1_33 {lev : Nat} (h : 1 + 1 ≤ lev) : CAt RX1 33 mX3_begin 1 lev := ⟨tbW_mem (List.mem_of_getElem? (i := 504) (by decide +kernel)) rfl, oX3_begin, zX3, by decide +kernel, h, by decide⟩
theorem kX1_37 {lev : Nat} (h : 2 + 1 ≤ lev) : CAt RX1 37 mX8_begin 1 lev := ⟨tbW_mem (List.mem_of_getElem? (i := 508) (by decide +kernel)) rfl, oX8_begin, zX8, by decide +kernel, h, by decide⟩
theorem kX8_23 {lev : Nat} (h : 1 + 1 ≤ lev) : CAt RX8 23 mX8_planEach 2 lev := ⟨tbW_mem (List.mem_of_getElem? (i := 512) (by decide +kernel)) rfl, oX8_planEach, zX8, by decide +kernel, h, by decide⟩
theorem kL_13 {lev : Nat} (h : 2 + 1 ≤ lev) : CAt RL 13 mX9_feed 5 lev := ⟨tbW_mem (List.mem_of_getElem? (i := 544) (by decide +kernel)) rfl, oX9_feed, zX9, by decide +kernel, h, by decide⟩
theorem kX9_72 {lev : Nat} (h : 1 + 1 ≤ lev) : CAt RX9 72 mX4_addFour 1 lev := ⟨tbW_mem (List.mem_of_getElem? (i := 548) (by decide +kernel)) rfl, oX4_addFour, zX4, by decide +kernel, h, by decide⟩
theorem kL_18 {lev : Nat} (h : 1 + 1 ≤ lev) : CAt RL 18 mX9_end 1 lev := ⟨tbW_mem (List.mem_of_getElem? (i := 552) (by decide +kernel)) rfl, oX9_end, zX9, by decide +kernel, h, by decide⟩
theorem kL_23 {lev : Nat} (h : 11 + 1 ≤ lev) : CAt RL 23 mX9_village 0 lev := ⟨tbW_mem (List.mem_of_getElem? (i := 556) (by decide +kernel)) rfl, oX9_village, zX9, by decide +kernel, h, by decide⟩
theorem kX9_76 {lev : Nat} (h : 10 + 1 ≤ lev) : CAt RX9 76 mX5_tellAll 0 lev := ⟨tbW_mem (List.mem_of_getElem? (i := 560) (by decide +kernel)) rfl, oX5_tellAll, zX5, by decide +kernel, h, by decide⟩
theorem kX5_29 {lev : Nat} (h : 1 + 1 ≤ lev) : CAt RX5 29 mX7_clear 0 lev := ⟨tbW_mem (List.mem_of_getElem? (i := 564) (by decide +kernel)) rfl, oX7_clear, zX7, by decide +kernel, h, by decide⟩
theorem kX5_32 {lev : Nat} (h : 4 + 1 ≤ lev) : CAt RX5 32 mX4_readFirst 0 lev := ⟨tbW_mem (List.mem_of_getElem? (i := 565) (by decide +kernel)) rfl, oX4_readFirst, zX4, by decide +kernel, h, by decide⟩
theorem kX4_22 {lev : Nat} (h : 3 + 1 ≤ lev) : CAt RX4 22 mX4_readToken 0 lev := ⟨tbW_mem (List.mem_of_getElem? (i := 569) (by decide +kernel)) rfl, oX4_readToken, zX4, by decide +kernel, h, by decide⟩
theorem kX4_25 {lev : Nat} (h : 1 + 1 ≤ lev) : CAt RX4 25 mX4_kindAt 1 lev := ⟨tbW_mem (List.mem_of_getElem? (i := 573) (by decide +kernel)) rfl, oX4_kindAt, zX4, by decide +kernel, h, by decide⟩
theorem kX4_42 {lev : Nat} (h : 2 + 1 ≤ lev) : CAt RX4 42 mX4_readRun 0 lev := ⟨tbW_mem (List.mem_of_getElem? (i := 577) (by decide +kernel)) rfl, oX4_readRun, zX4, by decide +kernel, h, by decide⟩
theorem kX4_45 {lev : Nat} (h : 1 + 1 ≤ lev) : CAt RX4 45 mX4_byteAt 1 lev := ⟨tbW_mem (List.mem_of_getElem? (i := 581) (by decide +kernel)) rfl, oX4_byteAt, zX4, by decide +kernel, h, by decide⟩
theorem kX5_38 {lev : Nat} (h : 9 + 1 ≤ lev) : CAt RX5 38 mX5_tellClause 0 lev := ⟨tbW_mem (List.mem_of_getElem? (i := 586) (by decide +kernel)) rfl, oX5_tellClause, zX5, by decide +kernel, h, by decide⟩
theorem kX5_43 {lev : Nat} (h : 6 + 1 ≤ lev) : CAt RX5 43 mX4_reads 1 lev := ⟨tbW_mem (List.mem_of_getElem? (i := 591) (by decide +kernel)) rfl, oX4_reads, zX4, by decide +kernel, h, by decide⟩
theorem kX4_50 {lev : Nat} (h : 2 + 1 ≤ lev) : CAt RX4 50 mJ0_length_8abf5 0 lev := ⟨tbW_mem (List.mem_of_getElem? (i := 595) (by decide +kernel)) rfl, oJ0_length_8abf5, zJ0, by decide +kernel, h, by decide⟩
theorem kJ0_335 {lev : Nat} (h : 1 + 1 ≤ lev) : CAt RJ0 335 mJ0_coder_7d493 0 lev := ⟨tbW_mem (List.mem_of_getElem? (i := 599) (by decide +kernel)) rfl, oJ0_coder_7d493, zJ0, by decide +kernel, h, by decide⟩
theorem kX4_55 {lev : Nat} (h : 5 + 1 ≤ lev) : CAt RX4 55 mJ0_charAt_5068e 1 lev := ⟨tbW_mem (List.mem_of_getElem? (i := 605) (by decide +kernel)) rfl, oJ0_charAt_5068e, zJ0, by decide +kernel, h, by decide⟩
theorem kJ0_492 {lev : Nat} (h : 1 + 1 ≤ lev) : CAt RJ0 492 mJ0_isLatin1_aae02 0 lev := ⟨tbW_mem (List.mem_of_getElem? (i := 609) (by decide +kernel)) rfl, oJ0_isLatin1_aae02, zJ0, by decide +kernel, h, by decide⟩
theorem kJ0_495 {lev : Nat} (h : 3 + 1 ≤ lev) : CAt RJ0 495 mJ1_charAt_3b067 2 lev := ⟨tbW_mem (List.mem_of_getElem? (i := 613) (by decide +kernel)) rfl, oJ1_charAt_3b067, zJ1, by decide +kernel, h, by decide⟩
theorem kJ1_9 {lev : Nat} (h : 2 + 1 ≤ lev) : CAt RJ1 9 mJ0_checkIndex_df160 2 lev := ⟨tbW_mem (List.mem_of_getElem? (i := 616) (by decide +kernel)) rfl, oJ0_checkIndex_df160, zJ0, by decide +kernel, h, by decide⟩
theorem kJ0_1059 {lev : Nat} (h : 1 + 1 ≤ lev) : CAt RJ0 1059 mJ3_checkIndex_8e157 3 lev := ⟨tbW_mem (List.mem_of_getElem? (i := 621) (by decide +kernel)) rfl, oJ3_checkIndex_8e157, zJ3, by decide +kernel, h, by decide⟩
theorem kJ0_498 {lev : Nat} (h : 4 + 1 ≤ lev) : CAt RJ0 498 mJ2_charAt_3b067 2 lev := ⟨tbW_mem (List.mem_of_getElem? (i := 624) (by decide +kernel)) rfl, oJ2_charAt_3b067, zJ2, by decide +kernel, h, by decide⟩
theorem kJ2_67 {lev : Nat} (h : 3 + 1 ≤ lev) : CAt RJ2 67 mJ2_checkIndex_2214a 2 lev := ⟨tbW_mem (List.mem_of_getElem? (i := 627) (by decide +kernel)) rfl, oJ2_checkIndex_2214a, zJ2, by decide +kernel, h, by decide⟩
theorem kJ2_48 {lev : Nat} (h : 1 + 1 ≤ lev) : CAt RJ2 48 mJ2_length_9d52b 1 lev := ⟨tbW_mem (List.mem_of_getElem? (i := 630) (by decide +kernel)) rfl, oJ2_length_9d52b, zJ2, by decide +kernel, h, by decide⟩
theorem kJ2_414 {lev : Nat} (h : 2 + 1 ≤ lev) : CAt RJ2 414 mJ0_checkIndex_df160 2 lev := ⟨tbW_mem (List.mem_of_getElem? (i := 633) (by decide +kernel)) rfl, oJ0_checkIndex_df160, zJ0, by decide +kernel, h, by decide⟩
theorem kJ2_71 {lev : Nat} (h : 2 + 1 ≤ lev) : CAt RJ2 71 mJ2_getChar_3b067 2 lev := ⟨tbW_mem (List.mem_of_getElem? (i := 634) (by decide +kernel)) rfl, oJ2_getChar_3b067, zJ2, by decide +kernel, h, by decide⟩
theorem kX5_47 {lev : Nat} (h : 5 + 1 ≤ lev) : CAt RX5 47 mX5_tellHouse 0 lev := ⟨tbW_mem (List.mem_of_getElem? (i := 643) (by decide +kernel)) rfl, oX5_tellHouse, zX5, by decide +kernel, h, by decide⟩
theorem kX5_73 {lev : Nat} (h : 1 + 1 ≤ lev) : CAt RX5 73 mX5_blame 1 lev := ⟨tbW_mem (List.mem_of_getElem? (i := 647) (by decide +kernel)) rfl, oX5_blame, zX5, by decide +kernel, h, by decide⟩
theorem kX5_80 {lev : Nat} (h : 3 + 1 ≤ lev) : CAt RX5 80 mX4_readToken 0 lev := ⟨tbW_mem (List.mem_of_getElem? (i := 651) (by decide +kernel)) rfl, oX4_readToken, zX4, by decide +kernel, h, by decide⟩
theorem kX5_90 {lev : Nat} (h : 4 + 1 ≤ lev) : CAt RX5 90 mX5_readNewName 1 lev := ⟨tbW_mem (List.mem_of_getElem? (i := 652) (by decide +kernel)) rfl, oX5_readNewName, zX5, by decide +kernel, h, by decide⟩
theorem kX5_123 {lev : Nat} (h : 2 + 1 ≤ lev) : CAt RX5 123 mX7_houseNamed 1 lev := ⟨tbW_mem (List.mem_of_getElem? (i := 656) (by decide +kernel)) rfl, oX7_houseNamed, zX7, by decide +kernel, h, by decide⟩
theorem kX7_72 {lev : Nat} (h : 1 + 1 ≤ lev) : CAt RX7 72 mX7_find 3 lev := ⟨tbW_mem (List.mem_of_getElem? (i := 660) (by decide +kernel)) rfl, oX7_find, zX7, by decide +kernel, h, by decide⟩
theorem kX5_147 {lev : Nat} (h : 2 + 1 ≤ lev) : CAt RX5 147 mX7_personNamed 1 lev := ⟨tbW_mem (List.mem_of_getElem? (i := 663) (by decide +kernel)) rfl, oX7_personNamed, zX7, by decide +kernel, h, by decide⟩
theorem kX5_98 {lev : Nat} (h : 4 + 1 ≤ lev) : CAt RX5 98 mX5_readNumber 2 lev := ⟨tbW_mem (List.mem_of_getElem? (i := 667) (by decide +kernel)) rfl, oX5_readNumber, zX5, by decide +kernel, h, by decide⟩
theorem kX5_52 {lev : Nat} (h : 7 + 1 ≤ lev) : CAt RX5 52 mX5_tellPerson 0 lev := ⟨tbW_mem (List.mem_of_getElem? (i := 672) (by decide +kernel)) rfl, oX5_tellPerson, zX5, by decide +kernel, h, by decide⟩
theorem kX5_116 {lev : Nat} (h : 4 + 1 ≤ lev) : CAt RX5 116 mX5_tellHome 1 lev := ⟨tbW_mem (List.mem_of_getElem? (i := 677) (by decide +kernel)) rfl, oX5_tellHome, zX5, by decide +kernel, h, by decide⟩
theorem kX5_57 {lev : Nat} (h : 5 + 1 ≤ lev) : CAt RX5 57 mX5_tellTie 0 lev := ⟨tbW_mem (List.mem_of_getElem? (i := 682) (by decide +kernel)) rfl, oX5_tellTie, zX5, by decide +kernel, h, by decide⟩
theorem kX5_133 {lev : Nat} (h : 4 + 1 ≤ lev) : CAt RX5 133 mX5_readPerson 0 lev := ⟨tbW_mem (List.mem_of_getElem? (i := 686) (by decide +kernel)) rfl, oX5_readPerson, zX5, by decide +kernel, h, by decide⟩
theorem kX5_137 {lev : Nat} (h : 3 + 1 ≤ lev) : CAt RX5 137 mX5_isTiedAgain 1 lev := ⟨tbW_mem (List.mem_of_getElem? (i := 690) (by decide +kernel)) rfl, oX5_isTiedAgain, zX5, by decide +kernel, h, by decide⟩
theorem kX5_62 {lev : Nat} (h : 5 + 1 ≤ lev) : CAt RX5 62 mX5_tellWork 0 lev := ⟨tbW_mem (List.mem_of_getElem? (i := 695) (by decide +kernel)) rfl, oX5_tellWork, zX5, by decide +kernel, h, by decide⟩
theorem kX5_67 {lev : Nat} (h : 4 + 1 ≤ lev) : CAt RX5 67 mX5_tellLast 0 lev := ⟨tbW_mem (List.mem_of_getElem? (i := 700) (by decide +kernel)) rfl, oX5_tellLast, zX5, by decide +kernel, h, by decide⟩
theorem kX5_70 {lev : Nat} (h : 8 + 1 ≤ lev) : CAt RX5 70 mX5_tellRule 0 lev := ⟨tbW_mem (List.mem_of_getElem? (i := 704) (by decide +kernel)) rfl, oX5_tellRule, zX5, by decide +kernel, h, by decide⟩
theorem kX5_156 {lev : Nat} (h : 7 + 1 ≤ lev) : CAt RX5 156 mX5_ruleRead 0 lev := ⟨tbW_mem (List.mem_of_getElem? (i := 708) (by decide +kernel)) rfl, oX5_ruleRead, zX5, by decide +kernel, h, by decide⟩
theorem kL_28 {lev : Nat} (h : 1 + 1 ≤ lev) : CAt RL 28 mX9_fault 1 lev := ⟨tbW_mem (List.mem_of_getElem? (i := 723) (by decide +kernel)) rfl, oX9_fault, zX9, by decide +kernel, h, by decide⟩
theorem kL_32 {lev : Nat} (h : 3 + 1 ≤ lev) : CAt RL 32 mX9_told 1 lev := ⟨tbW_mem (List.mem_of_getElem? (i := 727) (by decide +kernel)) rfl, oX9_told, zX9, by decide +kernel, h, by decide⟩
theorem kX9_111 {lev : Nat} (h : 2 + 1 ≤ lev) : CAt RX9 111 mX9_toldOfHouse 2 lev := ⟨tbW_mem (List.mem_of_getElem? (i := 731) (by decide +kernel)) rfl, oX9_toldOfHouse, zX9, by decide +kernel, h, by decide⟩
theorem kX9_118 {lev : Nat} (h : 1 + 1 ≤ lev) : CAt RX9 118 mX9_isHouse 1 lev := ⟨tbW_mem (List.mem_of_getElem? (i := 735) (by decide +kernel)) rfl, oX9_isHouse, zX9, by decide +kernel, h, by decide⟩
theorem kX9_115 {lev : Nat} (h : 2 + 1 ≤ lev) : CAt RX9 115 mX9_toldOfPerson 2 lev := ⟨tbW_mem (List.mem_of_getElem? (i := 739) (by decide +kernel)) rfl, oX9_toldOfPerson, zX9, by decide +kernel, h, by decide⟩
theorem kX9_134 {lev : Nat} (h : 1 + 1 ≤ lev) : CAt RX9 134 mX9_isPerson 1 lev := ⟨tbW_mem (List.mem_of_getElem? (i := 743) (by decide +kernel)) rfl, oX9_isPerson, zX9, by decide +kernel, h, by decide⟩
theorem kL_36 {lev : Nat} (h : 3 + 1 ≤ lev) : CAt RL 36 mX9_tie 2 lev := ⟨tbW_mem (List.mem_of_getElem? (i := 747) (by decide +kernel)) rfl, oX9_tie, zX9, by decide +kernel, h, by decide⟩
theorem kX9_143 {lev : Nat} (h : 2 + 1 ≤ lev) : CAt RX9 143 mX9_areTwo 2 lev := ⟨tbW_mem (List.mem_of_getElem? (i := 751) (by decide +kernel)) rfl, oX9_areTwo, zX9, by decide +kernel, h, by decide⟩
theorem kL_41 {lev : Nat} (h : 3 + 1 ≤ lev) : CAt RL 41 mX9_plan 1 lev := ⟨tbW_mem (List.mem_of_getElem? (i := 755) (by decide +kernel)) rfl, oX9_plan, zX9, by decide +kernel, h, by decide⟩
theorem kX9_150 {lev : Nat} (h : 2 + 1 ≤ lev) : CAt RX9 150 mX9_readPlan 1 lev := ⟨tbW_mem (List.mem_of_getElem? (i := 759) (by decide +kernel)) rfl, oX9_readPlan, zX9, by decide +kernel, h, by decide⟩
theorem kX9_154 {lev : Nat} (h : 1 + 1 ≤ lev) : CAt RX9 154 mX4_byteAt 1 lev := ⟨tbW_mem (List.mem_of_getElem? (i := 763) (by decide +kernel)) rfl, oX4_byteAt, zX4, by decide +kernel, h, by decide⟩
theorem kL_45 {lev : Nat} (h : 2 + 1 ≤ lev) : CAt RL 45 mX9_planned 2 lev := ⟨tbW_mem (List.mem_of_getElem? (i := 764) (by decide +kernel)) rfl, oX9_planned, zX9, by decide +kernel, h, by decide⟩
theorem kL_49 {lev : Nat} (h : 2 + 1 ≤ lev) : CAt RL 49 mX9_lets 2 lev := ⟨tbW_mem (List.mem_of_getElem? (i := 768) (by decide +kernel)) rfl, oX9_lets, zX9, by decide +kernel, h, by decide⟩
theorem kL_53 {lev : Nat} (h : 1 + 1 ≤ lev) : CAt RL 53 mX9_chance 1 lev := ⟨tbW_mem (List.mem_of_getElem? (i := 772) (by decide +kernel)) rfl, oX9_chance, zX9, by decide +kernel, h, by decide⟩
theorem kL_57 {lev : Nat} (h : 5 + 1 ≤ lev) : CAt RL 57 mX9_pass 1 lev := ⟨tbW_mem (List.mem_of_getElem? (i := 776) (by decide +kernel)) rfl, oX9_pass, zX9, by decide +kernel, h, by decide⟩
theorem kX9_172 {lev : Nat} (h : 4 + 1 ≤ lev) : CAt RX9 172 mX1_passQuarter 1 lev := ⟨tbW_mem (List.mem_of_getElem? (i := 780) (by decide +kernel)) rfl, oX1_passQuarter, zX1, by decide +kernel, h, by decide⟩
theorem kX1_48 {lev : Nat} (h : 2 + 1 ≤ lev) : CAt RX1 48 mX8_fillWishes 3 lev := ⟨tbW_mem (List.mem_of_getElem? (i := 784) (by decide +kernel)) rfl, oX8_fillWishes, zX8, by decide +kernel, h, by decide⟩
theorem kX8_37 {lev : Nat} (h : 1 + 1 ≤ lev) : CAt RX8 37 mX7_mustWork 2 lev := ⟨tbW_mem (List.mem_of_getElem? (i := 788) (by decide +kernel)) rfl, oX7_mustWork, zX7, by decide +kernel, h, by decide⟩
theorem kX1_57 {lev : Nat} (h : 2 + 1 ≤ lev) : CAt RX1 57 mX1_stroll 1 lev := ⟨tbW_mem (List.mem_of_getElem? (i := 792) (by decide +kernel)) rfl, oX1_stroll, zX1, by decide +kernel, h, by decide⟩
theorem kX1_70 {lev : Nat} (h : 1 + 1 ≤ lev) : CAt RX1 70 mX1_draw 1 lev := ⟨tbW_mem (List.mem_of_getElem? (i := 796) (by decide +kernel)) rfl, oX1_draw, zX1, by decide +kernel, h, by decide⟩
theorem kX1_74 {lev : Nat} (h : 1 + 1 ≤ lev) : CAt RX1 74 mX7_mustWork 2 lev := ⟨tbW_mem (List.mem_of_getElem? (i := 803) (by decide +kernel)) rfl, oX7_mustWork, zX7, by decide +kernel, h, by decide⟩
theorem kX1_63 {lev : Nat} (h : 3 + 1 ≤ lev) : CAt RX1 63 mX3_goOn 3 lev := ⟨tbW_mem (List.mem_of_getElem? (i := 804) (by decide +kernel)) rfl, oX3_goOn, zX3, by decide +kernel, h, by decide⟩
theorem kX3_64 {lev : Nat} (h : 1 + 1 ≤ lev) : CAt RX3 64 mX3_leave 2 lev := ⟨tbW_mem (List.mem_of_getElem? (i := 808) (by decide +kernel)) rfl, oX3_leave, zX3, by decide +kernel, h, by decide⟩
theorem kX3_68 {lev : Nat} (h : 2 + 1 ≤ lev) : CAt RX3 68 mX3_mayCome 4 lev := ⟨tbW_mem (List.mem_of_getElem? (i := 812) (by decide +kernel)) rfl, oX3_mayCome, zX3, by decide +kernel, h, by decide⟩
theorem kX3_82 {lev : Nat} (h : 1 + 1 ≤ lev) : CAt RX3 82 mX3_guestsIn 2 lev := ⟨tbW_mem (List.mem_of_getElem? (i := 816) (by decide +kernel)) rfl, oX3_guestsIn, zX3, by decide +kernel, h, by decide⟩
theorem kX3_60 {lev : Nat} (h : 1 + 1 ≤ lev) : CAt RX3 60 mX3_haver 2 lev := ⟨tbW_mem (List.mem_of_getElem? (i := 820) (by decide +kernel)) rfl, oX3_haver, zX3, by decide +kernel, h, by decide⟩
theorem kX3_72 {lev : Nat} (h : 1 + 1 ≤ lev) : CAt RX3 72 mX3_gainOfTies 2 lev := ⟨tbW_mem (List.mem_of_getElem? (i := 824) (by decide +kernel)) rfl, oX3_gainOfTies, zX3, by decide +kernel, h, by decide⟩
theorem kX3_78 {lev : Nat} (h : 2 + 1 ≤ lev) : CAt RX3 78 mX3_useHouse 2 lev := ⟨tbW_mem (List.mem_of_getElem? (i := 828) (by decide +kernel)) rfl, oX3_useHouse, zX3, by decide +kernel, h, by decide⟩
theorem kX3_88 {lev : Nat} (h : 1 + 1 ≤ lev) : CAt RX3 88 mJ9_min_7cf53 2 lev := ⟨tbW_mem (List.mem_of_getElem? (i := 832) (by decide +kernel)) rfl, oJ9_min_7cf53, zJ9, by decide +kernel, h, by decide⟩
theorem kX3_97 {lev : Nat} (h : 1 + 1 ≤ lev) : CAt RX3 97 mJ9_max_7cf53 2 lev := ⟨tbW_mem (List.mem_of_getElem? (i := 835) (by decide +kernel)) rfl, oJ9_max_7cf53, zJ9, by decide +kernel, h, by decide⟩
theorem kL_61 {lev : Nat} (h : 2 + 1 ≤ lev) : CAt RL 61 mX9_who 2 lev := ⟨tbW_mem (List.mem_of_getElem? (i := 838) (by decide +kernel)) rfl, oX9_who, zX9, by decide +kernel, h, by decide⟩
theorem kL_65 {lev : Nat} (h : 2 + 1 ≤ lev) : CAt RL 65 mX9_house 2 lev := ⟨tbW_mem (List.mem_of_getElem? (i := 843) (by decide +kernel)) rfl, oX9_house, zX9, by decide +kernel, h, by decide⟩
theorem kX9_197 {lev : Nat} (h : 1 + 1 ≤ lev) : CAt RX9 197 mX3_haver 2 lev := ⟨tbW_mem (List.mem_of_getElem? (i := 847) (by decide +kernel)) rfl, oX3_haver, zX3, by decide +kernel, h, by decide⟩
theorem kX9_203 {lev : Nat} (h : 1 + 1 ≤ lev) : CAt RX9 203 mX3_guestsIn 2 lev := ⟨tbW_mem (List.mem_of_getElem? (i := 848) (by decide +kernel)) rfl, oX3_guestsIn, zX3, by decide +kernel, h, by decide⟩
theorem kL_69 {lev : Nat} (h : 3 + 1 ≤ lev) : CAt RL 69 mX9_word 1 lev := ⟨tbW_mem (List.mem_of_getElem? (i := 849) (by decide +kernel)) rfl, oX9_word, zX9, by decide +kernel, h, by decide⟩
theorem kX9_206 {lev : Nat} (h : 2 + 1 ≤ lev) : CAt RX9 206 mX3_wordOf 2 lev := ⟨tbW_mem (List.mem_of_getElem? (i := 853) (by decide +kernel)) rfl, oX3_wordOf, zX3, by decide +kernel, h, by decide⟩
theorem kL_73 {lev : Nat} (h : 3 + 1 ≤ lev) : CAt RL 73 mX9_keep 1 lev := ⟨tbW_mem (List.mem_of_getElem? (i := 857) (by decide +kernel)) rfl, oX9_keep, zX9, by decide +kernel, h, by decide⟩
theorem kX9_209 {lev : Nat} (h : 2 + 1 ≤ lev) : CAt RX9 209 mX1_copyFrom 1 lev := ⟨tbW_mem (List.mem_of_getElem? (i := 861) (by decide +kernel)) rfl, oX1_copyFrom, zX1, by decide +kernel, h, by decide⟩
theorem kX1_38 {lev : Nat} (h : 1 + 1 ≤ lev) : CAt RX1 38 mX3_copyFrom 1 lev := ⟨tbW_mem (List.mem_of_getElem? (i := 865) (by decide +kernel)) rfl, oX3_copyFrom, zX3, by decide +kernel, h, by decide⟩
theorem kX1_42 {lev : Nat} (h : 1 + 1 ≤ lev) : CAt RX1 42 mX8_copyFrom 1 lev := ⟨tbW_mem (List.mem_of_getElem? (i := 870) (by decide +kernel)) rfl, oX8_copyFrom, zX8, by decide +kernel, h, by decide⟩
theorem kL_77 {lev : Nat} (h : 3 + 1 ≤ lev) : CAt RL 77 mX9_take 1 lev := ⟨tbW_mem (List.mem_of_getElem? (i := 875) (by decide +kernel)) rfl, oX9_take, zX9, by decide +kernel, h, by decide⟩
theorem kL_81 {lev : Nat} (h : 6 + 1 ≤ lev) : CAt RL 81 mX9_sum 1 lev := ⟨tbW_mem (List.mem_of_getElem? (i := 879) (by decide +kernel)) rfl, oX9_sum, zX9, by decide +kernel, h, by decide⟩
theorem kX9_213 {lev : Nat} (h : 2 + 1 ≤ lev) : CAt RX9 213 mX6_setOut 2 lev := ⟨tbW_mem (List.mem_of_getElem? (i := 883) (by decide +kernel)) rfl, oX6_setOut, zX6, by decide +kernel, h, by decide⟩
theorem kX6_57 {lev : Nat} (h : 1 + 1 ≤ lev) : CAt RX6 57 mX7_copyFrom 1 lev := ⟨tbW_mem (List.mem_of_getElem? (i := 887) (by decide +kernel)) rfl, oX7_copyFrom, zX7, by decide +kernel, h, by decide⟩
theorem kX6_64 {lev : Nat} (h : 1 + 1 ≤ lev) : CAt RX6 64 mX8_copyFrom 1 lev := ⟨tbW_mem (List.mem_of_getElem? (i := 891) (by decide +kernel)) rfl, oX8_copyFrom, zX8, by decide +kernel, h, by decide⟩
theorem kX6_68 {lev : Nat} (h : 1 + 1 ≤ lev) : CAt RX6 68 mX3_copyFrom 1 lev := ⟨tbW_mem (List.mem_of_getElem? (i := 892) (by decide +kernel)) rfl, oX3_copyFrom, zX3, by decide +kernel, h, by decide⟩
theorem kX9_217 {lev : Nat} (h : 5 + 1 ≤ lev) : CAt RX9 217 mX6_sumOf 1 lev := ⟨tbW_mem (List.mem_of_getElem? (i := 893) (by decide +kernel)) rfl, oX6_sumOf, zX6, by decide +kernel, h, by decide⟩
theorem kX6_89 {lev : Nat} (h : 4 + 1 ≤ lev) : CAt RX6 89 mX6_runQuarters 1 lev := ⟨tbW_mem (List.mem_of_getElem? (i := 897) (by decide +kernel)) rfl, oX6_runQuarters, zX6, by decide +kernel, h, by decide⟩
theorem kX6_78 {lev : Nat} (h : 2 + 1 ≤ lev) : CAt RX6 78 mX8_fillWishes 3 lev := ⟨tbW_mem (List.mem_of_getElem? (i := 901) (by decide +kernel)) rfl, oX8_fillWishes, zX8, by decide +kernel, h, by decide⟩
theorem kX6_85 {lev : Nat} (h : 3 + 1 ≤ lev) : CAt RX6 85 mX3_goOn 3 lev := ⟨tbW_mem (List.mem_of_getElem? (i := 902) (by decide +kernel)) rfl, oX3_goOn, zX3, by decide +kernel, h, by decide⟩
theorem kL_85 {lev : Nat} (h : 6 + 1 ≤ lev) : CAt RL 85 mX9_best 2 lev := ⟨tbW_mem (List.mem_of_getElem? (i := 903) (by decide +kernel)) rfl, oX9_best, zX9, by decide +kernel, h, by decide⟩
theorem kX9_220 {lev : Nat} (h : 5 + 1 ≤ lev) : CAt RX9 220 mX6_findBest 1 lev := ⟨tbW_mem (List.mem_of_getElem? (i := 907) (by decide +kernel)) rfl, oX6_findBest, zX6, by decide +kernel, h, by decide⟩
theorem kX6_103 {lev : Nat} (h : 2 + 1 ≤ lev) : CAt RX6 103 mX0_begin 2 lev := ⟨tbW_mem (List.mem_of_getElem? (i := 912) (by decide +kernel)) rfl, oX0_begin, zX0, by decide +kernel, h, by decide⟩
theorem kX0_18 {lev : Nat} (h : 1 + 1 ≤ lev) : CAt RX0 18 mJ9_min_7cf53 2 lev := ⟨tbW_mem (List.mem_of_getElem? (i := 916) (by decide +kernel)) rfl, oJ9_min_7cf53, zJ9, by decide +kernel, h, by decide⟩
theorem kX6_107 {lev : Nat} (h : 4 + 1 ≤ lev) : CAt RX6 107 mX6_passOfDay 2 lev := ⟨tbW_mem (List.mem_of_getElem? (i := 917) (by decide +kernel)) rfl, oX6_passOfDay, zX6, by decide +kernel, h, by decide⟩
theorem kX6_116 {lev : Nat} (h : 1 + 1 ≤ lev) : CAt RX6 116 mX7_mustWork 2 lev := ⟨tbW_mem (List.mem_of_getElem? (i := 921) (by decide +kernel)) rfl, oX7_mustWork, zX7, by decide +kernel, h, by decide⟩
theorem kX6_123 {lev : Nat} (h : 1 + 1 ≤ lev) : CAt RX6 123 mX6_placeOf 1 lev := ⟨tbW_mem (List.mem_of_getElem? (i := 922) (by decide +kernel)) rfl, oX6_placeOf, zX6, by decide +kernel, h, by decide⟩
theorem kX6_110 {lev : Nat} (h : 1 + 1 ≤ lev) : CAt RX6 110 mX6_judgeDay 1 lev := ⟨tbW_mem (List.mem_of_getElem? (i := 926) (by decide +kernel)) rfl, oX6_judgeDay, zX6, by decide +kernel, h, by decide⟩
theorem kX6_113 {lev : Nat} (h : 1 + 1 ≤ lev) : CAt RX6 113 mX0_goOn 0 lev := ⟨tbW_mem (List.mem_of_getElem? (i := 930) (by decide +kernel)) rfl, oX0_goOn, zX0, by decide +kernel, h, by decide⟩
theorem kX9_226 {lev : Nat} (h : 2 + 1 ≤ lev) : CAt RX9 226 mX6_bestPlace 1 lev := ⟨tbW_mem (List.mem_of_getElem? (i := 934) (by decide +kernel)) rfl, oX6_bestPlace, zX6, by decide +kernel, h, by decide⟩
theorem kL_89 {lev : Nat} (h : 6 + 1 ≤ lev) : CAt RL 89 mX9_rests 0 lev := ⟨tbW_mem (List.mem_of_getElem? (i := 938) (by decide +kernel)) rfl, oX9_rests, zX9, by decide +kernel, h, by decide⟩
theorem kX9_229 {lev : Nat} (h : 5 + 1 ≤ lev) : CAt RX9 229 mX6_findRest 1 lev := ⟨tbW_mem (List.mem_of_getElem? (i := 942) (by decide +kernel)) rfl, oX6_findRest, zX6, by decide +kernel, h, by decide⟩
theorem kX6_145 {lev : Nat} (h : 4 + 1 ≤ lev) : CAt RX6 145 mX6_fillGains 0 lev := ⟨tbW_mem (List.mem_of_getElem? (i := 946) (by decide +kernel)) rfl, oX6_fillGains, zX6, by decide +kernel, h, by decide⟩
theorem kX6_148 {lev : Nat} (h : 3 + 1 ≤ lev) : CAt RX6 148 mX6_beginRows 0 lev := ⟨tbW_mem (List.mem_of_getElem? (i := 950) (by decide +kernel)) rfl, oX6_beginRows, zX6, by decide +kernel, h, by decide⟩
theorem kX6_155 {lev : Nat} (h : 2 + 1 ≤ lev) : CAt RX6 155 mX6_wishRow 0 lev := ⟨tbW_mem (List.mem_of_getElem? (i := 954) (by decide +kernel)) rfl, oX6_wishRow, zX6, by decide +kernel, h, by decide⟩
theorem kX6_164 {lev : Nat} (h : 1 + 1 ≤ lev) : CAt RX6 164 mX6_packedGains 0 lev := ⟨tbW_mem (List.mem_of_getElem? (i := 958) (by decide +kernel)) rfl, oX6_packedGains, zX6, by decide +kernel, h, by decide⟩
theorem kX6_151 {lev : Nat} (h : 2 + 1 ≤ lev) : CAt RX6 151 mX6_isRest 1 lev := ⟨tbW_mem (List.mem_of_getElem? (i := 962) (by decide +kernel)) rfl, oX6_isRest, zX6, by decide +kernel, h, by decide⟩
theorem kX6_168 {lev : Nat} (h : 1 + 1 ≤ lev) : CAt RX6 168 mX6_gainAt 2 lev := ⟨tbW_mem (List.mem_of_getElem? (i := 966) (by decide +kernel)) rfl, oX6_gainAt, zX6, by decide +kernel, h, by decide⟩
theorem kL_93 {lev : Nat} (h : 6 + 1 ≤ lev) : CAt RL 93 mX9_rest 2 lev := ⟨tbW_mem (List.mem_of_getElem? (i := 971) (by decide +kernel)) rfl, oX9_rest, zX9, by decide +kernel, h, by decide⟩
theorem kL_97 {lev : Nat} (h : 7 + 1 ≤ lev) : CAt RL 97 mX9_settle 0 lev := ⟨tbW_mem (List.mem_of_getElem? (i := 975) (by decide +kernel)) rfl, oX9_settle, zX9, by decide +kernel, h, by decide⟩
theorem kX9_235 {lev : Nat} (h : 6 + 1 ≤ lev) : CAt RX9 235 mX6_settleAll 0 lev := ⟨tbW_mem (List.mem_of_getElem? (i := 979) (by decide +kernel)) rfl, oX6_settleAll, zX6, by decide +kernel, h, by decide⟩
theorem kX6_130 {lev : Nat} (h : 5 + 1 ≤ lev) : CAt RX6 130 mX6_sumOf 1 lev := ⟨tbW_mem (List.mem_of_getElem? (i := 983) (by decide +kernel)) rfl, oX6_sumOf, zX6, by decide +kernel, h, by decide⟩
theorem kX6_133 {lev : Nat} (h : 5 + 1 ≤ lev) : CAt RX6 133 mX6_findBest 1 lev := ⟨tbW_mem (List.mem_of_getElem? (i := 984) (by decide +kernel)) rfl, oX6_findBest, zX6, by decide +kernel, h, by decide⟩
theorem kX6_136 {lev : Nat} (h : 3 + 1 ≤ lev) : CAt RX6 136 mX6_planBest 1 lev := ⟨tbW_mem (List.mem_of_getElem? (i := 985) (by decide +kernel)) rfl, oX6_planBest, zX6, by decide +kernel, h, by decide⟩
theorem kX6_142 {lev : Nat} (h : 2 + 1 ≤ lev) : CAt RX6 142 mX6_bestPlace 1 lev := ⟨tbW_mem (List.mem_of_getElem? (i := 989) (by decide +kernel)) rfl, oX6_bestPlace, zX6, by decide +kernel, h, by decide⟩
theorem kX9_240 {lev : Nat} (h : 1 + 1 ≤ lev) : CAt RX9 240 mX8_copyFrom 1 lev := ⟨tbW_mem (List.mem_of_getElem? (i := 990) (by decide +kernel)) rfl, oX8_copyFrom, zX8, by decide +kernel, h, by decide⟩
theorem kL_101 {lev : Nat} (h : 5 + 1 ≤ lev) : CAt RL 101 mX9_longer 3 lev := ⟨tbW_mem (List.mem_of_getElem? (i := 991) (by decide +kernel)) rfl, oX9_longer, zX9, by decide +kernel, h, by decide⟩
theorem kX9_243 {lev : Nat} (h : 4 + 1 ≤ lev) : CAt RX9 243 mX6_runQuarters 1 lev := ⟨tbW_mem (List.mem_of_getElem? (i := 995) (by decide +kernel)) rfl, oX6_runQuarters, zX6, by decide +kernel, h, by decide⟩
theorem kL_106 {lev : Nat} (h : 7 + 1 ≤ lev) : CAt RL 106 mX9_guard 2 lev := ⟨tbW_mem (List.mem_of_getElem? (i := 996) (by decide +kernel)) rfl, oX9_guard, zX9, by decide +kernel, h, by decide⟩
theorem kX9_247 {lev : Nat} (h : 6 + 1 ≤ lev) : CAt RX9 247 mX6_holds 2 lev := ⟨tbW_mem (List.mem_of_getElem? (i := 1000) (by decide +kernel)) rfl, oX6_holds, zX6, by decide +kernel, h, by decide⟩
theorem kX6_174 {lev : Nat} (h : 1 + 1 ≤ lev) : CAt RX6 174 mX8_planEach 2 lev := ⟨tbW_mem (List.mem_of_getElem? (i := 1004) (by decide +kernel)) rfl, oX8_planEach, zX8, by decide +kernel, h, by decide⟩
theorem kL_110 {lev : Nat} (h : 7 + 1 ≤ lev) : CAt RL 110 mX9_rings 1 lev := ⟨tbW_mem (List.mem_of_getElem? (i := 1005) (by decide +kernel)) rfl, oX9_rings, zX9, by decide +kernel, h, by decide⟩
theorem kX9_250 {lev : Nat} (h : 6 + 1 ≤ lev) : CAt RX9 250 mX6_findRings 0 lev := ⟨tbW_mem (List.mem_of_getElem? (i := 1009) (by decide +kernel)) rfl, oX6_findRings, zX6, by decide +kernel, h, by decide⟩
theorem kX6_183 {lev : Nat} (h : 2 + 1 ≤ lev) : CAt RX6 183 mX6_canRing 0 lev := ⟨tbW_mem (List.mem_of_getElem? (i := 1013) (by decide +kernel)) rfl, oX6_canRing, zX6, by decide +kernel, h, by decide⟩
theorem kX6_190 {lev : Nat} (h : 1 + 1 ≤ lev) : CAt RX6 190 mX6_goRound 0 lev := ⟨tbW_mem (List.mem_of_getElem? (i := 1017) (by decide +kernel)) rfl, oX6_goRound, zX6, by decide +kernel, h, by decide⟩
theorem kX6_193 {lev : Nat} (h : 5 + 1 ≤ lev) : CAt RX6 193 mX6_isRing 0 lev := ⟨tbW_mem (List.mem_of_getElem? (i := 1021) (by decide +kernel)) rfl, oX6_isRing, zX6, by decide +kernel, h, by decide⟩
theorem kX6_202 {lev : Nat} (h : 3 + 1 ≤ lev) : CAt RX6 202 mX6_wishRing 0 lev := ⟨tbW_mem (List.mem_of_getElem? (i := 1025) (by decide +kernel)) rfl, oX6_wishRing, zX6, by decide +kernel, h, by decide⟩
theorem kX6_205 {lev : Nat} (h : 4 + 1 ≤ lev) : CAt RX6 205 mX6_gainByWishes 1 lev := ⟨tbW_mem (List.mem_of_getElem? (i := 1029) (by decide +kernel)) rfl, oX6_gainByWishes, zX6, by decide +kernel, h, by decide⟩
theorem kX6_196 {lev : Nat} (h : 1 + 1 ≤ lev) : CAt RX6 196 mX6_ringNumber 0 lev := ⟨tbW_mem (List.mem_of_getElem? (i := 1033) (by decide +kernel)) rfl, oX6_ringNumber, zX6, by decide +kernel, h, by decide⟩
theorem kL_114 {lev : Nat} (h : 7 + 1 ≤ lev) : CAt RL 114 mX9_when 1 lev := ⟨tbW_mem (List.mem_of_getElem? (i := 1037) (by decide +kernel)) rfl, oX9_when, zX9, by decide +kernel, h, by decide⟩
theorem kX9_259 {lev : Nat} (h : 6 + 1 ≤ lev) : CAt RX9 259 mX6_bestQuarterOut 1 lev := ⟨tbW_mem (List.mem_of_getElem? (i := 1041) (by decide +kernel)) rfl, oX6_bestQuarterOut, zX6, by decide +kernel, h, by decide⟩
theorem kL_118 {lev : Nat} (h : 7 + 1 ≤ lev) : CAt RL 118 mX9_bound 2 lev := ⟨tbW_mem (List.mem_of_getElem? (i := 1045) (by decide +kernel)) rfl, oX9_bound, zX9, by decide +kernel, h, by decide⟩
theorem kX9_262 {lev : Nat} (h : 6 + 1 ≤ lev) : CAt RX9 262 mX6_leastAfter 2 lev := ⟨tbW_mem (List.mem_of_getElem? (i := 1049) (by decide +kernel)) rfl, oX6_leastAfter, zX6, by decide +kernel, h, by decide⟩
theorem kL_122 {lev : Nat} (h : 6 + 1 ≤ lev) : CAt RL 122 mX9_law 4 lev := ⟨tbW_mem (List.mem_of_getElem? (i := 1053) (by decide +kernel)) rfl, oX9_law, zX9, by decide +kernel, h, by decide⟩
theorem kX9_265 {lev : Nat} (h : 5 + 1 ≤ lev) : CAt RX9 265 mX6_runLaw 3 lev := ⟨tbW_mem (List.mem_of_getElem? (i := 1057) (by decide +kernel)) rfl, oX6_runLaw, zX6, by decide +kernel, h, by decide⟩
theorem kX9_269 {lev : Nat} (h : 1 + 1 ≤ lev) : CAt RX9 269 mX6_gainOfAll 0 lev := ⟨tbW_mem (List.mem_of_getElem? (i := 1061) (by decide +kernel)) rfl, oX6_gainOfAll, zX6, by decide +kernel, h, by decide⟩
theorem kX9_272 {lev : Nat} (h : 1 + 1 ≤ lev) : CAt RX9 272 mX6_stateLost 0 lev := ⟨tbW_mem (List.mem_of_getElem? (i := 1065) (by decide +kernel)) rfl, oX6_stateLost, zX6, by decide +kernel, h, by decide⟩
theorem kL_127 {lev : Nat} (h : 7 + 1 ≤ lev) : CAt RL 127 mX9_bestLaw 1 lev := ⟨tbW_mem (List.mem_of_getElem? (i := 1069) (by decide +kernel)) rfl, oX9_bestLaw, zX9, by decide +kernel, h, by decide⟩
theorem kX9_275 {lev : Nat} (h : 6 + 1 ≤ lev) : CAt RX9 275 mX6_greatestLaw 1 lev := ⟨tbW_mem (List.mem_of_getElem? (i := 1073) (by decide +kernel)) rfl, oX6_greatestLaw, zX6, by decide +kernel, h, by decide⟩
theorem kX6_221 {lev : Nat} (h : 5 + 1 ≤ lev) : CAt RX6 221 mX6_runLaw 3 lev := ⟨tbW_mem (List.mem_of_getElem? (i := 1077) (by decide +kernel)) rfl, oX6_runLaw, zX6, by decide +kernel, h, by decide⟩
theorem kX6_225 {lev : Nat} (h : 1 + 1 ≤ lev) : CAt RX6 225 mX6_gainOfAll 0 lev := ⟨tbW_mem (List.mem_of_getElem? (i := 1078) (by decide +kernel)) rfl, oX6_gainOfAll, zX6, by decide +kernel, h, by decide⟩
theorem kL_131 {lev : Nat} (h : 4 + 1 ≤ lev) : CAt RL 131 mX9_feast 0 lev := ⟨tbW_mem (List.mem_of_getElem? (i := 1079) (by decide +kernel)) rfl, oX9_feast, zX9, by decide +kernel, h, by decide⟩
theorem kX9_278 {lev : Nat} (h : 2 + 1 ≤ lev) : CAt RX9 278 mX9_isFeastOnTape 0 lev := ⟨tbW_mem (List.mem_of_getElem? (i := 1083) (by decide +kernel)) rfl, oX9_isFeastOnTape, zX9, by decide +kernel, h, by decide⟩
theorem kX9_281 {lev : Nat} (h : 3 + 1 ≤ lev) : CAt RX9 281 mX9_feastEnd 0 lev := ⟨tbW_mem (List.mem_of_getElem? (i := 1087) (by decide +kernel)) rfl, oX9_feastEnd, zX9, by decide +kernel, h, by decide⟩
theorem kX9_284 {lev : Nat} (h : 2 + 1 ≤ lev) : CAt RX9 284 mX9_placeBehind 2 lev := ⟨tbW_mem (List.mem_of_getElem? (i := 1091) (by decide +kernel)) rfl, oX9_placeBehind, zX9, by decide +kernel, h, by decide⟩
theorem kL_135 {lev : Nat} (h : 3 + 1 ≤ lev) : CAt RL 135 mX9_turned 2 lev := ⟨tbW_mem (List.mem_of_getElem? (i := 1095) (by decide +kernel)) rfl, oX9_turned, zX9, by decide +kernel, h, by decide⟩
theorem kL_139 {lev : Nat} (h : 7 + 1 ≤ lev) : CAt RL 139 mX9_whom 1 lev := ⟨tbW_mem (List.mem_of_getElem? (i := 1099) (by decide +kernel)) rfl, oX9_whom, zX9, by decide +kernel, h, by decide⟩
theorem kX9_287 {lev : Nat} (h : 6 + 1 ≤ lev) : CAt RX9 287 mX6_bestLets 1 lev := ⟨tbW_mem (List.mem_of_getElem? (i := 1103) (by decide +kernel)) rfl, oX6_bestLets, zX6, by decide +kernel, h, by decide⟩
theorem kL_143 {lev : Nat} (h : 7 + 1 ≤ lev) : CAt RL 143 mX9_edge 2 lev := ⟨tbW_mem (List.mem_of_getElem? (i := 1107) (by decide +kernel)) rfl, oX9_edge, zX9, by decide +kernel, h, by decide⟩
theorem kX9_290 {lev : Nat} (h : 6 + 1 ≤ lev) : CAt RX9 290 mX6_leastWorth 2 lev := ⟨tbW_mem (List.mem_of_getElem? (i := 1111) (by decide +kernel)) rfl, oX6_leastWorth, zX6, by decide +kernel, h, by decide⟩
theorem kL_147 {lev : Nat} (h : 7 + 1 ≤ lev) : CAt RL 147 mX9_show 1 lev := ⟨tbW_mem (List.mem_of_getElem? (i := 1115) (by decide +kernel)) rfl, oX9_show, zX9, by decide +kernel, h, by decide⟩
theorem kX9_293 {lev : Nat} (h : 6 + 1 ≤ lev) : CAt RX9 293 mX6_bestChairs 1 lev := ⟨tbW_mem (List.mem_of_getElem? (i := 1119) (by decide +kernel)) rfl, oX6_bestChairs, zX6, by decide +kernel, h, by decide⟩
theorem kL_151 {lev : Nat} (h : 7 + 1 ≤ lev) : CAt RL 151 mX9_book 0 lev := ⟨tbW_mem (List.mem_of_getElem? (i := 1123) (by decide +kernel)) rfl, oX9_book, zX9, by decide +kernel, h, by decide⟩
theorem kX9_296 {lev : Nat} (h : 6 + 1 ≤ lev) : CAt RX9 296 mX2_readAll 1 lev := ⟨tbW_mem (List.mem_of_getElem? (i := 1127) (by decide +kernel)) rfl, oX2_readAll, zX2, by decide +kernel, h, by decide⟩
theorem kX2_35 {lev : Nat} (h : 4 + 1 ≤ lev) : CAt RX2 35 mX4_readFirst 0 lev := ⟨tbW_mem (List.mem_of_getElem? (i := 1131) (by decide +kernel)) rfl, oX4_readFirst, zX4, by decide +kernel, h, by decide⟩
theorem kX2_43 {lev : Nat} (h : 5 + 1 ≤ lev) : CAt RX2 43 mX2_readRow 1 lev := ⟨tbW_mem (List.mem_of_getElem? (i := 1132) (by decide +kernel)) rfl, oX2_readRow, zX2, by decide +kernel, h, by decide⟩
theorem kX2_47 {lev : Nat} (h : 4 + 1 ≤ lev) : CAt RX2 47 mX2_readNumber 2 lev := ⟨tbW_mem (List.mem_of_getElem? (i := 1136) (by decide +kernel)) rfl, oX2_readNumber, zX2, by decide +kernel, h, by decide⟩
theorem kX2_51 {lev : Nat} (h : 3 + 1 ≤ lev) : CAt RX2 51 mX4_readToken 0 lev := ⟨tbW_mem (List.mem_of_getElem? (i := 1139) (by decide +kernel)) rfl, oX4_readToken, zX4, by decide +kernel, h, by decide⟩
theorem kX9_300 {lev : Nat} (h : 5 + 1 ≤ lev) : CAt RX9 300 mX2_firstThatCannot 2 lev := ⟨tbW_mem (List.mem_of_getElem? (i := 1140) (by decide +kernel)) rfl, oX2_firstThatCannot, zX2, by decide +kernel, h, by decide⟩
theorem kX2_57 {lev : Nat} (h : 2 + 1 ≤ lev) : CAt RX2 57 mX2_rowsInOrder 1 lev := ⟨tbW_mem (List.mem_of_getElem? (i := 1144) (by decide +kernel)) rfl, oX2_rowsInOrder, zX2, by decide +kernel, h, by decide⟩
theorem kX2_80 {lev : Nat} (h : 1 + 1 ≤ lev) : CAt RX2 80 mX2_isOutOfOrder 1 lev := ⟨tbW_mem (List.mem_of_getElem? (i := 1148) (by decide +kernel)) rfl, oX2_isOutOfOrder, zX2, by decide +kernel, h, by decide⟩
theorem kX2_61 {lev : Nat} (h : 1 + 1 ≤ lev) : CAt RX2 61 mX3_begin 1 lev := ⟨tbW_mem (List.mem_of_getElem? (i := 1152) (by decide +kernel)) rfl, oX3_begin, zX3, by decide +kernel, h, by decide⟩
theorem kX2_65 {lev : Nat} (h : 4 + 1 ≤ lev) : CAt RX2 65 mX2_passRows 4 lev := ⟨tbW_mem (List.mem_of_getElem? (i := 1153) (by decide +kernel)) rfl, oX2_passRows, zX2, by decide +kernel, h, by decide⟩
theorem kX2_87 {lev : Nat} (h : 1 + 1 ≤ lev) : CAt RX2 87 mX7_mustWork 2 lev := ⟨tbW_mem (List.mem_of_getElem? (i := 1157) (by decide +kernel)) rfl, oX7_mustWork, zX7, by decide +kernel, h, by decide⟩
theorem kX2_91 {lev : Nat} (h : 3 + 1 ≤ lev) : CAt RX2 91 mX3_goOn 3 lev := ⟨tbW_mem (List.mem_of_getElem? (i := 1158) (by decide +kernel)) rfl, oX3_goOn, zX3, by decide +kernel, h, by decide⟩
theorem kL_155 {lev : Nat} (h : 1 + 1 ≤ lev) : CAt RL 155 mX9_count 1 lev := ⟨tbW_mem (List.mem_of_getElem? (i := 1159) (by decide +kernel)) rfl, oX9_count, zX9, by decide +kernel, h, by decide⟩
theorem kL_12 {lev : Nat} (h : 3 + 1 ≤ lev) : CAt RL 12 mX10_init 0 lev := ⟨tbW_mem (List.mem_of_getElem? (i := 1165) (by decide +kernel)) rfl, oX10_init, zX10, by decide +kernel, h, by decide⟩
theorem kX10_268 {lev : Nat} (h : 2 + 1 ≤ lev) : CAt RX10 268 mX10_begin 1 lev := ⟨tbW_mem (List.mem_of_getElem? (i := 1170) (by decide +kernel)) rfl, oX10_begin, zX10, by decide +kernel, h, by decide⟩
theorem kX10_312 {lev : Nat} (h : 1 + 1 ≤ lev) : CAt RX10 312 mX10_placed 1 lev := ⟨tbW_mem (List.mem_of_getElem? (i := 1174) (by decide +kernel)) rfl, oX10_placed, zX10, by decide +kernel, h, by decide⟩
theorem kL_17 {lev : Nat} (h : 2 + 1 ≤ lev) : CAt RL 17 mX10_feed 5 lev := ⟨tbW_mem (List.mem_of_getElem? (i := 1362) (by decide +kernel)) rfl, oX10_feed, zX10, by decide +kernel, h, by decide⟩
theorem kX10_272 {lev : Nat} (h : 1 + 1 ≤ lev) : CAt RX10 272 mX10_putFour 1 lev := ⟨tbW_mem (List.mem_of_getElem? (i := 1366) (by decide +kernel)) rfl, oX10_putFour, zX10, by decide +kernel, h, by decide⟩
theorem kL_22 {lev : Nat} (h : 2 + 1 ≤ lev) : CAt RL 22 mX10_end 1 lev := ⟨tbW_mem (List.mem_of_getElem? (i := 1370) (by decide +kernel)) rfl, oX10_end, zX10, by decide +kernel, h, by decide⟩
theorem kX10_52 {lev : Nat} (h : 1 + 1 ≤ lev) : CAt RX10 52 mX10_in 3 lev := ⟨tbW_mem (List.mem_of_getElem? (i := 1374) (by decide +kernel)) rfl, oX10_in, zX10, by decide +kernel, h, by decide⟩
theorem kL_27 {lev : Nat} (h : 10 + 1 ≤ lev) : CAt RL 27 mX10_village 0 lev := ⟨tbW_mem (List.mem_of_getElem? (i := 1377) (by decide +kernel)) rfl, oX10_village, zX10, by decide +kernel, h, by decide⟩
theorem kX10_276 {lev : Nat} (h : 3 + 1 ≤ lev) : CAt RX10 276 mX10_open 0 lev := ⟨tbW_mem (List.mem_of_getElem? (i := 1381) (by decide +kernel)) rfl, oX10_open, zX10, by decide +kernel, h, by decide⟩
theorem kX10_59 {lev : Nat} (h : 2 + 1 ≤ lev) : CAt RX10 59 mX10_scan 0 lev := ⟨tbW_mem (List.mem_of_getElem? (i := 1385) (by decide +kernel)) rfl, oX10_scan, zX10, by decide +kernel, h, by decide⟩
theorem kX10_23 {lev : Nat} (h : 1 + 1 ≤ lev) : CAt RX10 23 mX10_byteAt 1 lev := ⟨tbW_mem (List.mem_of_getElem? (i := 1389) (by decide +kernel)) rfl, oX10_byteAt, zX10, by decide +kernel, h, by decide⟩
theorem kX10_30 {lev : Nat} (h : 1 + 1 ≤ lev) : CAt RX10 30 mX10_isSmall 1 lev := ⟨tbW_mem (List.mem_of_getElem? (i := 1393) (by decide +kernel)) rfl, oX10_isSmall, zX10, by decide +kernel, h, by decide⟩
theorem kX10_34 {lev : Nat} (h : 1 + 1 ≤ lev) : CAt RX10 34 mX10_isDigit 1 lev := ⟨tbW_mem (List.mem_of_getElem? (i := 1396) (by decide +kernel)) rfl, oX10_isDigit, zX10, by decide +kernel, h, by decide⟩
theorem kX10_279 {lev : Nat} (h : 9 + 1 ≤ lev) : CAt RX10 279 mX10_readVillage 0 lev := ⟨tbW_mem (List.mem_of_getElem? (i := 1399) (by decide +kernel)) rfl, oX10_readVillage, zX10, by decide +kernel, h, by decide⟩
theorem kX10_162 {lev : Nat} (h : 1 + 1 ≤ lev) : CAt RX10 162 mX10_usual 1 lev := ⟨tbW_mem (List.mem_of_getElem? (i := 1403) (by decide +kernel)) rfl, oX10_usual, zX10, by decide +kernel, h, by decide⟩
theorem kX10_122 {lev : Nat} (h : 6 + 1 ≤ lev) : CAt RX10 122 mX10_is 1 lev := ⟨tbW_mem (List.mem_of_getElem? (i := 1407) (by decide +kernel)) rfl, oX10_is, zX10, by decide +kernel, h, by decide⟩
theorem kX10_40 {lev : Nat} (h : 2 + 1 ≤ lev) : CAt RX10 40 mJ0_length_8abf5 0 lev := ⟨tbW_mem (List.mem_of_getElem? (i := 1411) (by decide +kernel)) rfl, oJ0_length_8abf5, zJ0, by decide +kernel, h, by decide⟩
theorem kX10_45 {lev : Nat} (h : 5 + 1 ≤ lev) : CAt RX10 45 mJ0_charAt_5068e 1 lev := ⟨tbW_mem (List.mem_of_getElem? (i := 1412) (by decide +kernel)) rfl, oJ0_charAt_5068e, zJ0, by decide +kernel, h, by decide⟩
theorem kX10_167 {lev : Nat} (h : 5 + 1 ≤ lev) : CAt RX10 167 mX10_readHouse 0 lev := ⟨tbW_mem (List.mem_of_getElem? (i := 1413) (by decide +kernel)) rfl, oX10_readHouse, zX10, by decide +kernel, h, by decide⟩
theorem kX10_49 {lev : Nat} (h : 1 + 1 ≤ lev) : CAt RX10 49 mX10_bad 1 lev := ⟨tbW_mem (List.mem_of_getElem? (i := 1417) (by decide +kernel)) rfl, oX10_bad, zX10, by decide +kernel, h, by decide⟩
theorem kX10_81 {lev : Nat} (h : 4 + 1 ≤ lev) : CAt RX10 81 mX10_fresh 2 lev := ⟨tbW_mem (List.mem_of_getElem? (i := 1421) (by decide +kernel)) rfl, oX10_fresh, zX10, by decide +kernel, h, by decide⟩
theorem kX10_67 {lev : Nat} (h : 3 + 1 ≤ lev) : CAt RX10 67 mX10_find 2 lev := ⟨tbW_mem (List.mem_of_getElem? (i := 1425) (by decide +kernel)) rfl, oX10_find, zX10, by decide +kernel, h, by decide⟩
theorem kX10_63 {lev : Nat} (h : 2 + 1 ≤ lev) : CAt RX10 63 mX10_name 0 lev := ⟨tbW_mem (List.mem_of_getElem? (i := 1429) (by decide +kernel)) rfl, oX10_name, zX10, by decide +kernel, h, by decide⟩
theorem kX10_85 {lev : Nat} (h : 3 + 1 ≤ lev) : CAt RX10 85 mX10_number 2 lev := ⟨tbW_mem (List.mem_of_getElem? (i := 1433) (by decide +kernel)) rfl, oX10_number, zX10, by decide +kernel, h, by decide⟩
theorem kX10_173 {lev : Nat} (h : 7 + 1 ≤ lev) : CAt RX10 173 mX10_readPerson 0 lev := ⟨tbW_mem (List.mem_of_getElem? (i := 1438) (by decide +kernel)) rfl, oX10_readPerson, zX10, by decide +kernel, h, by decide⟩
theorem kX10_178 {lev : Nat} (h : 5 + 1 ≤ lev) : CAt RX10 178 mX10_readTies 0 lev := ⟨tbW_mem (List.mem_of_getElem? (i := 1444) (by decide +kernel)) rfl, oX10_readTies, zX10, by decide +kernel, h, by decide⟩
theorem kX10_126 {lev : Nat} (h : 4 + 1 ≤ lev) : CAt RX10 126 mX10_known 2 lev := ⟨tbW_mem (List.mem_of_getElem? (i := 1448) (by decide +kernel)) rfl, oX10_known, zX10, by decide +kernel, h, by decide⟩
theorem kX10_183 {lev : Nat} (h : 4 + 1 ≤ lev) : CAt RX10 183 mX10_readWorks 0 lev := ⟨tbW_mem (List.mem_of_getElem? (i := 1453) (by decide +kernel)) rfl, oX10_readWorks, zX10, by decide +kernel, h, by decide⟩
theorem kX10_186 {lev : Nat} (h : 8 + 1 ≤ lev) : CAt RX10 186 mX10_readSmall 0 lev := ⟨tbW_mem (List.mem_of_getElem? (i := 1457) (by decide +kernel)) rfl, oX10_readSmall, zX10, by decide +kernel, h, by decide⟩
theorem kX10_143 {lev : Nat} (h : 7 + 1 ≤ lev) : CAt RX10 143 mX10_wordAt 0 lev := ⟨tbW_mem (List.mem_of_getElem? (i := 1461) (by decide +kernel)) rfl, oX10_wordAt, zX10, by decide +kernel, h, by decide⟩
theorem kX10_153 {lev : Nat} (h : 1 + 1 ≤ lev) : CAt RX10 153 mX10_greatest 1 lev := ⟨tbW_mem (List.mem_of_getElem? (i := 1472) (by decide +kernel)) rfl, oX10_greatest, zX10, by decide +kernel, h, by decide⟩
theorem kX10_189 {lev : Nat} (h : 3 + 1 ≤ lev) : CAt RX10 189 mX10_close 0 lev := ⟨tbW_mem (List.mem_of_getElem? (i := 1475) (by decide +kernel)) rfl, oX10_close, zX10, by decide +kernel, h, by decide⟩
theorem kL_31 {lev : Nat} (h : 1 + 1 ≤ lev) : CAt RL 31 mX10_fault 1 lev := ⟨tbW_mem (List.mem_of_getElem? (i := 1479) (by decide +kernel)) rfl, oX10_fault, zX10, by decide +kernel, h, by decide⟩
theorem kL_35 {lev : Nat} (h : 2 + 1 ≤ lev) : CAt RL 35 mX10_told 1 lev := ⟨tbW_mem (List.mem_of_getElem? (i := 1483) (by decide +kernel)) rfl, oX10_told, zX10, by decide +kernel, h, by decide⟩
theorem kL_40 {lev : Nat} (h : 3 + 1 ≤ lev) : CAt RL 40 mX10_tie 2 lev := ⟨tbW_mem (List.mem_of_getElem? (i := 1493) (by decide +kernel)) rfl, oX10_tie, zX10, by decide +kernel, h, by decide⟩
theorem kX10_309 {lev : Nat} (h : 2 + 1 ≤ lev) : CAt RX10 309 mX10_isPerson 1 lev := ⟨tbW_mem (List.mem_of_getElem? (i := 1497) (by decide +kernel)) rfl, oX10_isPerson, zX10, by decide +kernel, h, by decide⟩
theorem kL_44 {lev : Nat} (h : 3 + 1 ≤ lev) : CAt RL 44 mX10_plan 1 lev := ⟨tbW_mem (List.mem_of_getElem? (i := 1501) (by decide +kernel)) rfl, oX10_plan, zX10, by decide +kernel, h, by decide⟩
theorem kX10_371 {lev : Nat} (h : 2 + 1 ≤ lev) : CAt RX10 371 mX10_isHouse 1 lev := ⟨tbW_mem (List.mem_of_getElem? (i := 1505) (by decide +kernel)) rfl, oX10_isHouse, zX10, by decide +kernel, h, by decide⟩
theorem kX10_374 {lev : Nat} (h : 1 + 1 ≤ lev) : CAt RX10 374 mX10_placeOf 1 lev := ⟨tbW_mem (List.mem_of_getElem? (i := 1509) (by decide +kernel)) rfl, oX10_placeOf, zX10, by decide +kernel, h, by decide⟩
theorem kL_48 {lev : Nat} (h : 3 + 1 ≤ lev) : CAt RL 48 mX10_planned 2 lev := ⟨tbW_mem (List.mem_of_getElem? (i := 1512) (by decide +kernel)) rfl, oX10_planned, zX10, by decide +kernel, h, by decide⟩
theorem kX10_379 {lev : Nat} (h : 1 + 1 ≤ lev) : CAt RX10 379 mX10_told0 1 lev := ⟨tbW_mem (List.mem_of_getElem? (i := 1517) (by decide +kernel)) rfl, oX10_told0, zX10, by decide +kernel, h, by decide⟩
theorem kL_52 {lev : Nat} (h : 3 + 1 ≤ lev) : CAt RL 52 mX10_lets 2 lev := ⟨tbW_mem (List.mem_of_getElem? (i := 1520) (by decide +kernel)) rfl, oX10_lets, zX10, by decide +kernel, h, by decide⟩
theorem kL_56 {lev : Nat} (h : 1 + 1 ≤ lev) : CAt RL 56 mX10_chance 1 lev := ⟨tbW_mem (List.mem_of_getElem? (i := 1525) (by decide +kernel)) rfl, oX10_chance, zX10, by decide +kernel, h, by decide⟩
theorem kL_60 {lev : Nat} (h : 5 + 1 ≤ lev) : CAt RL 60 mX10_pass 1 lev := ⟨tbW_mem (List.mem_of_getElem? (i := 1529) (by decide +kernel)) rfl, oX10_pass, zX10, by decide +kernel, h, by decide⟩
theorem kX10_386 {lev : Nat} (h : 2 + 1 ≤ lev) : CAt RX10 386 mX10_planWishes 1 lev := ⟨tbW_mem (List.mem_of_getElem? (i := 1534) (by decide +kernel)) rfl, oX10_planWishes, zX10, by decide +kernel, h, by decide⟩
theorem kX10_338 {lev : Nat} (h : 1 + 1 ≤ lev) : CAt RX10 338 mX10_works 2 lev := ⟨tbW_mem (List.mem_of_getElem? (i := 1538) (by decide +kernel)) rfl, oX10_works, zX10, by decide +kernel, h, by decide⟩
theorem kX10_389 {lev : Nat} (h : 2 + 1 ≤ lev) : CAt RX10 389 mX10_strolls 1 lev := ⟨tbW_mem (List.mem_of_getElem? (i := 1542) (by decide +kernel)) rfl, oX10_strolls, zX10, by decide +kernel, h, by decide⟩
theorem kX10_342 {lev : Nat} (h : 1 + 1 ≤ lev) : CAt RX10 342 mX10_draw 2 lev := ⟨tbW_mem (List.mem_of_getElem? (i := 1546) (by decide +kernel)) rfl, oX10_draw, zX10, by decide +kernel, h, by decide⟩
theorem kX10_392 {lev : Nat} (h : 4 + 1 ≤ lev) : CAt RX10 392 mX10_goQuarter 1 lev := ⟨tbW_mem (List.mem_of_getElem? (i := 1553) (by decide +kernel)) rfl, oX10_goQuarter, zX10, by decide +kernel, h, by decide⟩
theorem kX10_352 {lev : Nat} (h : 3 + 1 ≤ lev) : CAt RX10 352 mX10_comes 2 lev := ⟨tbW_mem (List.mem_of_getElem? (i := 1557) (by decide +kernel)) rfl, oX10_comes, zX10, by decide +kernel, h, by decide⟩
theorem kX10_346 {lev : Nat} (h : 2 + 1 ≤ lev) : CAt RX10 346 mX10_has 2 lev := ⟨tbW_mem (List.mem_of_getElem? (i := 1561) (by decide +kernel)) rfl, oX10_has, zX10, by decide +kernel, h, by decide⟩
theorem kX10_321 {lev : Nat} (h : 1 + 1 ≤ lev) : CAt RX10 321 mX10_isGuest 3 lev := ⟨tbW_mem (List.mem_of_getElem? (i := 1565) (by decide +kernel)) rfl, oX10_isGuest, zX10, by decide +kernel, h, by decide⟩
theorem kX10_325 {lev : Nat} (h : 1 + 1 ≤ lev) : CAt RX10 325 mX10_after 0 lev := ⟨tbW_mem (List.mem_of_getElem? (i := 1569) (by decide +kernel)) rfl, oX10_after, zX10, by decide +kernel, h, by decide⟩
theorem kX10_327 {lev : Nat} (h : 1 + 1 ≤ lev) : CAt RX10 327 mX10_goesByLast 0 lev := ⟨tbW_mem (List.mem_of_getElem? (i := 1573) (by decide +kernel)) rfl, oX10_goesByLast, zX10, by decide +kernel, h, by decide⟩
theorem kX10_349 {lev : Nat} (h : 2 + 1 ≤ lev) : CAt RX10 349 mX10_guests 2 lev := ⟨tbW_mem (List.mem_of_getElem? (i := 1577) (by decide +kernel)) rfl, oX10_guests, zX10, by decide +kernel, h, by decide⟩
theorem kX10_356 {lev : Nat} (h : 1 + 1 ≤ lev) : CAt RX10 356 mX10_tiesOf 2 lev := ⟨tbW_mem (List.mem_of_getElem? (i := 1581) (by decide +kernel)) rfl, oX10_tiesOf, zX10, by decide +kernel, h, by decide⟩
theorem kX10_359 {lev : Nat} (h : 1 + 1 ≤ lev) : CAt RX10 359 mJ9_min_7cf53 2 lev := ⟨tbW_mem (List.mem_of_getElem? (i := 1585) (by decide +kernel)) rfl, oJ9_min_7cf53, zJ9, by decide +kernel, h, by decide⟩
theorem kX10_365 {lev : Nat} (h : 1 + 1 ≤ lev) : CAt RX10 365 mX10_worthAt 1 lev := ⟨tbW_mem (List.mem_of_getElem? (i := 1586) (by decide +kernel)) rfl, oX10_worthAt, zX10, by decide +kernel, h, by decide⟩
theorem kX10_368 {lev : Nat} (h : 1 + 1 ≤ lev) : CAt RX10 368 mJ9_max_7cf53 2 lev := ⟨tbW_mem (List.mem_of_getElem? (i := 1590) (by decide +kernel)) rfl, oJ9_max_7cf53, zJ9, by decide +kernel, h, by decide⟩
theorem kL_64 {lev : Nat} (h : 3 + 1 ≤ lev) : CAt RL 64 mX10_who 2 lev := ⟨tbW_mem (List.mem_of_getElem? (i := 1591) (by decide +kernel)) rfl, oX10_who, zX10, by decide +kernel, h, by decide⟩
theorem kL_68 {lev : Nat} (h : 3 + 1 ≤ lev) : CAt RL 68 mX10_house 2 lev := ⟨tbW_mem (List.mem_of_getElem? (i := 1596) (by decide +kernel)) rfl, oX10_house, zX10, by decide +kernel, h, by decide⟩
theorem kL_72 {lev : Nat} (h : 3 + 1 ≤ lev) : CAt RL 72 mX10_word 1 lev := ⟨tbW_mem (List.mem_of_getElem? (i := 1600) (by decide +kernel)) rfl, oX10_word, zX10, by decide +kernel, h, by decide⟩
theorem kL_76 {lev : Nat} (h : 3 + 1 ≤ lev) : CAt RL 76 mX10_keep 1 lev := ⟨tbW_mem (List.mem_of_getElem? (i := 1604) (by decide +kernel)) rfl, oX10_keep, zX10, by decide +kernel, h, by decide⟩
theorem kX10_396 {lev : Nat} (h : 2 + 1 ≤ lev) : CAt RX10 396 mX10_isSlot 1 lev := ⟨tbW_mem (List.mem_of_getElem? (i := 1608) (by decide +kernel)) rfl, oX10_isSlot, zX10, by decide +kernel, h, by decide⟩
theorem kL_80 {lev : Nat} (h : 3 + 1 ≤ lev) : CAt RL 80 mX10_take 1 lev := ⟨tbW_mem (List.mem_of_getElem? (i := 1611) (by decide +kernel)) rfl, oX10_take, zX10, by decide +kernel, h, by decide⟩
theorem kL_84 {lev : Nat} (h : 8 + 1 ≤ lev) : CAt RL 84 mX10_sum 1 lev := ⟨tbW_mem (List.mem_of_getElem? (i := 1615) (by decide +kernel)) rfl, oX10_sum, zX10, by decide +kernel, h, by decide⟩
theorem kX10_408 {lev : Nat} (h : 7 + 1 ≤ lev) : CAt RX10 408 mX10_sumNow 1 lev := ⟨tbW_mem (List.mem_of_getElem? (i := 1619) (by decide +kernel)) rfl, oX10_sumNow, zX10, by decide +kernel, h, by decide⟩
theorem kX10_402 {lev : Nat} (h : 1 + 1 ≤ lev) : CAt RX10 402 mX10_copyNow 0 lev := ⟨tbW_mem (List.mem_of_getElem? (i := 1623) (by decide +kernel)) rfl, oX10_copyNow, zX10, by decide +kernel, h, by decide⟩
theorem kX10_405 {lev : Nat} (h : 6 + 1 ≤ lev) : CAt RX10 405 mX10_sumOf 1 lev := ⟨tbW_mem (List.mem_of_getElem? (i := 1627) (by decide +kernel)) rfl, oX10_sumOf, zX10, by decide +kernel, h, by decide⟩
theorem kX10_399 {lev : Nat} (h : 5 + 1 ≤ lev) : CAt RX10 399 mX10_goTrial 1 lev := ⟨tbW_mem (List.mem_of_getElem? (i := 1631) (by decide +kernel)) rfl, oX10_goTrial, zX10, by decide +kernel, h, by decide⟩
theorem kL_88 {lev : Nat} (h : 8 + 1 ≤ lev) : CAt RL 88 mX10_best 2 lev := ⟨tbW_mem (List.mem_of_getElem? (i := 1635) (by decide +kernel)) rfl, oX10_best, zX10, by decide +kernel, h, by decide⟩
theorem kX10_416 {lev : Nat} (h : 7 + 1 ≤ lev) : CAt RX10 416 mX10_findBest 1 lev := ⟨tbW_mem (List.mem_of_getElem? (i := 1640) (by decide +kernel)) rfl, oX10_findBest, zX10, by decide +kernel, h, by decide⟩
theorem kX10_411 {lev : Nat} (h : 1 + 1 ≤ lev) : CAt RX10 411 mX10_place 1 lev := ⟨tbW_mem (List.mem_of_getElem? (i := 1644) (by decide +kernel)) rfl, oX10_place, zX10, by decide +kernel, h, by decide⟩
theorem kL_92 {lev : Nat} (h : 7 + 1 ≤ lev) : CAt RL 92 mX10_rests 0 lev := ⟨tbW_mem (List.mem_of_getElem? (i := 1648) (by decide +kernel)) rfl, oX10_rests, zX10, by decide +kernel, h, by decide⟩
theorem kX10_431 {lev : Nat} (h : 6 + 1 ≤ lev) : CAt RX10 431 mX10_findGains 0 lev := ⟨tbW_mem (List.mem_of_getElem? (i := 1652) (by decide +kernel)) rfl, oX10_findGains, zX10, by decide +kernel, h, by decide⟩
theorem kX10_425 {lev : Nat} (h : 1 + 1 ≤ lev) : CAt RX10 425 mX10_rows 0 lev := ⟨tbW_mem (List.mem_of_getElem? (i := 1656) (by decide +kernel)) rfl, oX10_rows, zX10, by decide +kernel, h, by decide⟩
theorem kX10_428 {lev : Nat} (h : 5 + 1 ≤ lev) : CAt RX10 428 mX10_goWishes 1 lev := ⟨tbW_mem (List.mem_of_getElem? (i := 1660) (by decide +kernel)) rfl, oX10_goWishes, zX10, by decide +kernel, h, by decide⟩
theorem kX10_422 {lev : Nat} (h : 2 + 1 ≤ lev) : CAt RX10 422 mX10_wished 2 lev := ⟨tbW_mem (List.mem_of_getElem? (i := 1664) (by decide +kernel)) rfl, oX10_wished, zX10, by decide +kernel, h, by decide⟩
theorem kX10_419 {lev : Nat} (h : 1 + 1 ≤ lev) : CAt RX10 419 mX10_weight 1 lev := ⟨tbW_mem (List.mem_of_getElem? (i := 1668) (by decide +kernel)) rfl, oX10_weight, zX10, by decide +kernel, h, by decide⟩
theorem kX10_434 {lev : Nat} (h : 3 + 1 ≤ lev) : CAt RX10 434 mX10_isRest 1 lev := ⟨tbW_mem (List.mem_of_getElem? (i := 1672) (by decide +kernel)) rfl, oX10_isRest, zX10, by decide +kernel, h, by decide⟩
theorem kL_96 {lev : Nat} (h : 7 + 1 ≤ lev) : CAt RL 96 mX10_rest 2 lev := ⟨tbW_mem (List.mem_of_getElem? (i := 1676) (by decide +kernel)) rfl, oX10_rest, zX10, by decide +kernel, h, by decide⟩
theorem kL_100 {lev : Nat} (h : 8 + 1 ≤ lev) : CAt RL 100 mX10_settle 0 lev := ⟨tbW_mem (List.mem_of_getElem? (i := 1680) (by decide +kernel)) rfl, oX10_settle, zX10, by decide +kernel, h, by decide⟩
theorem kL_105 {lev : Nat} (h : 6 + 1 ≤ lev) : CAt RL 105 mX10_longer 3 lev := ⟨tbW_mem (List.mem_of_getElem? (i := 1684) (by decide +kernel)) rfl, oX10_longer, zX10, by decide +kernel, h, by decide⟩
theorem kL_109 {lev : Nat} (h : 8 + 1 ≤ lev) : CAt RL 109 mX10_guard 2 lev := ⟨tbW_mem (List.mem_of_getElem? (i := 1689) (by decide +kernel)) rfl, oX10_guard, zX10, by decide +kernel, h, by decide⟩
theorem kL_113 {lev : Nat} (h : 7 + 1 ≤ lev) : CAt RL 113 mX10_rings 1 lev := ⟨tbW_mem (List.mem_of_getElem? (i := 1693) (by decide +kernel)) rfl, oX10_rings, zX10, by decide +kernel, h, by decide⟩
theorem kX10_439 {lev : Nat} (h : 3 + 1 ≤ lev) : CAt RX10 439 mX10_isRing 1 lev := ⟨tbW_mem (List.mem_of_getElem? (i := 1697) (by decide +kernel)) rfl, oX10_isRing, zX10, by decide +kernel, h, by decide⟩
theorem kX10_442 {lev : Nat} (h : 2 + 1 ≤ lev) : CAt RX10 442 mX10_holds 1 lev := ⟨tbW_mem (List.mem_of_getElem? (i := 1701) (by decide +kernel)) rfl, oX10_holds, zX10, by decide +kernel, h, by decide⟩
theorem kL_117 {lev : Nat} (h : 7 + 1 ≤ lev) : CAt RL 117 mX10_when 1 lev := ⟨tbW_mem (List.mem_of_getElem? (i := 1705) (by decide +kernel)) rfl, oX10_when, zX10, by decide +kernel, h, by decide⟩
theorem kL_121 {lev : Nat} (h : 8 + 1 ≤ lev) : CAt RL 121 mX10_bound 2 lev := ⟨tbW_mem (List.mem_of_getElem? (i := 1709) (by decide +kernel)) rfl, oX10_bound, zX10, by decide +kernel, h, by decide⟩
theorem kL_126 {lev : Nat} (h : 7 + 1 ≤ lev) : CAt RL 126 mX10_law 4 lev := ⟨tbW_mem (List.mem_of_getElem? (i := 1715) (by decide +kernel)) rfl, oX10_law, zX10, by decide +kernel, h, by decide⟩
theorem kX10_459 {lev : Nat} (h : 6 + 1 ≤ lev) : CAt RX10 459 mX10_tryLaw 3 lev := ⟨tbW_mem (List.mem_of_getElem? (i := 1721) (by decide +kernel)) rfl, oX10_tryLaw, zX10, by decide +kernel, h, by decide⟩
theorem kL_130 {lev : Nat} (h : 7 + 1 ≤ lev) : CAt RL 130 mX10_bestLaw 1 lev := ⟨tbW_mem (List.mem_of_getElem? (i := 1725) (by decide +kernel)) rfl, oX10_bestLaw, zX10, by decide +kernel, h, by decide⟩
theorem kL_134 {lev : Nat} (h : 3 + 1 ≤ lev) : CAt RL 134 mX10_feast 0 lev := ⟨tbW_mem (List.mem_of_getElem? (i := 1729) (by decide +kernel)) rfl, oX10_feast, zX10, by decide +kernel, h, by decide⟩
theorem kX10_466 {lev : Nat} (h : 2 + 1 ≤ lev) : CAt RX10 466 mX10_allHome 1 lev := ⟨tbW_mem (List.mem_of_getElem? (i := 1733) (by decide +kernel)) rfl, oX10_allHome, zX10, by decide +kernel, h, by decide⟩
theorem kX10_469 {lev : Nat} (h : 1 + 1 ≤ lev) : CAt RX10 469 mX10_behindTurns 2 lev := ⟨tbW_mem (List.mem_of_getElem? (i := 1737) (by decide +kernel)) rfl, oX10_behindTurns, zX10, by decide +kernel, h, by decide⟩
theorem kL_138 {lev : Nat} (h : 3 + 1 ≤ lev) : CAt RL 138 mX10_turned 2 lev := ⟨tbW_mem (List.mem_of_getElem? (i := 1741) (by decide +kernel)) rfl, oX10_turned, zX10, by decide +kernel, h, by decide⟩
theorem kL_142 {lev : Nat} (h : 7 + 1 ≤ lev) : CAt RL 142 mX10_whom 1 lev := ⟨tbW_mem (List.mem_of_getElem? (i := 1746) (by decide +kernel)) rfl, oX10_whom, zX10, by decide +kernel, h, by decide⟩
theorem kL_146 {lev : Nat} (h : 7 + 1 ≤ lev) : CAt RL 146 mX10_edge 2 lev := ⟨tbW_mem (List.mem_of_getElem? (i := 1750) (by decide +kernel)) rfl, oX10_edge, zX10, by decide +kernel, h, by decide⟩
theorem kL_150 {lev : Nat} (h : 8 + 1 ≤ lev) : CAt RL 150 mX10_show 1 lev := ⟨tbW_mem (List.mem_of_getElem? (i := 1754) (by decide +kernel)) rfl, oX10_show, zX10, by decide +kernel, h, by decide⟩
theorem kL_154 {lev : Nat} (h : 5 + 1 ≤ lev) : CAt RL 154 mX10_book 0 lev := ⟨tbW_mem (List.mem_of_getElem? (i := 1758) (by decide +kernel)) rfl, oX10_book, zX10, by decide +kernel, h, by decide⟩
theorem kX10_477 {lev : Nat} (h : 4 + 1 ≤ lev) : CAt RX10 477 mX10_readBook 0 lev := ⟨tbW_mem (List.mem_of_getElem? (i := 1762) (by decide +kernel)) rfl, oX10_readBook, zX10, by decide +kernel, h, by decide⟩
theorem kX10_480 {lev : Nat} (h : 3 + 1 ≤ lev) : CAt RX10 480 mX10_isInOrder 1 lev := ⟨tbW_mem (List.mem_of_getElem? (i := 1766) (by decide +kernel)) rfl, oX10_isInOrder, zX10, by decide +kernel, h, by decide⟩
theorem kL_158 {lev : Nat} (h : 1 + 1 ≤ lev) : CAt RL 158 mX10_count 1 lev := ⟨tbW_mem (List.mem_of_getElem? (i := 1770) (by decide +kernel)) rfl, oX10_count, zX10, by decide +kernel, h, by decide⟩
theorem fX4_11 : FAt RX4 11 4 0 := ⟨RX4, TX4, 7, rfl, by decide, inX4, tbW_mem (List.mem_of_getElem? (i := 136) (by decide +kernel)) rfl⟩
theorem pX4_11 : PAt RX4 11 4 0 (.array .int) true := ⟨RX4, TX4, 7, tyX4, rfl, by decide, inX4, tbW_mem (List.mem_of_getElem? (i := 136) (by decide +kernel)) rfl, tyX4_ok, nmX4, rfl, rfl, fun _ => rfl⟩
theorem fX9_68 : FAt RX9 68 4 1 := ⟨RX4, TX4, 7, rfl, by decide, inX4, tbW_mem (List.mem_of_getElem? (i := 137) (by decide +kernel)) rfl⟩
theorem pX9_68 : PAt RX9 68 4 1 .int false := ⟨RX4, TX4, 7, tyX4, rfl, by decide, inX4, tbW_mem (List.mem_of_getElem? (i := 137) (by decide +kernel)) rfl, tyX4_ok, nmX4, rfl, rfl, fun h => by cases h⟩
theorem fX4_15 : FAt RX4 15 4 1 := ⟨RX4, TX4, 7, rfl, by decide, inX4, tbW_mem (List.mem_of_getElem? (i := 138) (by decide +kernel)) rfl⟩
theorem pX4_15 : PAt RX4 15 4 1 .int false := ⟨RX4, TX4, 7, tyX4, rfl, by decide, inX4, tbW_mem (List.mem_of_getElem? (i := 138) (by decide +kernel)) rfl, tyX4_ok, nmX4, rfl, rfl, fun h => by cases h⟩
theorem fX4_19 : FAt RX4 19 4 2 := ⟨RX4, TX4, 7, rfl, by decide, inX4, tbW_mem (List.mem_of_getElem? (i := 139) (by decide +kernel)) rfl⟩
theorem pX4_19 : PAt RX4 19 4 2 .int false := ⟨RX4, TX4, 7, tyX4, rfl, by decide, inX4, tbW_mem (List.mem_of_getElem? (i := 139) (by decide +kernel)) rfl, tyX4_ok, nmX4, rfl, rfl, fun h => by cases h⟩
theorem fX2_40 : FAt RX2 40 4 3 := ⟨RX4, TX4, 7, rfl, by decide, inX4, tbW_mem (List.mem_of_getElem? (i := 140) (by decide +kernel)) rfl⟩
theorem fX5_37 : FAt RX5 37 4 3 := ⟨RX4, TX4, 7, rfl, by decide, inX4, tbW_mem (List.mem_of_getElem? (i := 141) (by decide +kernel)) rfl⟩
theorem fX4_32 : FAt RX4 32 4 3 := ⟨RX4, TX4, 7, rfl, by decide, inX4, tbW_mem (List.mem_of_getElem? (i := 142) (by decide +kernel)) rfl⟩
theorem pX4_32 : PAt RX4 32 4 3 .int false := ⟨RX4, TX4, 7, tyX4, rfl, by decide, inX4, tbW_mem (List.mem_of_getElem? (i := 142) (by decide +kernel)) rfl, tyX4_ok, nmX4, rfl, rfl, fun h => by cases h⟩
theorem fX4_29 : FAt RX4 29 4 4 := ⟨RX4, TX4, 7, rfl, by decide, inX4, tbW_mem (List.mem_of_getElem? (i := 143) (by decide +kernel)) rfl⟩
theorem pX4_29 : PAt RX4 29 4 4 .int false := ⟨RX4, TX4, 7, tyX4, rfl, by decide, inX4, tbW_mem (List.mem_of_getElem? (i := 143) (by decide +kernel)) rfl, tyX4_ok, nmX4, rfl, rfl, fun h => by cases h⟩
theorem fX5_186 : FAt RX5 186 4 4 := ⟨RX4, TX4, 7, rfl, by decide, inX4, tbW_mem (List.mem_of_getElem? (i := 144) (by decide +kernel)) rfl⟩
theorem fX2_54 : FAt RX2 54 4 5 := ⟨RX4, TX4, 7, rfl, by decide, inX4, tbW_mem (List.mem_of_getElem? (i := 145) (by decide +kernel)) rfl⟩
theorem fX4_39 : FAt RX4 39 4 5 := ⟨RX4, TX4, 7, rfl, by decide, inX4, tbW_mem (List.mem_of_getElem? (i := 146) (by decide +kernel)) rfl⟩
theorem pX4_39 : PAt RX4 39 4 5 .int false := ⟨RX4, TX4, 7, tyX4, rfl, by decide, inX4, tbW_mem (List.mem_of_getElem? (i := 146) (by decide +kernel)) rfl, tyX4_ok, nmX4, rfl, rfl, fun h => by cases h⟩
theorem fX5_183 : FAt RX5 183 4 5 := ⟨RX4, TX4, 7, rfl, by decide, inX4, tbW_mem (List.mem_of_getElem? (i := 147) (by decide +kernel)) rfl⟩
theorem fX4_35 : FAt RX4 35 4 6 := ⟨RX4, TX4, 7, rfl, by decide, inX4, tbW_mem (List.mem_of_getElem? (i := 148) (by decide +kernel)) rfl⟩
theorem pX4_35 : PAt RX4 35 4 6 .long false := ⟨RX4, TX4, 7, tyX4, rfl, by decide, inX4, tbW_mem (List.mem_of_getElem? (i := 148) (by decide +kernel)) rfl, tyX4_ok, nmX4, rfl, rfl, fun h => by cases h⟩
theorem fX5_119 : FAt RX5 119 4 6 := ⟨RX4, TX4, 7, rfl, by decide, inX4, tbW_mem (List.mem_of_getElem? (i := 149) (by decide +kernel)) rfl⟩
theorem fX7_43 : FAt RX7 43 7 0 := ⟨RX7, TX7, 16, rfl, by decide, inX7, tbW_mem (List.mem_of_getElem? (i := 178) (by decide +kernel)) rfl⟩
theorem pX7_43 : PAt RX7 43 7 0 .int false := ⟨RX7, TX7, 16, tyX7, rfl, by decide, inX7, tbW_mem (List.mem_of_getElem? (i := 178) (by decide +kernel)) rfl, tyX7_ok, nmX7, rfl, rfl, fun h => by cases h⟩
theorem fX5_77 : FAt RX5 77 7 0 := ⟨RX7, TX7, 16, rfl, by decide, inX7, tbW_mem (List.mem_of_getElem? (i := 179) (by decide +kernel)) rfl⟩
theorem pX5_77 : PAt RX5 77 7 0 .int false := ⟨RX7, TX7, 16, tyX7, rfl, by decide, inX7, tbW_mem (List.mem_of_getElem? (i := 179) (by decide +kernel)) rfl, tyX7_ok, nmX7, rfl, rfl, fun h => by cases h⟩
theorem fX9_90 : FAt RX9 90 7 0 := ⟨RX7, TX7, 16, rfl, by decide, inX7, tbW_mem (List.mem_of_getElem? (i := 180) (by decide +kernel)) rfl⟩
theorem fX7_47 : FAt RX7 47 7 1 := ⟨RX7, TX7, 16, rfl, by decide, inX7, tbW_mem (List.mem_of_getElem? (i := 181) (by decide +kernel)) rfl⟩
theorem pX7_47 : PAt RX7 47 7 1 .int false := ⟨RX7, TX7, 16, tyX7, rfl, by decide, inX7, tbW_mem (List.mem_of_getElem? (i := 181) (by decide +kernel)) rfl, tyX7_ok, nmX7, rfl, rfl, fun h => by cases h⟩
theorem fX6_71 : FAt RX6 71 7 1 := ⟨RX7, TX7, 16, rfl, by decide, inX7, tbW_mem (List.mem_of_getElem? (i := 182) (by decide +kernel)) rfl⟩
theorem fX5_83 : FAt RX5 83 7 1 := ⟨RX7, TX7, 16, rfl, by decide, inX7, tbW_mem (List.mem_of_getElem? (i := 183) (by decide +kernel)) rfl⟩
theorem pX5_83 : PAt RX5 83 7 1 .int false := ⟨RX7, TX7, 16, tyX7, rfl, by decide, inX7, tbW_mem (List.mem_of_getElem? (i := 183) (by decide +kernel)) rfl, tyX7_ok, nmX7, rfl, rfl, fun h => by cases h⟩
theorem fX1_78 : FAt RX1 78 7 1 := ⟨RX7, TX7, 16, rfl, by decide, inX7, tbW_mem (List.mem_of_getElem? (i := 184) (by decide +kernel)) rfl⟩
theorem fX9_99 : FAt RX9 99 7 1 := ⟨RX7, TX7, 16, rfl, by decide, inX7, tbW_mem (List.mem_of_getElem? (i := 185) (by decide +kernel)) rfl⟩
theorem fX2_77 : FAt RX2 77 7 1 := ⟨RX7, TX7, 16, rfl, by decide, inX7, tbW_mem (List.mem_of_getElem? (i := 186) (by decide +kernel)) rfl⟩
theorem fX3_75 : FAt RX3 75 7 1 := ⟨RX7, TX7, 16, rfl, by decide, inX7, tbW_mem (List.mem_of_getElem? (i := 187) (by decide +kernel)) rfl⟩
theorem fX7_50 : FAt RX7 50 7 2 := ⟨RX7, TX7, 16, rfl, by decide, inX7, tbW_mem (List.mem_of_getElem? (i := 188) (by decide +kernel)) rfl⟩
theorem pX7_50 : PAt RX7 50 7 2 .int false := ⟨RX7, TX7, 16, tyX7, rfl, by decide, inX7, tbW_mem (List.mem_of_getElem? (i := 188) (by decide +kernel)) rfl, tyX7_ok, nmX7, rfl, rfl, fun h => by cases h⟩
theorem fX3_47 : FAt RX3 47 7 2 := ⟨RX7, TX7, 16, rfl, by decide, inX7, tbW_mem (List.mem_of_getElem? (i := 189) (by decide +kernel)) rfl⟩
theorem fX5_108 : FAt RX5 108 7 2 := ⟨RX7, TX7, 16, rfl, by decide, inX7, tbW_mem (List.mem_of_getElem? (i := 190) (by decide +kernel)) rfl⟩
theorem pX5_108 : PAt RX5 108 7 2 .int false := ⟨RX7, TX7, 16, tyX7, rfl, by decide, inX7, tbW_mem (List.mem_of_getElem? (i := 190) (by decide +kernel)) rfl, tyX7_ok, nmX7, rfl, rfl, fun h => by cases h⟩
theorem fX1_67 : FAt RX1 67 7 2 := ⟨RX7, TX7, 16, rfl, by decide, inX7, tbW_mem (List.mem_of_getElem? (i := 191) (by decide +kernel)) rfl⟩
theorem fX8_33 : FAt RX8 33 7 2 := ⟨RX7, TX7, 16, rfl, by decide, inX7, tbW_mem (List.mem_of_getElem? (i := 192) (by decide +kernel)) rfl⟩
theorem fX2_72 : FAt RX2 72 7 2 := ⟨RX7, TX7, 16, rfl, by decide, inX7, tbW_mem (List.mem_of_getElem? (i := 193) (by decide +kernel)) rfl⟩
theorem fX9_102 : FAt RX9 102 7 2 := ⟨RX7, TX7, 16, rfl, by decide, inX7, tbW_mem (List.mem_of_getElem? (i := 194) (by decide +kernel)) rfl⟩
theorem fX6_127 : FAt RX6 127 7 2 := ⟨RX7, TX7, 16, rfl, by decide, inX7, tbW_mem (List.mem_of_getElem? (i := 195) (by decide +kernel)) rfl⟩
theorem fX7_53 : FAt RX7 53 7 3 := ⟨RX7, TX7, 16, rfl, by decide, inX7, tbW_mem (List.mem_of_getElem? (i := 196) (by decide +kernel)) rfl⟩
theorem pX7_53 : PAt RX7 53 7 3 .boolean false := ⟨RX7, TX7, 16, tyX7, rfl, by decide, inX7, tbW_mem (List.mem_of_getElem? (i := 196) (by decide +kernel)) rfl, tyX7_ok, nmX7, rfl, rfl, fun h => by cases h⟩
theorem fX3_56 : FAt RX3 56 7 3 := ⟨RX7, TX7, 16, rfl, by decide, inX7, tbW_mem (List.mem_of_getElem? (i := 197) (by decide +kernel)) rfl⟩
theorem fX9_108 : FAt RX9 108 7 3 := ⟨RX7, TX7, 16, rfl, by decide, inX7, tbW_mem (List.mem_of_getElem? (i := 198) (by decide +kernel)) rfl⟩
theorem fX5_152 : FAt RX5 152 7 3 := ⟨RX7, TX7, 16, rfl, by decide, inX7, tbW_mem (List.mem_of_getElem? (i := 199) (by decide +kernel)) rfl⟩
theorem pX5_152 : PAt RX5 152 7 3 .boolean false := ⟨RX7, TX7, 16, tyX7, rfl, by decide, inX7, tbW_mem (List.mem_of_getElem? (i := 199) (by decide +kernel)) rfl, tyX7_ok, nmX7, rfl, rfl, fun h => by cases h⟩
theorem fX6_214 : FAt RX6 214 7 3 := ⟨RX7, TX7, 16, rfl, by decide, inX7, tbW_mem (List.mem_of_getElem? (i := 200) (by decide +kernel)) rfl⟩
theorem pX6_214 : PAt RX6 214 7 3 .boolean false := ⟨RX7, TX7, 16, tyX7, rfl, by decide, inX7, tbW_mem (List.mem_of_getElem? (i := 200) (by decide +kernel)) rfl, tyX7_ok, nmX7, rfl, rfl, fun h => by cases h⟩
theorem fX7_57 : FAt RX7 57 7 4 := ⟨RX7, TX7, 16, rfl, by decide, inX7, tbW_mem (List.mem_of_getElem? (i := 201) (by decide +kernel)) rfl⟩
theorem pX7_57 : PAt RX7 57 7 4 .int false := ⟨RX7, TX7, 16, tyX7, rfl, by decide, inX7, tbW_mem (List.mem_of_getElem? (i := 201) (by decide +kernel)) rfl, tyX7_ok, nmX7, rfl, rfl, fun h => by cases h⟩
theorem fX5_159 : FAt RX5 159 7 4 := ⟨RX7, TX7, 16, rfl, by decide, inX7, tbW_mem (List.mem_of_getElem? (i := 202) (by decide +kernel)) rfl⟩
theorem pX5_159 : PAt RX5 159 7 4 .int false := ⟨RX7, TX7, 16, tyX7, rfl, by decide, inX7, tbW_mem (List.mem_of_getElem? (i := 202) (by decide +kernel)) rfl, tyX7_ok, nmX7, rfl, rfl, fun h => by cases h⟩
theorem fX7_60 : FAt RX7 60 7 5 := ⟨RX7, TX7, 16, rfl, by decide, inX7, tbW_mem (List.mem_of_getElem? (i := 203) (by decide +kernel)) rfl⟩
theorem pX7_60 : PAt RX7 60 7 5 .int false := ⟨RX7, TX7, 16, tyX7, rfl, by decide, inX7, tbW_mem (List.mem_of_getElem? (i := 203) (by decide +kernel)) rfl, tyX7_ok, nmX7, rfl, rfl, fun h => by cases h⟩
theorem fX5_144 : FAt RX5 144 7 5 := ⟨RX7, TX7, 16, rfl, by decide, inX7, tbW_mem (List.mem_of_getElem? (i := 204) (by decide +kernel)) rfl⟩
theorem pX5_144 : PAt RX5 144 7 5 .int false := ⟨RX7, TX7, 16, tyX7, rfl, by decide, inX7, tbW_mem (List.mem_of_getElem? (i := 204) (by decide +kernel)) rfl, tyX7_ok, nmX7, rfl, rfl, fun h => by cases h⟩
theorem fX7_9 : FAt RX7 9 7 6 := ⟨RX7, TX7, 16, rfl, by decide, inX7, tbW_mem (List.mem_of_getElem? (i := 205) (by decide +kernel)) rfl⟩
theorem pX7_9 : PAt RX7 9 7 6 (.array .int) true := ⟨RX7, TX7, 16, tyX7, rfl, by decide, inX7, tbW_mem (List.mem_of_getElem? (i := 205) (by decide +kernel)) rfl, tyX7_ok, nmX7, rfl, rfl, fun _ => rfl⟩
theorem fX1_52 : FAt RX1 52 7 6 := ⟨RX7, TX7, 16, rfl, by decide, inX7, tbW_mem (List.mem_of_getElem? (i := 206) (by decide +kernel)) rfl⟩
theorem fX3_53 : FAt RX3 53 7 6 := ⟨RX7, TX7, 16, rfl, by decide, inX7, tbW_mem (List.mem_of_getElem? (i := 207) (by decide +kernel)) rfl⟩
theorem fX9_105 : FAt RX9 105 7 6 := ⟨RX7, TX7, 16, rfl, by decide, inX7, tbW_mem (List.mem_of_getElem? (i := 208) (by decide +kernel)) rfl⟩
theorem fX5_162 : FAt RX5 162 7 6 := ⟨RX7, TX7, 16, rfl, by decide, inX7, tbW_mem (List.mem_of_getElem? (i := 209) (by decide +kernel)) rfl⟩
theorem fX6_208 : FAt RX6 208 7 6 := ⟨RX7, TX7, 16, rfl, by decide, inX7, tbW_mem (List.mem_of_getElem? (i := 210) (by decide +kernel)) rfl⟩
theorem fX7_15 : FAt RX7 15 7 7 := ⟨RX7, TX7, 16, rfl, by decide, inX7, tbW_mem (List.mem_of_getElem? (i := 211) (by decide +kernel)) rfl⟩
theorem pX7_15 : PAt RX7 15 7 7 (.array .long) true := ⟨RX7, TX7, 16, tyX7, rfl, by decide, inX7, tbW_mem (List.mem_of_getElem? (i := 211) (by decide +kernel)) rfl, tyX7_ok, nmX7, rfl, rfl, fun _ => rfl⟩
theorem fX5_86 : FAt RX5 86 7 7 := ⟨RX7, TX7, 16, rfl, by decide, inX7, tbW_mem (List.mem_of_getElem? (i := 212) (by decide +kernel)) rfl⟩
theorem fX7_19 : FAt RX7 19 7 8 := ⟨RX7, TX7, 16, rfl, by decide, inX7, tbW_mem (List.mem_of_getElem? (i := 213) (by decide +kernel)) rfl⟩
theorem pX7_19 : PAt RX7 19 7 8 (.array .int) true := ⟨RX7, TX7, 16, tyX7, rfl, by decide, inX7, tbW_mem (List.mem_of_getElem? (i := 213) (by decide +kernel)) rfl, tyX7_ok, nmX7, rfl, rfl, fun _ => rfl⟩
theorem fX3_39 : FAt RX3 39 7 8 := ⟨RX7, TX7, 16, rfl, by decide, inX7, tbW_mem (List.mem_of_getElem? (i := 214) (by decide +kernel)) rfl⟩
theorem fX5_94 : FAt RX5 94 7 8 := ⟨RX7, TX7, 16, rfl, by decide, inX7, tbW_mem (List.mem_of_getElem? (i := 215) (by decide +kernel)) rfl⟩
theorem fX9_122 : FAt RX9 122 7 8 := ⟨RX7, TX7, 16, rfl, by decide, inX7, tbW_mem (List.mem_of_getElem? (i := 216) (by decide +kernel)) rfl⟩
theorem fX7_22 : FAt RX7 22 7 9 := ⟨RX7, TX7, 16, rfl, by decide, inX7, tbW_mem (List.mem_of_getElem? (i := 217) (by decide +kernel)) rfl⟩
theorem pX7_22 : PAt RX7 22 7 9 (.array .int) true := ⟨RX7, TX7, 16, tyX7, rfl, by decide, inX7, tbW_mem (List.mem_of_getElem? (i := 217) (by decide +kernel)) rfl, tyX7_ok, nmX7, rfl, rfl, fun _ => rfl⟩
theorem fX5_102 : FAt RX5 102 7 9 := ⟨RX7, TX7, 16, rfl, by decide, inX7, tbW_mem (List.mem_of_getElem? (i := 218) (by decide +kernel)) rfl⟩
theorem fX9_125 : FAt RX9 125 7 9 := ⟨RX7, TX7, 16, rfl, by decide, inX7, tbW_mem (List.mem_of_getElem? (i := 219) (by decide +kernel)) rfl⟩
theorem fX3_94 : FAt RX3 94 7 9 := ⟨RX7, TX7, 16, rfl, by decide, inX7, tbW_mem (List.mem_of_getElem? (i := 220) (by decide +kernel)) rfl⟩
theorem fX6_211 : FAt RX6 211 7 9 := ⟨RX7, TX7, 16, rfl, by decide, inX7, tbW_mem (List.mem_of_getElem? (i := 221) (by decide +kernel)) rfl⟩
theorem fX7_25 : FAt RX7 25 7 10 := ⟨RX7, TX7, 16, rfl, by decide, inX7, tbW_mem (List.mem_of_getElem? (i := 222) (by decide +kernel)) rfl⟩
theorem pX7_25 : PAt RX7 25 7 10 (.array .int) true := ⟨RX7, TX7, 16, tyX7, rfl, by decide, inX7, tbW_mem (List.mem_of_getElem? (i := 222) (by decide +kernel)) rfl, tyX7_ok, nmX7, rfl, rfl, fun _ => rfl⟩
theorem fX3_40 : FAt RX3 40 7 10 := ⟨RX7, TX7, 16, rfl, by decide, inX7, tbW_mem (List.mem_of_getElem? (i := 223) (by decide +kernel)) rfl⟩
theorem fX5_105 : FAt RX5 105 7 10 := ⟨RX7, TX7, 16, rfl, by decide, inX7, tbW_mem (List.mem_of_getElem? (i := 224) (by decide +kernel)) rfl⟩
theorem fX9_128 : FAt RX9 128 7 10 := ⟨RX7, TX7, 16, rfl, by decide, inX7, tbW_mem (List.mem_of_getElem? (i := 225) (by decide +kernel)) rfl⟩
theorem fX7_28 : FAt RX7 28 7 11 := ⟨RX7, TX7, 16, rfl, by decide, inX7, tbW_mem (List.mem_of_getElem? (i := 226) (by decide +kernel)) rfl⟩
theorem pX7_28 : PAt RX7 28 7 11 (.array .int) true := ⟨RX7, TX7, 16, tyX7, rfl, by decide, inX7, tbW_mem (List.mem_of_getElem? (i := 226) (by decide +kernel)) rfl, tyX7_ok, nmX7, rfl, rfl, fun _ => rfl⟩
theorem fX3_50 : FAt RX3 50 7 11 := ⟨RX7, TX7, 16, rfl, by decide, inX7, tbW_mem (List.mem_of_getElem? (i := 227) (by decide +kernel)) rfl⟩
theorem fX5_127 : FAt RX5 127 7 11 := ⟨RX7, TX7, 16, rfl, by decide, inX7, tbW_mem (List.mem_of_getElem? (i := 228) (by decide +kernel)) rfl⟩
theorem fX9_131 : FAt RX9 131 7 11 := ⟨RX7, TX7, 16, rfl, by decide, inX7, tbW_mem (List.mem_of_getElem? (i := 229) (by decide +kernel)) rfl⟩
theorem fX6_199 : FAt RX6 199 7 11 := ⟨RX7, TX7, 16, rfl, by decide, inX7, tbW_mem (List.mem_of_getElem? (i := 230) (by decide +kernel)) rfl⟩
theorem fX7_31 : FAt RX7 31 7 12 := ⟨RX7, TX7, 16, rfl, by decide, inX7, tbW_mem (List.mem_of_getElem? (i := 231) (by decide +kernel)) rfl⟩
theorem pX7_31 : PAt RX7 31 7 12 (.array .long) true := ⟨RX7, TX7, 16, tyX7, rfl, by decide, inX7, tbW_mem (List.mem_of_getElem? (i := 231) (by decide +kernel)) rfl, tyX7_ok, nmX7, rfl, rfl, fun _ => rfl⟩
theorem fX5_111 : FAt RX5 111 7 12 := ⟨RX7, TX7, 16, rfl, by decide, inX7, tbW_mem (List.mem_of_getElem? (i := 232) (by decide +kernel)) rfl⟩
theorem fX7_34 : FAt RX7 34 7 13 := ⟨RX7, TX7, 16, rfl, by decide, inX7, tbW_mem (List.mem_of_getElem? (i := 233) (by decide +kernel)) rfl⟩
theorem pX7_34 : PAt RX7 34 7 13 (.array .int) true := ⟨RX7, TX7, 16, tyX7, rfl, by decide, inX7, tbW_mem (List.mem_of_getElem? (i := 233) (by decide +kernel)) rfl, tyX7_ok, nmX7, rfl, rfl, fun _ => rfl⟩
theorem fX8_18 : FAt RX8 18 7 13 := ⟨RX7, TX7, 16, rfl, by decide, inX7, tbW_mem (List.mem_of_getElem? (i := 234) (by decide +kernel)) rfl⟩
theorem fX3_34 : FAt RX3 34 7 13 := ⟨RX7, TX7, 16, rfl, by decide, inX7, tbW_mem (List.mem_of_getElem? (i := 235) (by decide +kernel)) rfl⟩
theorem fX5_130 : FAt RX5 130 7 13 := ⟨RX7, TX7, 16, rfl, by decide, inX7, tbW_mem (List.mem_of_getElem? (i := 236) (by decide +kernel)) rfl⟩
theorem fX9_137 : FAt RX9 137 7 13 := ⟨RX7, TX7, 16, rfl, by decide, inX7, tbW_mem (List.mem_of_getElem? (i := 237) (by decide +kernel)) rfl⟩
theorem fX6_187 : FAt RX6 187 7 13 := ⟨RX7, TX7, 16, rfl, by decide, inX7, tbW_mem (List.mem_of_getElem? (i := 238) (by decide +kernel)) rfl⟩
theorem fX7_37 : FAt RX7 37 7 14 := ⟨RX7, TX7, 16, rfl, by decide, inX7, tbW_mem (List.mem_of_getElem? (i := 239) (by decide +kernel)) rfl⟩
theorem pX7_37 : PAt RX7 37 7 14 (.array .int) true := ⟨RX7, TX7, 16, tyX7, rfl, by decide, inX7, tbW_mem (List.mem_of_getElem? (i := 239) (by decide +kernel)) rfl, tyX7_ok, nmX7, rfl, rfl, fun _ => rfl⟩
theorem fX9_140 : FAt RX9 140 7 14 := ⟨RX7, TX7, 16, rfl, by decide, inX7, tbW_mem (List.mem_of_getElem? (i := 240) (by decide +kernel)) rfl⟩
theorem fX5_150 : FAt RX5 150 7 14 := ⟨RX7, TX7, 16, rfl, by decide, inX7, tbW_mem (List.mem_of_getElem? (i := 241) (by decide +kernel)) rfl⟩
theorem fX7_40 : FAt RX7 40 7 15 := ⟨RX7, TX7, 16, rfl, by decide, inX7, tbW_mem (List.mem_of_getElem? (i := 242) (by decide +kernel)) rfl⟩
theorem pX7_40 : PAt RX7 40 7 15 (.array .int) true := ⟨RX7, TX7, 16, tyX7, rfl, by decide, inX7, tbW_mem (List.mem_of_getElem? (i := 242) (by decide +kernel)) rfl, tyX7_ok, nmX7, rfl, rfl, fun _ => rfl⟩
theorem fX5_141 : FAt RX5 141 7 15 := ⟨RX7, TX7, 16, rfl, by decide, inX7, tbW_mem (List.mem_of_getElem? (i := 243) (by decide +kernel)) rfl⟩
theorem fX9_147 : FAt RX9 147 7 15 := ⟨RX7, TX7, 16, rfl, by decide, inX7, tbW_mem (List.mem_of_getElem? (i := 244) (by decide +kernel)) rfl⟩
theorem fX3_85 : FAt RX3 85 7 15 := ⟨RX7, TX7, 16, rfl, by decide, inX7, tbW_mem (List.mem_of_getElem? (i := 245) (by decide +kernel)) rfl⟩
theorem fX5_22 : FAt RX5 22 5 0 := ⟨RX5, TX5, 4, rfl, by decide, inX5, tbW_mem (List.mem_of_getElem? (i := 280) (by decide +kernel)) rfl⟩
theorem pX5_22 : PAt RX5 22 5 0 (.object "OwnedByGuests$Tape") true := ⟨RX5, TX5, 4, tyX5, rfl, by decide, inX5, tbW_mem (List.mem_of_getElem? (i := 280) (by decide +kernel)) rfl, tyX5_ok, nmX5, rfl, rfl, fun _ => rfl⟩
theorem fX5_12 : FAt RX5 12 5 1 := ⟨RX5, TX5, 4, rfl, by decide, inX5, tbW_mem (List.mem_of_getElem? (i := 281) (by decide +kernel)) rfl⟩
theorem pX5_12 : PAt RX5 12 5 1 (.object "OwnedByGuests$Village") false := ⟨RX5, TX5, 4, tyX5, rfl, by decide, inX5, tbW_mem (List.mem_of_getElem? (i := 281) (by decide +kernel)) rfl, tyX5_ok, nmX5, rfl, rfl, fun h => by cases h⟩
theorem fX9_80 : FAt RX9 80 5 1 := ⟨RX5, TX5, 4, rfl, by decide, inX5, tbW_mem (List.mem_of_getElem? (i := 282) (by decide +kernel)) rfl⟩
theorem pX9_80 : PAt RX9 80 5 1 (.object "OwnedByGuests$Village") false := ⟨RX5, TX5, 4, tyX5, rfl, by decide, inX5, tbW_mem (List.mem_of_getElem? (i := 282) (by decide +kernel)) rfl, tyX5_ok, nmX5, rfl, rfl, fun h => by cases h⟩
theorem fX5_26 : FAt RX5 26 5 2 := ⟨RX5, TX5, 4, rfl, by decide, inX5, tbW_mem (List.mem_of_getElem? (i := 283) (by decide +kernel)) rfl⟩
theorem pX5_26 : PAt RX5 26 5 2 .int false := ⟨RX5, TX5, 4, tyX5, rfl, by decide, inX5, tbW_mem (List.mem_of_getElem? (i := 283) (by decide +kernel)) rfl, tyX5_ok, nmX5, rfl, rfl, fun h => by cases h⟩
theorem fX9_93 : FAt RX9 93 5 2 := ⟨RX5, TX5, 4, rfl, by decide, inX5, tbW_mem (List.mem_of_getElem? (i := 284) (by decide +kernel)) rfl⟩
theorem fX5_18 : FAt RX5 18 5 3 := ⟨RX5, TX5, 4, rfl, by decide, inX5, tbW_mem (List.mem_of_getElem? (i := 285) (by decide +kernel)) rfl⟩
theorem pX5_18 : PAt RX5 18 5 3 .int false := ⟨RX5, TX5, 4, tyX5, rfl, by decide, inX5, tbW_mem (List.mem_of_getElem? (i := 285) (by decide +kernel)) rfl, tyX5_ok, nmX5, rfl, rfl, fun h => by cases h⟩
theorem fX9_96 : FAt RX9 96 5 3 := ⟨RX5, TX5, 4, rfl, by decide, inX5, tbW_mem (List.mem_of_getElem? (i := 286) (by decide +kernel)) rfl⟩
theorem fX3_30 : FAt RX3 30 3 0 := ⟨RX3, TX3, 7, rfl, by decide, inX3, tbW_mem (List.mem_of_getElem? (i := 310) (by decide +kernel)) rfl⟩
theorem pX3_30 : PAt RX3 30 3 0 .int false := ⟨RX3, TX3, 7, tyX3, rfl, by decide, inX3, tbW_mem (List.mem_of_getElem? (i := 310) (by decide +kernel)) rfl, tyX3_ok, nmX3, rfl, rfl, fun h => by cases h⟩
theorem fX1_45 : FAt RX1 45 3 0 := ⟨RX3, TX3, 7, rfl, by decide, inX3, tbW_mem (List.mem_of_getElem? (i := 311) (by decide +kernel)) rfl⟩
theorem fX6_75 : FAt RX6 75 3 0 := ⟨RX3, TX3, 7, rfl, by decide, inX3, tbW_mem (List.mem_of_getElem? (i := 312) (by decide +kernel)) rfl⟩
theorem fX2_84 : FAt RX2 84 3 0 := ⟨RX3, TX3, 7, rfl, by decide, inX3, tbW_mem (List.mem_of_getElem? (i := 313) (by decide +kernel)) rfl⟩
theorem fX9_179 : FAt RX9 179 3 0 := ⟨RX3, TX3, 7, rfl, by decide, inX3, tbW_mem (List.mem_of_getElem? (i := 314) (by decide +kernel)) rfl⟩
theorem fX3_9 : FAt RX3 9 3 1 := ⟨RX3, TX3, 7, rfl, by decide, inX3, tbW_mem (List.mem_of_getElem? (i := 315) (by decide +kernel)) rfl⟩
theorem pX3_9 : PAt RX3 9 3 1 (.array .int) true := ⟨RX3, TX3, 7, tyX3, rfl, by decide, inX3, tbW_mem (List.mem_of_getElem? (i := 315) (by decide +kernel)) rfl, tyX3_ok, nmX3, rfl, rfl, fun _ => rfl⟩
theorem fX2_69 : FAt RX2 69 3 1 := ⟨RX3, TX3, 7, rfl, by decide, inX3, tbW_mem (List.mem_of_getElem? (i := 316) (by decide +kernel)) rfl⟩
theorem fX9_185 : FAt RX9 185 3 1 := ⟨RX3, TX3, 7, rfl, by decide, inX3, tbW_mem (List.mem_of_getElem? (i := 317) (by decide +kernel)) rfl⟩
theorem fX3_15 : FAt RX3 15 3 2 := ⟨RX3, TX3, 7, rfl, by decide, inX3, tbW_mem (List.mem_of_getElem? (i := 318) (by decide +kernel)) rfl⟩
theorem pX3_15 : PAt RX3 15 3 2 (.array .int) true := ⟨RX3, TX3, 7, tyX3, rfl, by decide, inX3, tbW_mem (List.mem_of_getElem? (i := 318) (by decide +kernel)) rfl, tyX3_ok, nmX3, rfl, rfl, fun _ => rfl⟩
theorem fX9_188 : FAt RX9 188 3 2 := ⟨RX3, TX3, 7, rfl, by decide, inX3, tbW_mem (List.mem_of_getElem? (i := 319) (by decide +kernel)) rfl⟩
theorem fX3_18 : FAt RX3 18 3 3 := ⟨RX3, TX3, 7, rfl, by decide, inX3, tbW_mem (List.mem_of_getElem? (i := 320) (by decide +kernel)) rfl⟩
theorem pX3_18 : PAt RX3 18 3 3 (.array .int) true := ⟨RX3, TX3, 7, tyX3, rfl, by decide, inX3, tbW_mem (List.mem_of_getElem? (i := 320) (by decide +kernel)) rfl, tyX3_ok, nmX3, rfl, rfl, fun _ => rfl⟩
theorem fX6_161 : FAt RX6 161 3 3 := ⟨RX3, TX3, 7, rfl, by decide, inX3, tbW_mem (List.mem_of_getElem? (i := 321) (by decide +kernel)) rfl⟩
theorem fX9_191 : FAt RX9 191 3 3 := ⟨RX3, TX3, 7, rfl, by decide, inX3, tbW_mem (List.mem_of_getElem? (i := 322) (by decide +kernel)) rfl⟩
theorem fX3_21 : FAt RX3 21 3 4 := ⟨RX3, TX3, 7, rfl, by decide, inX3, tbW_mem (List.mem_of_getElem? (i := 323) (by decide +kernel)) rfl⟩
theorem pX3_21 : PAt RX3 21 3 4 (.array .int) true := ⟨RX3, TX3, 7, tyX3, rfl, by decide, inX3, tbW_mem (List.mem_of_getElem? (i := 323) (by decide +kernel)) rfl, tyX3_ok, nmX3, rfl, rfl, fun _ => rfl⟩
theorem fX6_93 : FAt RX6 93 3 4 := ⟨RX3, TX3, 7, rfl, by decide, inX3, tbW_mem (List.mem_of_getElem? (i := 324) (by decide +kernel)) rfl⟩
theorem fX9_194 : FAt RX9 194 3 4 := ⟨RX3, TX3, 7, rfl, by decide, inX3, tbW_mem (List.mem_of_getElem? (i := 325) (by decide +kernel)) rfl⟩
theorem fX3_24 : FAt RX3 24 3 5 := ⟨RX3, TX3, 7, rfl, by decide, inX3, tbW_mem (List.mem_of_getElem? (i := 326) (by decide +kernel)) rfl⟩
theorem pX3_24 : PAt RX3 24 3 5 (.array .int) true := ⟨RX3, TX3, 7, tyX3, rfl, by decide, inX3, tbW_mem (List.mem_of_getElem? (i := 326) (by decide +kernel)) rfl, tyX3_ok, nmX3, rfl, rfl, fun _ => rfl⟩
theorem fX9_201 : FAt RX9 201 3 5 := ⟨RX3, TX3, 7, rfl, by decide, inX3, tbW_mem (List.mem_of_getElem? (i := 327) (by decide +kernel)) rfl⟩
theorem fX3_27 : FAt RX3 27 3 6 := ⟨RX3, TX3, 7, rfl, by decide, inX3, tbW_mem (List.mem_of_getElem? (i := 328) (by decide +kernel)) rfl⟩
theorem pX3_27 : PAt RX3 27 3 6 (.array .int) true := ⟨RX3, TX3, 7, tyX3, rfl, by decide, inX3, tbW_mem (List.mem_of_getElem? (i := 328) (by decide +kernel)) rfl, tyX3_ok, nmX3, rfl, rfl, fun _ => rfl⟩
theorem fX9_202 : FAt RX9 202 3 6 := ⟨RX3, TX3, 7, rfl, by decide, inX3, tbW_mem (List.mem_of_getElem? (i := 329) (by decide +kernel)) rfl⟩
theorem fX6_218 : FAt RX6 218 3 6 := ⟨RX3, TX3, 7, rfl, by decide, inX3, tbW_mem (List.mem_of_getElem? (i := 330) (by decide +kernel)) rfl⟩
theorem fX8_9 : FAt RX8 9 8 0 := ⟨RX8, TX8, 2, rfl, by decide, inX8, tbW_mem (List.mem_of_getElem? (i := 352) (by decide +kernel)) rfl⟩
theorem pX8_9 : PAt RX8 9 8 0 (.array .int) true := ⟨RX8, TX8, 2, tyX8, rfl, by decide, inX8, tbW_mem (List.mem_of_getElem? (i := 352) (by decide +kernel)) rfl, tyX8_ok, nmX8, rfl, rfl, fun _ => rfl⟩
theorem fX6_139 : FAt RX6 139 8 0 := ⟨RX8, TX8, 2, rfl, by decide, inX8, tbW_mem (List.mem_of_getElem? (i := 353) (by decide +kernel)) rfl⟩
theorem fX9_161 : FAt RX9 161 8 0 := ⟨RX8, TX8, 2, rfl, by decide, inX8, tbW_mem (List.mem_of_getElem? (i := 354) (by decide +kernel)) rfl⟩
theorem fX8_15 : FAt RX8 15 8 1 := ⟨RX8, TX8, 2, rfl, by decide, inX8, tbW_mem (List.mem_of_getElem? (i := 355) (by decide +kernel)) rfl⟩
theorem pX8_15 : PAt RX8 15 8 1 (.array .int) true := ⟨RX8, TX8, 2, tyX8, rfl, by decide, inX8, tbW_mem (List.mem_of_getElem? (i := 355) (by decide +kernel)) rfl, tyX8_ok, nmX8, rfl, rfl, fun _ => rfl⟩
theorem fX1_60 : FAt RX1 60 8 1 := ⟨RX8, TX8, 2, rfl, by decide, inX8, tbW_mem (List.mem_of_getElem? (i := 356) (by decide +kernel)) rfl⟩
theorem fX6_82 : FAt RX6 82 8 1 := ⟨RX8, TX8, 2, rfl, by decide, inX8, tbW_mem (List.mem_of_getElem? (i := 357) (by decide +kernel)) rfl⟩
theorem fX9_166 : FAt RX9 166 8 1 := ⟨RX8, TX8, 2, rfl, by decide, inX8, tbW_mem (List.mem_of_getElem? (i := 358) (by decide +kernel)) rfl⟩
theorem fX1_12 : FAt RX1 12 1 0 := ⟨RX1, TX1, 5, rfl, by decide, inX1, tbW_mem (List.mem_of_getElem? (i := 364) (by decide +kernel)) rfl⟩
theorem pX1_12 : PAt RX1 12 1 0 (.object "OwnedByGuests$Scene") true := ⟨RX1, TX1, 5, tyX1, rfl, by decide, inX1, tbW_mem (List.mem_of_getElem? (i := 364) (by decide +kernel)) rfl, tyX1_ok, nmX1, rfl, rfl, fun _ => rfl⟩
theorem fX6_67 : FAt RX6 67 1 0 := ⟨RX1, TX1, 5, rfl, by decide, inX1, tbW_mem (List.mem_of_getElem? (i := 365) (by decide +kernel)) rfl⟩
theorem fX9_175 : FAt RX9 175 1 0 := ⟨RX1, TX1, 5, rfl, by decide, inX1, tbW_mem (List.mem_of_getElem? (i := 366) (by decide +kernel)) rfl⟩
theorem fX1_21 : FAt RX1 21 1 1 := ⟨RX1, TX1, 5, rfl, by decide, inX1, tbW_mem (List.mem_of_getElem? (i := 367) (by decide +kernel)) rfl⟩
theorem pX1_21 : PAt RX1 21 1 1 (.object "OwnedByGuests$Ways") true := ⟨RX1, TX1, 5, tyX1, rfl, by decide, inX1, tbW_mem (List.mem_of_getElem? (i := 367) (by decide +kernel)) rfl, tyX1_ok, nmX1, rfl, rfl, fun _ => rfl⟩
theorem fX6_61 : FAt RX6 61 1 1 := ⟨RX1, TX1, 5, rfl, by decide, inX1, tbW_mem (List.mem_of_getElem? (i := 368) (by decide +kernel)) rfl⟩
theorem fX9_157 : FAt RX9 157 1 1 := ⟨RX1, TX1, 5, rfl, by decide, inX1, tbW_mem (List.mem_of_getElem? (i := 369) (by decide +kernel)) rfl⟩
theorem fX1_25 : FAt RX1 25 1 2 := ⟨RX1, TX1, 5, rfl, by decide, inX1, tbW_mem (List.mem_of_getElem? (i := 370) (by decide +kernel)) rfl⟩
theorem pX1_25 : PAt RX1 25 1 2 .int false := ⟨RX1, TX1, 5, tyX1, rfl, by decide, inX1, tbW_mem (List.mem_of_getElem? (i := 370) (by decide +kernel)) rfl, tyX1_ok, nmX1, rfl, rfl, fun h => by cases h⟩
theorem fX9_169 : FAt RX9 169 1 2 := ⟨RX1, TX1, 5, rfl, by decide, inX1, tbW_mem (List.mem_of_getElem? (i := 371) (by decide +kernel)) rfl⟩
theorem pX9_169 : PAt RX9 169 1 2 .int false := ⟨RX1, TX1, 5, tyX1, rfl, by decide, inX1, tbW_mem (List.mem_of_getElem? (i := 371) (by decide +kernel)) rfl, tyX1_ok, nmX1, rfl, rfl, fun h => by cases h⟩
theorem fX9_83 : FAt RX9 83 1 3 := ⟨RX1, TX1, 5, rfl, by decide, inX1, tbW_mem (List.mem_of_getElem? (i := 372) (by decide +kernel)) rfl⟩
theorem pX9_83 : PAt RX9 83 1 3 .boolean false := ⟨RX1, TX1, 5, tyX1, rfl, by decide, inX1, tbW_mem (List.mem_of_getElem? (i := 372) (by decide +kernel)) rfl, tyX1_ok, nmX1, rfl, rfl, fun h => by cases h⟩
theorem fX1_29 : FAt RX1 29 1 4 := ⟨RX1, TX1, 5, rfl, by decide, inX1, tbW_mem (List.mem_of_getElem? (i := 373) (by decide +kernel)) rfl⟩
theorem pX1_29 : PAt RX1 29 1 4 (.array .int) true := ⟨RX1, TX1, 5, tyX1, rfl, by decide, inX1, tbW_mem (List.mem_of_getElem? (i := 373) (by decide +kernel)) rfl, tyX1_ok, nmX1, rfl, rfl, fun _ => rfl⟩
theorem fX0_9 : FAt RX0 9 0 0 := ⟨RX0, TX0, 3, rfl, by decide, inX0, tbW_mem (List.mem_of_getElem? (i := 405) (by decide +kernel)) rfl⟩
theorem pX0_9 : PAt RX0 9 0 0 (.array .int) true := ⟨RX0, TX0, 3, tyX0, rfl, by decide, inX0, tbW_mem (List.mem_of_getElem? (i := 405) (by decide +kernel)) rfl, tyX0_ok, nmX0, rfl, rfl, fun _ => rfl⟩
theorem fX6_120 : FAt RX6 120 0 0 := ⟨RX0, TX0, 3, rfl, by decide, inX0, tbW_mem (List.mem_of_getElem? (i := 406) (by decide +kernel)) rfl⟩
theorem fX0_15 : FAt RX0 15 0 1 := ⟨RX0, TX0, 3, rfl, by decide, inX0, tbW_mem (List.mem_of_getElem? (i := 407) (by decide +kernel)) rfl⟩
theorem pX0_15 : PAt RX0 15 0 1 (.array .int) true := ⟨RX0, TX0, 3, tyX0, rfl, by decide, inX0, tbW_mem (List.mem_of_getElem? (i := 407) (by decide +kernel)) rfl, tyX0_ok, nmX0, rfl, rfl, fun _ => rfl⟩
theorem fX6_158 : FAt RX6 158 0 1 := ⟨RX0, TX0, 3, rfl, by decide, inX0, tbW_mem (List.mem_of_getElem? (i := 408) (by decide +kernel)) rfl⟩
theorem fX0_24 : FAt RX0 24 0 2 := ⟨RX0, TX0, 3, rfl, by decide, inX0, tbW_mem (List.mem_of_getElem? (i := 409) (by decide +kernel)) rfl⟩
theorem pX0_24 : PAt RX0 24 0 2 .int false := ⟨RX0, TX0, 3, tyX0, rfl, by decide, inX0, tbW_mem (List.mem_of_getElem? (i := 409) (by decide +kernel)) rfl, tyX0_ok, nmX0, rfl, rfl, fun h => by cases h⟩
theorem fX6_12 : FAt RX6 12 6 0 := ⟨RX6, TX6, 13, rfl, by decide, inX6, tbW_mem (List.mem_of_getElem? (i := 417) (by decide +kernel)) rfl⟩
theorem pX6_12 : PAt RX6 12 6 0 (.object "OwnedByGuests$Village") true := ⟨RX6, TX6, 13, tyX6, rfl, by decide, inX6, tbW_mem (List.mem_of_getElem? (i := 417) (by decide +kernel)) rfl, tyX6_ok, nmX6, rfl, rfl, fun _ => rfl⟩
theorem fX6_21 : FAt RX6 21 6 1 := ⟨RX6, TX6, 13, rfl, by decide, inX6, tbW_mem (List.mem_of_getElem? (i := 418) (by decide +kernel)) rfl⟩
theorem pX6_21 : PAt RX6 21 6 1 (.object "OwnedByGuests$Ways") true := ⟨RX6, TX6, 13, tyX6, rfl, by decide, inX6, tbW_mem (List.mem_of_getElem? (i := 418) (by decide +kernel)) rfl, tyX6_ok, nmX6, rfl, rfl, fun _ => rfl⟩
theorem fX9_239 : FAt RX9 239 6 1 := ⟨RX6, TX6, 13, rfl, by decide, inX6, tbW_mem (List.mem_of_getElem? (i := 419) (by decide +kernel)) rfl⟩
theorem fX6_28 : FAt RX6 28 6 2 := ⟨RX6, TX6, 13, rfl, by decide, inX6, tbW_mem (List.mem_of_getElem? (i := 420) (by decide +kernel)) rfl⟩
theorem pX6_28 : PAt RX6 28 6 2 (.object "OwnedByGuests$Scene") true := ⟨RX6, TX6, 13, tyX6, rfl, by decide, inX6, tbW_mem (List.mem_of_getElem? (i := 420) (by decide +kernel)) rfl, tyX6_ok, nmX6, rfl, rfl, fun _ => rfl⟩
theorem fX6_32 : FAt RX6 32 6 3 := ⟨RX6, TX6, 13, rfl, by decide, inX6, tbW_mem (List.mem_of_getElem? (i := 421) (by decide +kernel)) rfl⟩
theorem pX6_32 : PAt RX6 32 6 3 (.object "OwnedByGuests$Scene") true := ⟨RX6, TX6, 13, tyX6, rfl, by decide, inX6, tbW_mem (List.mem_of_getElem? (i := 421) (by decide +kernel)) rfl, tyX6_ok, nmX6, rfl, rfl, fun _ => rfl⟩
theorem fX9_246 : FAt RX9 246 6 3 := ⟨RX6, TX6, 13, rfl, by decide, inX6, tbW_mem (List.mem_of_getElem? (i := 422) (by decide +kernel)) rfl⟩
theorem fX6_35 : FAt RX6 35 6 4 := ⟨RX6, TX6, 13, rfl, by decide, inX6, tbW_mem (List.mem_of_getElem? (i := 423) (by decide +kernel)) rfl⟩
theorem pX6_35 : PAt RX6 35 6 4 (.array (.object "OwnedByGuests$Scene")) true := ⟨RX6, TX6, 13, tyX6, rfl, by decide, inX6, tbW_mem (List.mem_of_getElem? (i := 423) (by decide +kernel)) rfl, tyX6_ok, nmX6, rfl, rfl, fun _ => rfl⟩
theorem fX6_39 : FAt RX6 39 6 5 := ⟨RX6, TX6, 13, rfl, by decide, inX6, tbW_mem (List.mem_of_getElem? (i := 424) (by decide +kernel)) rfl⟩
theorem pX6_39 : PAt RX6 39 6 5 (.array .int) true := ⟨RX6, TX6, 13, tyX6, rfl, by decide, inX6, tbW_mem (List.mem_of_getElem? (i := 424) (by decide +kernel)) rfl, tyX6_ok, nmX6, rfl, rfl, fun _ => rfl⟩
theorem fX9_232 : FAt RX9 232 6 5 := ⟨RX6, TX6, 13, rfl, by decide, inX6, tbW_mem (List.mem_of_getElem? (i := 425) (by decide +kernel)) rfl⟩
theorem fX6_46 : FAt RX6 46 6 6 := ⟨RX6, TX6, 13, rfl, by decide, inX6, tbW_mem (List.mem_of_getElem? (i := 426) (by decide +kernel)) rfl⟩
theorem pX6_46 : PAt RX6 46 6 6 (.object "OwnedByGuests$Choices") true := ⟨RX6, TX6, 13, tyX6, rfl, by decide, inX6, tbW_mem (List.mem_of_getElem? (i := 426) (by decide +kernel)) rfl, tyX6_ok, nmX6, rfl, rfl, fun _ => rfl⟩
theorem fX6_50 : FAt RX6 50 6 7 := ⟨RX6, TX6, 13, rfl, by decide, inX6, tbW_mem (List.mem_of_getElem? (i := 427) (by decide +kernel)) rfl⟩
theorem pX6_50 : PAt RX6 50 6 7 (.array .long) true := ⟨RX6, TX6, 13, tyX6, rfl, by decide, inX6, tbW_mem (List.mem_of_getElem? (i := 427) (by decide +kernel)) rfl, tyX6_ok, nmX6, rfl, rfl, fun _ => rfl⟩
theorem fX6_54 : FAt RX6 54 6 8 := ⟨RX6, TX6, 13, rfl, by decide, inX6, tbW_mem (List.mem_of_getElem? (i := 428) (by decide +kernel)) rfl⟩
theorem pX6_54 : PAt RX6 54 6 8 (.array .int) true := ⟨RX6, TX6, 13, tyX6, rfl, by decide, inX6, tbW_mem (List.mem_of_getElem? (i := 428) (by decide +kernel)) rfl, tyX6_ok, nmX6, rfl, rfl, fun _ => rfl⟩
theorem fX6_97 : FAt RX6 97 6 9 := ⟨RX6, TX6, 13, rfl, by decide, inX6, tbW_mem (List.mem_of_getElem? (i := 429) (by decide +kernel)) rfl⟩
theorem pX6_97 : PAt RX6 97 6 9 .int false := ⟨RX6, TX6, 13, tyX6, rfl, by decide, inX6, tbW_mem (List.mem_of_getElem? (i := 429) (by decide +kernel)) rfl, tyX6_ok, nmX6, rfl, rfl, fun h => by cases h⟩
theorem fX9_223 : FAt RX9 223 6 9 := ⟨RX6, TX6, 13, rfl, by decide, inX6, tbW_mem (List.mem_of_getElem? (i := 430) (by decide +kernel)) rfl⟩
theorem fX6_100 : FAt RX6 100 6 10 := ⟨RX6, TX6, 13, rfl, by decide, inX6, tbW_mem (List.mem_of_getElem? (i := 431) (by decide +kernel)) rfl⟩
theorem pX6_100 : PAt RX6 100 6 10 .int false := ⟨RX6, TX6, 13, tyX6, rfl, by decide, inX6, tbW_mem (List.mem_of_getElem? (i := 431) (by decide +kernel)) rfl, tyX6_ok, nmX6, rfl, rfl, fun h => by cases h⟩
theorem fX6_177 : FAt RX6 177 6 11 := ⟨RX6, TX6, 13, rfl, by decide, inX6, tbW_mem (List.mem_of_getElem? (i := 432) (by decide +kernel)) rfl⟩
theorem pX6_177 : PAt RX6 177 6 11 .int false := ⟨RX6, TX6, 13, tyX6, rfl, by decide, inX6, tbW_mem (List.mem_of_getElem? (i := 432) (by decide +kernel)) rfl, tyX6_ok, nmX6, rfl, rfl, fun h => by cases h⟩
theorem fX9_253 : FAt RX9 253 6 11 := ⟨RX6, TX6, 13, rfl, by decide, inX6, tbW_mem (List.mem_of_getElem? (i := 433) (by decide +kernel)) rfl⟩
theorem fX6_180 : FAt RX6 180 6 12 := ⟨RX6, TX6, 13, rfl, by decide, inX6, tbW_mem (List.mem_of_getElem? (i := 434) (by decide +kernel)) rfl⟩
theorem pX6_180 : PAt RX6 180 6 12 .int false := ⟨RX6, TX6, 13, tyX6, rfl, by decide, inX6, tbW_mem (List.mem_of_getElem? (i := 434) (by decide +kernel)) rfl, tyX6_ok, nmX6, rfl, rfl, fun h => by cases h⟩
theorem fX9_256 : FAt RX9 256 6 12 := ⟨RX6, TX6, 13, rfl, by decide, inX6, tbW_mem (List.mem_of_getElem? (i := 435) (by decide +kernel)) rfl⟩
theorem fX2_11 : FAt RX2 11 2 0 := ⟨RX2, TX2, 6, rfl, by decide, inX2, tbW_mem (List.mem_of_getElem? (i := 471) (by decide +kernel)) rfl⟩
theorem pX2_11 : PAt RX2 11 2 0 (.array .int) true := ⟨RX2, TX2, 6, tyX2, rfl, by decide, inX2, tbW_mem (List.mem_of_getElem? (i := 471) (by decide +kernel)) rfl, tyX2_ok, nmX2, rfl, rfl, fun _ => rfl⟩
theorem fX2_15 : FAt RX2 15 2 1 := ⟨RX2, TX2, 6, rfl, by decide, inX2, tbW_mem (List.mem_of_getElem? (i := 472) (by decide +kernel)) rfl⟩
theorem pX2_15 : PAt RX2 15 2 1 (.array .int) true := ⟨RX2, TX2, 6, tyX2, rfl, by decide, inX2, tbW_mem (List.mem_of_getElem? (i := 472) (by decide +kernel)) rfl, tyX2_ok, nmX2, rfl, rfl, fun _ => rfl⟩
theorem fX2_18 : FAt RX2 18 2 2 := ⟨RX2, TX2, 6, rfl, by decide, inX2, tbW_mem (List.mem_of_getElem? (i := 473) (by decide +kernel)) rfl⟩
theorem pX2_18 : PAt RX2 18 2 2 (.array .int) true := ⟨RX2, TX2, 6, tyX2, rfl, by decide, inX2, tbW_mem (List.mem_of_getElem? (i := 473) (by decide +kernel)) rfl, tyX2_ok, nmX2, rfl, rfl, fun _ => rfl⟩
theorem fX2_31 : FAt RX2 31 2 3 := ⟨RX2, TX2, 6, rfl, by decide, inX2, tbW_mem (List.mem_of_getElem? (i := 474) (by decide +kernel)) rfl⟩
theorem pX2_31 : PAt RX2 31 2 3 .int false := ⟨RX2, TX2, 6, tyX2, rfl, by decide, inX2, tbW_mem (List.mem_of_getElem? (i := 474) (by decide +kernel)) rfl, tyX2_ok, nmX2, rfl, rfl, fun h => by cases h⟩
theorem fX9_304 : FAt RX9 304 2 3 := ⟨RX2, TX2, 6, rfl, by decide, inX2, tbW_mem (List.mem_of_getElem? (i := 475) (by decide +kernel)) rfl⟩
theorem fX2_24 : FAt RX2 24 2 4 := ⟨RX2, TX2, 6, rfl, by decide, inX2, tbW_mem (List.mem_of_getElem? (i := 476) (by decide +kernel)) rfl⟩
theorem pX2_24 : PAt RX2 24 2 4 (.object "OwnedByGuests$Scene") true := ⟨RX2, TX2, 6, tyX2, rfl, by decide, inX2, tbW_mem (List.mem_of_getElem? (i := 476) (by decide +kernel)) rfl, tyX2_ok, nmX2, rfl, rfl, fun _ => rfl⟩
theorem fX2_28 : FAt RX2 28 2 5 := ⟨RX2, TX2, 6, rfl, by decide, inX2, tbW_mem (List.mem_of_getElem? (i := 477) (by decide +kernel)) rfl⟩
theorem pX2_28 : PAt RX2 28 2 5 (.array .int) true := ⟨RX2, TX2, 6, tyX2, rfl, by decide, inX2, tbW_mem (List.mem_of_getElem? (i := 477) (by decide +kernel)) rfl, tyX2_ok, nmX2, rfl, rfl, fun _ => rfl⟩
theorem fX9_10 : FAt RX9 10 9 0 := ⟨RX9, TX9, 9, rfl, by decide, inX9, tbW_mem (List.mem_of_getElem? (i := 516) (by decide +kernel)) rfl⟩
theorem pX9_10 : PAt RX9 10 9 0 (.object "OwnedByGuests$Tape") true := ⟨RX9, TX9, 9, tyX9, rfl, by decide, inX9, tbW_mem (List.mem_of_getElem? (i := 516) (by decide +kernel)) rfl, tyX9_ok, nmX9, rfl, rfl, fun _ => rfl⟩
theorem fX9_21 : FAt RX9 21 9 1 := ⟨RX9, TX9, 9, rfl, by decide, inX9, tbW_mem (List.mem_of_getElem? (i := 517) (by decide +kernel)) rfl⟩
theorem pX9_21 : PAt RX9 21 9 1 (.object "OwnedByGuests$Teller") true := ⟨RX9, TX9, 9, tyX9, rfl, by decide, inX9, tbW_mem (List.mem_of_getElem? (i := 517) (by decide +kernel)) rfl, tyX9_ok, nmX9, rfl, rfl, fun _ => rfl⟩
theorem fX9_28 : FAt RX9 28 9 2 := ⟨RX9, TX9, 9, rfl, by decide, inX9, tbW_mem (List.mem_of_getElem? (i := 518) (by decide +kernel)) rfl⟩
theorem pX9_28 : PAt RX9 28 9 2 (.object "OwnedByGuests$Village") false := ⟨RX9, TX9, 9, tyX9, rfl, by decide, inX9, tbW_mem (List.mem_of_getElem? (i := 518) (by decide +kernel)) rfl, tyX9_ok, nmX9, rfl, rfl, fun h => by cases h⟩
theorem fX9_35 : FAt RX9 35 9 3 := ⟨RX9, TX9, 9, rfl, by decide, inX9, tbW_mem (List.mem_of_getElem? (i := 519) (by decide +kernel)) rfl⟩
theorem pX9_35 : PAt RX9 35 9 3 (.object "OwnedByGuests$Course") true := ⟨RX9, TX9, 9, tyX9, rfl, by decide, inX9, tbW_mem (List.mem_of_getElem? (i := 519) (by decide +kernel)) rfl, tyX9_ok, nmX9, rfl, rfl, fun _ => rfl⟩
theorem fX9_39 : FAt RX9 39 9 4 := ⟨RX9, TX9, 9, rfl, by decide, inX9, tbW_mem (List.mem_of_getElem? (i := 520) (by decide +kernel)) rfl⟩
theorem pX9_39 : PAt RX9 39 9 4 (.array (.object "OwnedByGuests$Course")) true := ⟨RX9, TX9, 9, tyX9, rfl, by decide, inX9, tbW_mem (List.mem_of_getElem? (i := 520) (by decide +kernel)) rfl, tyX9_ok, nmX9, rfl, rfl, fun _ => rfl⟩
theorem fX9_46 : FAt RX9 46 9 5 := ⟨RX9, TX9, 9, rfl, by decide, inX9, tbW_mem (List.mem_of_getElem? (i := 521) (by decide +kernel)) rfl⟩
theorem pX9_46 : PAt RX9 46 9 5 (.object "OwnedByGuests$Trial") true := ⟨RX9, TX9, 9, tyX9, rfl, by decide, inX9, tbW_mem (List.mem_of_getElem? (i := 521) (by decide +kernel)) rfl, tyX9_ok, nmX9, rfl, rfl, fun _ => rfl⟩
theorem fX9_53 : FAt RX9 53 9 6 := ⟨RX9, TX9, 9, rfl, by decide, inX9, tbW_mem (List.mem_of_getElem? (i := 522) (by decide +kernel)) rfl⟩
theorem pX9_53 : PAt RX9 53 9 6 (.object "OwnedByGuests$Ledger") true := ⟨RX9, TX9, 9, tyX9, rfl, by decide, inX9, tbW_mem (List.mem_of_getElem? (i := 522) (by decide +kernel)) rfl, tyX9_ok, nmX9, rfl, rfl, fun _ => rfl⟩
theorem fX9_57 : FAt RX9 57 9 7 := ⟨RX9, TX9, 9, rfl, by decide, inX9, tbW_mem (List.mem_of_getElem? (i := 523) (by decide +kernel)) rfl⟩
theorem pX9_57 : PAt RX9 57 9 7 (.array .int) true := ⟨RX9, TX9, 9, tyX9, rfl, by decide, inX9, tbW_mem (List.mem_of_getElem? (i := 523) (by decide +kernel)) rfl, tyX9_ok, nmX9, rfl, rfl, fun _ => rfl⟩
theorem fX9_87 : FAt RX9 87 9 8 := ⟨RX9, TX9, 9, rfl, by decide, inX9, tbW_mem (List.mem_of_getElem? (i := 524) (by decide +kernel)) rfl⟩
theorem pX9_87 : PAt RX9 87 9 8 .boolean false := ⟨RX9, TX9, 9, tyX9, rfl, by decide, inX9, tbW_mem (List.mem_of_getElem? (i := 524) (by decide +kernel)) rfl, tyX9_ok, nmX9, rfl, rfl, fun h => by cases h⟩
theorem fX10_16 : FAt RX10 16 10 0 := ⟨RX10, TX10, 61, rfl, by decide, inX10, tbW_mem (List.mem_of_getElem? (i := 1177) (by decide +kernel)) rfl⟩
theorem pX10_16 : PAt RX10 16 10 0 (.array .byte) true := ⟨RX10, TX10, 61, tyX10, rfl, by decide, inX10, tbW_mem (List.mem_of_getElem? (i := 1177) (by decide +kernel)) rfl, tyX10_ok, nmX10, rfl, rfl, fun _ => rfl⟩
theorem fX10_71 : FAt RX10 71 10 1 := ⟨RX10, TX10, 61, rfl, by decide, inX10, tbW_mem (List.mem_of_getElem? (i := 1178) (by decide +kernel)) rfl⟩
theorem pX10_71 : PAt RX10 71 10 1 .int false := ⟨RX10, TX10, 61, tyX10, rfl, by decide, inX10, tbW_mem (List.mem_of_getElem? (i := 1178) (by decide +kernel)) rfl, tyX10_ok, nmX10, rfl, rfl, fun h => by cases h⟩
theorem fX10_13 : FAt RX10 13 10 2 := ⟨RX10, TX10, 61, rfl, by decide, inX10, tbW_mem (List.mem_of_getElem? (i := 1179) (by decide +kernel)) rfl⟩
theorem pX10_13 : PAt RX10 13 10 2 .int false := ⟨RX10, TX10, 61, tyX10, rfl, by decide, inX10, tbW_mem (List.mem_of_getElem? (i := 1179) (by decide +kernel)) rfl, tyX10_ok, nmX10, rfl, rfl, fun h => by cases h⟩
theorem fX10_7 : FAt RX10 7 10 3 := ⟨RX10, TX10, 61, rfl, by decide, inX10, tbW_mem (List.mem_of_getElem? (i := 1180) (by decide +kernel)) rfl⟩
theorem pX10_7 : PAt RX10 7 10 3 .int false := ⟨RX10, TX10, 61, tyX10, rfl, by decide, inX10, tbW_mem (List.mem_of_getElem? (i := 1180) (by decide +kernel)) rfl, tyX10_ok, nmX10, rfl, rfl, fun h => by cases h⟩
theorem fX10_20 : FAt RX10 20 10 4 := ⟨RX10, TX10, 61, rfl, by decide, inX10, tbW_mem (List.mem_of_getElem? (i := 1181) (by decide +kernel)) rfl⟩
theorem pX10_20 : PAt RX10 20 10 4 .int false := ⟨RX10, TX10, 61, tyX10, rfl, by decide, inX10, tbW_mem (List.mem_of_getElem? (i := 1181) (by decide +kernel)) rfl, tyX10_ok, nmX10, rfl, rfl, fun h => by cases h⟩
theorem fX10_27 : FAt RX10 27 10 5 := ⟨RX10, TX10, 61, rfl, by decide, inX10, tbW_mem (List.mem_of_getElem? (i := 1182) (by decide +kernel)) rfl⟩
theorem pX10_27 : PAt RX10 27 10 5 .int false := ⟨RX10, TX10, 61, tyX10, rfl, by decide, inX10, tbW_mem (List.mem_of_getElem? (i := 1182) (by decide +kernel)) rfl, tyX10_ok, nmX10, rfl, rfl, fun h => by cases h⟩
theorem fX10_37 : FAt RX10 37 10 6 := ⟨RX10, TX10, 61, rfl, by decide, inX10, tbW_mem (List.mem_of_getElem? (i := 1183) (by decide +kernel)) rfl⟩
theorem pX10_37 : PAt RX10 37 10 6 .int false := ⟨RX10, TX10, 61, tyX10, rfl, by decide, inX10, tbW_mem (List.mem_of_getElem? (i := 1183) (by decide +kernel)) rfl, tyX10_ok, nmX10, rfl, rfl, fun h => by cases h⟩
theorem fX10_56 : FAt RX10 56 10 7 := ⟨RX10, TX10, 61, rfl, by decide, inX10, tbW_mem (List.mem_of_getElem? (i := 1184) (by decide +kernel)) rfl⟩
theorem pX10_56 : PAt RX10 56 10 7 .int false := ⟨RX10, TX10, 61, tyX10, rfl, by decide, inX10, tbW_mem (List.mem_of_getElem? (i := 1184) (by decide +kernel)) rfl, tyX10_ok, nmX10, rfl, rfl, fun h => by cases h⟩
theorem fX10_3 : FAt RX10 3 10 8 := ⟨RX10, TX10, 61, rfl, by decide, inX10, tbW_mem (List.mem_of_getElem? (i := 1185) (by decide +kernel)) rfl⟩
theorem pX10_3 : PAt RX10 3 10 8 .int false := ⟨RX10, TX10, 61, tyX10, rfl, by decide, inX10, tbW_mem (List.mem_of_getElem? (i := 1185) (by decide +kernel)) rfl, tyX10_ok, nmX10, rfl, rfl, fun h => by cases h⟩
theorem fX10_10 : FAt RX10 10 10 9 := ⟨RX10, TX10, 61, rfl, by decide, inX10, tbW_mem (List.mem_of_getElem? (i := 1186) (by decide +kernel)) rfl⟩
theorem pX10_10 : PAt RX10 10 10 9 .int false := ⟨RX10, TX10, 61, tyX10, rfl, by decide, inX10, tbW_mem (List.mem_of_getElem? (i := 1186) (by decide +kernel)) rfl, tyX10_ok, nmX10, rfl, rfl, fun h => by cases h⟩
theorem fX10_282 : FAt RX10 282 10 10 := ⟨RX10, TX10, 61, rfl, by decide, inX10, tbW_mem (List.mem_of_getElem? (i := 1187) (by decide +kernel)) rfl⟩
theorem pX10_282 : PAt RX10 282 10 10 .int false := ⟨RX10, TX10, 61, tyX10, rfl, by decide, inX10, tbW_mem (List.mem_of_getElem? (i := 1187) (by decide +kernel)) rfl, tyX10_ok, nmX10, rfl, rfl, fun h => by cases h⟩
theorem fX10_285 : FAt RX10 285 10 11 := ⟨RX10, TX10, 61, rfl, by decide, inX10, tbW_mem (List.mem_of_getElem? (i := 1188) (by decide +kernel)) rfl⟩
theorem pX10_285 : PAt RX10 285 10 11 .int false := ⟨RX10, TX10, 61, tyX10, rfl, by decide, inX10, tbW_mem (List.mem_of_getElem? (i := 1188) (by decide +kernel)) rfl, tyX10_ok, nmX10, rfl, rfl, fun h => by cases h⟩
theorem fX10_291 : FAt RX10 291 10 12 := ⟨RX10, TX10, 61, rfl, by decide, inX10, tbW_mem (List.mem_of_getElem? (i := 1189) (by decide +kernel)) rfl⟩
theorem pX10_291 : PAt RX10 291 10 12 .int false := ⟨RX10, TX10, 61, tyX10, rfl, by decide, inX10, tbW_mem (List.mem_of_getElem? (i := 1189) (by decide +kernel)) rfl, tyX10_ok, nmX10, rfl, rfl, fun h => by cases h⟩
theorem fX10_74 : FAt RX10 74 10 13 := ⟨RX10, TX10, 61, rfl, by decide, inX10, tbW_mem (List.mem_of_getElem? (i := 1190) (by decide +kernel)) rfl⟩
theorem pX10_74 : PAt RX10 74 10 13 .int false := ⟨RX10, TX10, 61, tyX10, rfl, by decide, inX10, tbW_mem (List.mem_of_getElem? (i := 1190) (by decide +kernel)) rfl, tyX10_ok, nmX10, rfl, rfl, fun h => by cases h⟩
theorem fX10_102 : FAt RX10 102 10 14 := ⟨RX10, TX10, 61, rfl, by decide, inX10, tbW_mem (List.mem_of_getElem? (i := 1191) (by decide +kernel)) rfl⟩
theorem pX10_102 : PAt RX10 102 10 14 .int false := ⟨RX10, TX10, 61, tyX10, rfl, by decide, inX10, tbW_mem (List.mem_of_getElem? (i := 1191) (by decide +kernel)) rfl, tyX10_ok, nmX10, rfl, rfl, fun h => by cases h⟩
theorem fX10_159 : FAt RX10 159 10 15 := ⟨RX10, TX10, 61, rfl, by decide, inX10, tbW_mem (List.mem_of_getElem? (i := 1192) (by decide +kernel)) rfl⟩
theorem pX10_159 : PAt RX10 159 10 15 .int false := ⟨RX10, TX10, 61, tyX10, rfl, by decide, inX10, tbW_mem (List.mem_of_getElem? (i := 1192) (by decide +kernel)) rfl, tyX10_ok, nmX10, rfl, rfl, fun h => by cases h⟩
theorem fX10_146 : FAt RX10 146 10 16 := ⟨RX10, TX10, 61, rfl, by decide, inX10, tbW_mem (List.mem_of_getElem? (i := 1193) (by decide +kernel)) rfl⟩
theorem pX10_146 : PAt RX10 146 10 16 .int false := ⟨RX10, TX10, 61, tyX10, rfl, by decide, inX10, tbW_mem (List.mem_of_getElem? (i := 1193) (by decide +kernel)) rfl, tyX10_ok, nmX10, rfl, rfl, fun h => by cases h⟩
theorem fX10_288 : FAt RX10 288 10 17 := ⟨RX10, TX10, 61, rfl, by decide, inX10, tbW_mem (List.mem_of_getElem? (i := 1194) (by decide +kernel)) rfl⟩
theorem pX10_288 : PAt RX10 288 10 17 .boolean false := ⟨RX10, TX10, 61, tyX10, rfl, by decide, inX10, tbW_mem (List.mem_of_getElem? (i := 1194) (by decide +kernel)) rfl, tyX10_ok, nmX10, rfl, rfl, fun h => by cases h⟩
theorem fX10_149 : FAt RX10 149 10 18 := ⟨RX10, TX10, 61, rfl, by decide, inX10, tbW_mem (List.mem_of_getElem? (i := 1195) (by decide +kernel)) rfl⟩
theorem pX10_149 : PAt RX10 149 10 18 .boolean false := ⟨RX10, TX10, 61, tyX10, rfl, by decide, inX10, tbW_mem (List.mem_of_getElem? (i := 1195) (by decide +kernel)) rfl, tyX10_ok, nmX10, rfl, rfl, fun h => by cases h⟩
theorem fX10_197 : FAt RX10 197 10 19 := ⟨RX10, TX10, 61, rfl, by decide, inX10, tbW_mem (List.mem_of_getElem? (i := 1196) (by decide +kernel)) rfl⟩
theorem pX10_197 : PAt RX10 197 10 19 (.array .int) true := ⟨RX10, TX10, 61, tyX10, rfl, by decide, inX10, tbW_mem (List.mem_of_getElem? (i := 1196) (by decide +kernel)) rfl, tyX10_ok, nmX10, rfl, rfl, fun _ => rfl⟩
theorem fX10_156 : FAt RX10 156 10 20 := ⟨RX10, TX10, 61, rfl, by decide, inX10, tbW_mem (List.mem_of_getElem? (i := 1197) (by decide +kernel)) rfl⟩
theorem pX10_156 : PAt RX10 156 10 20 (.array .int) true := ⟨RX10, TX10, 61, tyX10, rfl, by decide, inX10, tbW_mem (List.mem_of_getElem? (i := 1197) (by decide +kernel)) rfl, tyX10_ok, nmX10, rfl, rfl, fun _ => rfl⟩
theorem fX10_200 : FAt RX10 200 10 21 := ⟨RX10, TX10, 61, rfl, by decide, inX10, tbW_mem (List.mem_of_getElem? (i := 1198) (by decide +kernel)) rfl⟩
theorem pX10_200 : PAt RX10 200 10 21 (.array .int) true := ⟨RX10, TX10, 61, tyX10, rfl, by decide, inX10, tbW_mem (List.mem_of_getElem? (i := 1198) (by decide +kernel)) rfl, tyX10_ok, nmX10, rfl, rfl, fun _ => rfl⟩
theorem fX10_203 : FAt RX10 203 10 22 := ⟨RX10, TX10, 61, rfl, by decide, inX10, tbW_mem (List.mem_of_getElem? (i := 1199) (by decide +kernel)) rfl⟩
theorem pX10_203 : PAt RX10 203 10 22 (.array .int) true := ⟨RX10, TX10, 61, tyX10, rfl, by decide, inX10, tbW_mem (List.mem_of_getElem? (i := 1199) (by decide +kernel)) rfl, tyX10_ok, nmX10, rfl, rfl, fun _ => rfl⟩
theorem fX10_206 : FAt RX10 206 10 23 := ⟨RX10, TX10, 61, rfl, by decide, inX10, tbW_mem (List.mem_of_getElem? (i := 1200) (by decide +kernel)) rfl⟩
theorem pX10_206 : PAt RX10 206 10 23 (.array .int) true := ⟨RX10, TX10, 61, tyX10, rfl, by decide, inX10, tbW_mem (List.mem_of_getElem? (i := 1200) (by decide +kernel)) rfl, tyX10_ok, nmX10, rfl, rfl, fun _ => rfl⟩
theorem fX10_209 : FAt RX10 209 10 24 := ⟨RX10, TX10, 61, rfl, by decide, inX10, tbW_mem (List.mem_of_getElem? (i := 1201) (by decide +kernel)) rfl⟩
theorem pX10_209 : PAt RX10 209 10 24 (.array .int) true := ⟨RX10, TX10, 61, tyX10, rfl, by decide, inX10, tbW_mem (List.mem_of_getElem? (i := 1201) (by decide +kernel)) rfl, tyX10_ok, nmX10, rfl, rfl, fun _ => rfl⟩
theorem fX10_212 : FAt RX10 212 10 25 := ⟨RX10, TX10, 61, rfl, by decide, inX10, tbW_mem (List.mem_of_getElem? (i := 1202) (by decide +kernel)) rfl⟩
theorem pX10_212 : PAt RX10 212 10 25 (.array .int) true := ⟨RX10, TX10, 61, tyX10, rfl, by decide, inX10, tbW_mem (List.mem_of_getElem? (i := 1202) (by decide +kernel)) rfl, tyX10_ok, nmX10, rfl, rfl, fun _ => rfl⟩
theorem fX10_215 : FAt RX10 215 10 26 := ⟨RX10, TX10, 61, rfl, by decide, inX10, tbW_mem (List.mem_of_getElem? (i := 1203) (by decide +kernel)) rfl⟩
theorem pX10_215 : PAt RX10 215 10 26 (.array .int) true := ⟨RX10, TX10, 61, tyX10, rfl, by decide, inX10, tbW_mem (List.mem_of_getElem? (i := 1203) (by decide +kernel)) rfl, tyX10_ok, nmX10, rfl, rfl, fun _ => rfl⟩
theorem fX10_217 : FAt RX10 217 10 27 := ⟨RX10, TX10, 61, rfl, by decide, inX10, tbW_mem (List.mem_of_getElem? (i := 1204) (by decide +kernel)) rfl⟩
theorem pX10_217 : PAt RX10 217 10 27 (.array .int) true := ⟨RX10, TX10, 61, tyX10, rfl, by decide, inX10, tbW_mem (List.mem_of_getElem? (i := 1204) (by decide +kernel)) rfl, tyX10_ok, nmX10, rfl, rfl, fun _ => rfl⟩
theorem fX10_89 : FAt RX10 89 10 28 := ⟨RX10, TX10, 61, rfl, by decide, inX10, tbW_mem (List.mem_of_getElem? (i := 1205) (by decide +kernel)) rfl⟩
theorem pX10_89 : PAt RX10 89 10 28 (.array .int) true := ⟨RX10, TX10, 61, tyX10, rfl, by decide, inX10, tbW_mem (List.mem_of_getElem? (i := 1205) (by decide +kernel)) rfl, tyX10_ok, nmX10, rfl, rfl, fun _ => rfl⟩
theorem fX10_93 : FAt RX10 93 10 29 := ⟨RX10, TX10, 61, rfl, by decide, inX10, tbW_mem (List.mem_of_getElem? (i := 1206) (by decide +kernel)) rfl⟩
theorem pX10_93 : PAt RX10 93 10 29 (.array .int) true := ⟨RX10, TX10, 61, tyX10, rfl, by decide, inX10, tbW_mem (List.mem_of_getElem? (i := 1206) (by decide +kernel)) rfl, tyX10_ok, nmX10, rfl, rfl, fun _ => rfl⟩
theorem fX10_96 : FAt RX10 96 10 30 := ⟨RX10, TX10, 61, rfl, by decide, inX10, tbW_mem (List.mem_of_getElem? (i := 1207) (by decide +kernel)) rfl⟩
theorem pX10_96 : PAt RX10 96 10 30 (.array .int) true := ⟨RX10, TX10, 61, tyX10, rfl, by decide, inX10, tbW_mem (List.mem_of_getElem? (i := 1207) (by decide +kernel)) rfl, tyX10_ok, nmX10, rfl, rfl, fun _ => rfl⟩
theorem fX10_99 : FAt RX10 99 10 31 := ⟨RX10, TX10, 61, rfl, by decide, inX10, tbW_mem (List.mem_of_getElem? (i := 1208) (by decide +kernel)) rfl⟩
theorem pX10_99 : PAt RX10 99 10 31 (.array .int) true := ⟨RX10, TX10, 61, tyX10, rfl, by decide, inX10, tbW_mem (List.mem_of_getElem? (i := 1208) (by decide +kernel)) rfl, tyX10_ok, nmX10, rfl, rfl, fun _ => rfl⟩
theorem fX10_108 : FAt RX10 108 10 32 := ⟨RX10, TX10, 61, rfl, by decide, inX10, tbW_mem (List.mem_of_getElem? (i := 1209) (by decide +kernel)) rfl⟩
theorem pX10_108 : PAt RX10 108 10 32 (.array .int) true := ⟨RX10, TX10, 61, tyX10, rfl, by decide, inX10, tbW_mem (List.mem_of_getElem? (i := 1209) (by decide +kernel)) rfl, tyX10_ok, nmX10, rfl, rfl, fun _ => rfl⟩
theorem fX10_111 : FAt RX10 111 10 33 := ⟨RX10, TX10, 61, rfl, by decide, inX10, tbW_mem (List.mem_of_getElem? (i := 1210) (by decide +kernel)) rfl⟩
theorem pX10_111 : PAt RX10 111 10 33 (.array .int) true := ⟨RX10, TX10, 61, tyX10, rfl, by decide, inX10, tbW_mem (List.mem_of_getElem? (i := 1210) (by decide +kernel)) rfl, tyX10_ok, nmX10, rfl, rfl, fun _ => rfl⟩
theorem fX10_114 : FAt RX10 114 10 34 := ⟨RX10, TX10, 61, rfl, by decide, inX10, tbW_mem (List.mem_of_getElem? (i := 1211) (by decide +kernel)) rfl⟩
theorem pX10_114 : PAt RX10 114 10 34 (.array .int) true := ⟨RX10, TX10, 61, tyX10, rfl, by decide, inX10, tbW_mem (List.mem_of_getElem? (i := 1211) (by decide +kernel)) rfl, tyX10_ok, nmX10, rfl, rfl, fun _ => rfl⟩
theorem fX10_77 : FAt RX10 77 10 35 := ⟨RX10, TX10, 61, rfl, by decide, inX10, tbW_mem (List.mem_of_getElem? (i := 1212) (by decide +kernel)) rfl⟩
theorem pX10_77 : PAt RX10 77 10 35 (.array .long) true := ⟨RX10, TX10, 61, tyX10, rfl, by decide, inX10, tbW_mem (List.mem_of_getElem? (i := 1212) (by decide +kernel)) rfl, tyX10_ok, nmX10, rfl, rfl, fun _ => rfl⟩
theorem fX10_105 : FAt RX10 105 10 36 := ⟨RX10, TX10, 61, rfl, by decide, inX10, tbW_mem (List.mem_of_getElem? (i := 1213) (by decide +kernel)) rfl⟩
theorem pX10_105 : PAt RX10 105 10 36 (.array .long) true := ⟨RX10, TX10, 61, tyX10, rfl, by decide, inX10, tbW_mem (List.mem_of_getElem? (i := 1213) (by decide +kernel)) rfl, tyX10_ok, nmX10, rfl, rfl, fun _ => rfl⟩
theorem fX10_117 : FAt RX10 117 10 37 := ⟨RX10, TX10, 61, rfl, by decide, inX10, tbW_mem (List.mem_of_getElem? (i := 1214) (by decide +kernel)) rfl⟩
theorem pX10_117 : PAt RX10 117 10 37 .int false := ⟨RX10, TX10, 61, tyX10, rfl, by decide, inX10, tbW_mem (List.mem_of_getElem? (i := 1214) (by decide +kernel)) rfl, tyX10_ok, nmX10, rfl, rfl, fun h => by cases h⟩
theorem fX10_219 : FAt RX10 219 10 38 := ⟨RX10, TX10, 61, rfl, by decide, inX10, tbW_mem (List.mem_of_getElem? (i := 1215) (by decide +kernel)) rfl⟩
theorem pX10_219 : PAt RX10 219 10 38 (.array .int) true := ⟨RX10, TX10, 61, tyX10, rfl, by decide, inX10, tbW_mem (List.mem_of_getElem? (i := 1215) (by decide +kernel)) rfl, tyX10_ok, nmX10, rfl, rfl, fun _ => rfl⟩
theorem fX10_222 : FAt RX10 222 10 39 := ⟨RX10, TX10, 61, rfl, by decide, inX10, tbW_mem (List.mem_of_getElem? (i := 1216) (by decide +kernel)) rfl⟩
theorem pX10_222 : PAt RX10 222 10 39 (.array .int) true := ⟨RX10, TX10, 61, tyX10, rfl, by decide, inX10, tbW_mem (List.mem_of_getElem? (i := 1216) (by decide +kernel)) rfl, tyX10_ok, nmX10, rfl, rfl, fun _ => rfl⟩
theorem fX10_225 : FAt RX10 225 10 40 := ⟨RX10, TX10, 61, rfl, by decide, inX10, tbW_mem (List.mem_of_getElem? (i := 1217) (by decide +kernel)) rfl⟩
theorem pX10_225 : PAt RX10 225 10 40 .int false := ⟨RX10, TX10, 61, tyX10, rfl, by decide, inX10, tbW_mem (List.mem_of_getElem? (i := 1217) (by decide +kernel)) rfl, tyX10_ok, nmX10, rfl, rfl, fun h => by cases h⟩
theorem fX10_228 : FAt RX10 228 10 41 := ⟨RX10, TX10, 61, rfl, by decide, inX10, tbW_mem (List.mem_of_getElem? (i := 1218) (by decide +kernel)) rfl⟩
theorem pX10_228 : PAt RX10 228 10 41 .int false := ⟨RX10, TX10, 61, tyX10, rfl, by decide, inX10, tbW_mem (List.mem_of_getElem? (i := 1218) (by decide +kernel)) rfl, tyX10_ok, nmX10, rfl, rfl, fun h => by cases h⟩
theorem fX10_230 : FAt RX10 230 10 42 := ⟨RX10, TX10, 61, rfl, by decide, inX10, tbW_mem (List.mem_of_getElem? (i := 1219) (by decide +kernel)) rfl⟩
theorem pX10_230 : PAt RX10 230 10 42 .int false := ⟨RX10, TX10, 61, tyX10, rfl, by decide, inX10, tbW_mem (List.mem_of_getElem? (i := 1219) (by decide +kernel)) rfl, tyX10_ok, nmX10, rfl, rfl, fun h => by cases h⟩
theorem fX10_233 : FAt RX10 233 10 43 := ⟨RX10, TX10, 61, rfl, by decide, inX10, tbW_mem (List.mem_of_getElem? (i := 1220) (by decide +kernel)) rfl⟩
theorem pX10_233 : PAt RX10 233 10 43 .int false := ⟨RX10, TX10, 61, tyX10, rfl, by decide, inX10, tbW_mem (List.mem_of_getElem? (i := 1220) (by decide +kernel)) rfl, tyX10_ok, nmX10, rfl, rfl, fun h => by cases h⟩
theorem fX10_315 : FAt RX10 315 10 44 := ⟨RX10, TX10, 61, rfl, by decide, inX10, tbW_mem (List.mem_of_getElem? (i := 1221) (by decide +kernel)) rfl⟩
theorem pX10_315 : PAt RX10 315 10 44 .boolean false := ⟨RX10, TX10, 61, tyX10, rfl, by decide, inX10, tbW_mem (List.mem_of_getElem? (i := 1221) (by decide +kernel)) rfl, tyX10_ok, nmX10, rfl, rfl, fun h => by cases h⟩
theorem fX10_318 : FAt RX10 318 10 45 := ⟨RX10, TX10, 61, rfl, by decide, inX10, tbW_mem (List.mem_of_getElem? (i := 1222) (by decide +kernel)) rfl⟩
theorem pX10_318 : PAt RX10 318 10 45 .boolean false := ⟨RX10, TX10, 61, tyX10, rfl, by decide, inX10, tbW_mem (List.mem_of_getElem? (i := 1222) (by decide +kernel)) rfl, tyX10_ok, nmX10, rfl, rfl, fun h => by cases h⟩
theorem fX10_236 : FAt RX10 236 10 46 := ⟨RX10, TX10, 61, rfl, by decide, inX10, tbW_mem (List.mem_of_getElem? (i := 1223) (by decide +kernel)) rfl⟩
theorem pX10_236 : PAt RX10 236 10 46 (.array .int) true := ⟨RX10, TX10, 61, tyX10, rfl, by decide, inX10, tbW_mem (List.mem_of_getElem? (i := 1223) (by decide +kernel)) rfl, tyX10_ok, nmX10, rfl, rfl, fun _ => rfl⟩
theorem fX10_239 : FAt RX10 239 10 47 := ⟨RX10, TX10, 61, rfl, by decide, inX10, tbW_mem (List.mem_of_getElem? (i := 1224) (by decide +kernel)) rfl⟩
theorem pX10_239 : PAt RX10 239 10 47 (.array .boolean) true := ⟨RX10, TX10, 61, tyX10, rfl, by decide, inX10, tbW_mem (List.mem_of_getElem? (i := 1224) (by decide +kernel)) rfl, tyX10_ok, nmX10, rfl, rfl, fun _ => rfl⟩
theorem fX10_243 : FAt RX10 243 10 48 := ⟨RX10, TX10, 61, rfl, by decide, inX10, tbW_mem (List.mem_of_getElem? (i := 1225) (by decide +kernel)) rfl⟩
theorem pX10_243 : PAt RX10 243 10 48 (.array .int) true := ⟨RX10, TX10, 61, tyX10, rfl, by decide, inX10, tbW_mem (List.mem_of_getElem? (i := 1225) (by decide +kernel)) rfl, tyX10_ok, nmX10, rfl, rfl, fun _ => rfl⟩
theorem fX10_246 : FAt RX10 246 10 49 := ⟨RX10, TX10, 61, rfl, by decide, inX10, tbW_mem (List.mem_of_getElem? (i := 1226) (by decide +kernel)) rfl⟩
theorem pX10_246 : PAt RX10 246 10 49 (.array .boolean) true := ⟨RX10, TX10, 61, tyX10, rfl, by decide, inX10, tbW_mem (List.mem_of_getElem? (i := 1226) (by decide +kernel)) rfl, tyX10_ok, nmX10, rfl, rfl, fun _ => rfl⟩
theorem fX10_249 : FAt RX10 249 10 50 := ⟨RX10, TX10, 61, rfl, by decide, inX10, tbW_mem (List.mem_of_getElem? (i := 1227) (by decide +kernel)) rfl⟩
theorem pX10_249 : PAt RX10 249 10 50 (.array .int) true := ⟨RX10, TX10, 61, tyX10, rfl, by decide, inX10, tbW_mem (List.mem_of_getElem? (i := 1227) (by decide +kernel)) rfl, tyX10_ok, nmX10, rfl, rfl, fun _ => rfl⟩
theorem fX10_253 : FAt RX10 253 10 51 := ⟨RX10, TX10, 61, rfl, by decide, inX10, tbW_mem (List.mem_of_getElem? (i := 1228) (by decide +kernel)) rfl⟩
theorem pX10_253 : PAt RX10 253 10 51 (.array .int) true := ⟨RX10, TX10, 61, tyX10, rfl, by decide, inX10, tbW_mem (List.mem_of_getElem? (i := 1228) (by decide +kernel)) rfl, tyX10_ok, nmX10, rfl, rfl, fun _ => rfl⟩
theorem fX10_449 : FAt RX10 449 10 52 := ⟨RX10, TX10, 61, rfl, by decide, inX10, tbW_mem (List.mem_of_getElem? (i := 1229) (by decide +kernel)) rfl⟩
theorem pX10_449 : PAt RX10 449 10 52 .int false := ⟨RX10, TX10, 61, tyX10, rfl, by decide, inX10, tbW_mem (List.mem_of_getElem? (i := 1229) (by decide +kernel)) rfl, tyX10_ok, nmX10, rfl, rfl, fun h => by cases h⟩
theorem fX10_452 : FAt RX10 452 10 53 := ⟨RX10, TX10, 61, rfl, by decide, inX10, tbW_mem (List.mem_of_getElem? (i := 1230) (by decide +kernel)) rfl⟩
theorem pX10_452 : PAt RX10 452 10 53 .int false := ⟨RX10, TX10, 61, tyX10, rfl, by decide, inX10, tbW_mem (List.mem_of_getElem? (i := 1230) (by decide +kernel)) rfl, tyX10_ok, nmX10, rfl, rfl, fun h => by cases h⟩
theorem fX10_256 : FAt RX10 256 10 54 := ⟨RX10, TX10, 61, rfl, by decide, inX10, tbW_mem (List.mem_of_getElem? (i := 1231) (by decide +kernel)) rfl⟩
theorem pX10_256 : PAt RX10 256 10 54 (.array .int) true := ⟨RX10, TX10, 61, tyX10, rfl, by decide, inX10, tbW_mem (List.mem_of_getElem? (i := 1231) (by decide +kernel)) rfl, tyX10_ok, nmX10, rfl, rfl, fun _ => rfl⟩
theorem fX10_463 : FAt RX10 463 10 55 := ⟨RX10, TX10, 61, rfl, by decide, inX10, tbW_mem (List.mem_of_getElem? (i := 1232) (by decide +kernel)) rfl⟩
theorem pX10_463 : PAt RX10 463 10 55 .int false := ⟨RX10, TX10, 61, tyX10, rfl, by decide, inX10, tbW_mem (List.mem_of_getElem? (i := 1232) (by decide +kernel)) rfl, tyX10_ok, nmX10, rfl, rfl, fun h => by cases h⟩
theorem fX10_294 : FAt RX10 294 10 56 := ⟨RX10, TX10, 61, rfl, by decide, inX10, tbW_mem (List.mem_of_getElem? (i := 1233) (by decide +kernel)) rfl⟩
theorem pX10_294 : PAt RX10 294 10 56 .boolean false := ⟨RX10, TX10, 61, tyX10, rfl, by decide, inX10, tbW_mem (List.mem_of_getElem? (i := 1233) (by decide +kernel)) rfl, tyX10_ok, nmX10, rfl, rfl, fun h => by cases h⟩
theorem fX10_259 : FAt RX10 259 10 57 := ⟨RX10, TX10, 61, rfl, by decide, inX10, tbW_mem (List.mem_of_getElem? (i := 1234) (by decide +kernel)) rfl⟩
theorem pX10_259 : PAt RX10 259 10 57 (.array .int) true := ⟨RX10, TX10, 61, tyX10, rfl, by decide, inX10, tbW_mem (List.mem_of_getElem? (i := 1234) (by decide +kernel)) rfl, tyX10_ok, nmX10, rfl, rfl, fun _ => rfl⟩
theorem fX10_262 : FAt RX10 262 10 58 := ⟨RX10, TX10, 61, rfl, by decide, inX10, tbW_mem (List.mem_of_getElem? (i := 1235) (by decide +kernel)) rfl⟩
theorem pX10_262 : PAt RX10 262 10 58 (.array .int) true := ⟨RX10, TX10, 61, tyX10, rfl, by decide, inX10, tbW_mem (List.mem_of_getElem? (i := 1235) (by decide +kernel)) rfl, tyX10_ok, nmX10, rfl, rfl, fun _ => rfl⟩
theorem fX10_265 : FAt RX10 265 10 59 := ⟨RX10, TX10, 61, rfl, by decide, inX10, tbW_mem (List.mem_of_getElem? (i := 1236) (by decide +kernel)) rfl⟩
theorem pX10_265 : PAt RX10 265 10 59 (.array .int) true := ⟨RX10, TX10, 61, tyX10, rfl, by decide, inX10, tbW_mem (List.mem_of_getElem? (i := 1236) (by decide +kernel)) rfl, tyX10_ok, nmX10, rfl, rfl, fun _ => rfl⟩
theorem fX10_474 : FAt RX10 474 10 60 := ⟨RX10, TX10, 61, rfl, by decide, inX10, tbW_mem (List.mem_of_getElem? (i := 1237) (by decide +kernel)) rfl⟩
theorem pX10_474 : PAt RX10 474 10 60 .int false := ⟨RX10, TX10, 61, tyX10, rfl, by decide, inX10, tbW_mem (List.mem_of_getElem? (i := 1237) (by decide +kernel)) rfl, tyX10_ok, nmX10, rfl, rfl, fun h => by cases h⟩
theorem nL_7 : NAt RL 7 9 9 [.null, .null, .null, .null, .null, .null, .null, .null, .int 0] := ⟨RX9, TX9, tyX9, rfl, inX9, tbW_mem (List.mem_of_getElem? (i := 122) (by decide +kernel)) rfl, tbW_mem (List.mem_of_getElem? (i := 123) (by decide +kernel)) rfl, zX9, tyX9_ok, by decide +kernel⟩
theorem nX9_7 : NAt RX9 7 4 7 [.null, .int 0, .int 0, .int 0, .int 0, .int 0, .long 0] := ⟨RX4, TX4, tyX4, rfl, inX4, tbW_mem (List.mem_of_getElem? (i := 130) (by decide +kernel)) rfl, tbW_mem (List.mem_of_getElem? (i := 131) (by decide +kernel)) rfl, zX4, tyX4_ok, by decide +kernel⟩
theorem nX9_16 : NAt RX9 16 5 4 [.null, .null, .int 0, .int 0] := ⟨RX5, TX5, tyX5, rfl, inX5, tbW_mem (List.mem_of_getElem? (i := 166) (by decide +kernel)) rfl, tbW_mem (List.mem_of_getElem? (i := 167) (by decide +kernel)) rfl, zX5, tyX5_ok, by decide +kernel⟩
theorem nX5_9 : NAt RX5 9 7 16 [.int 0, .int 0, .int 0, .int 0, .int 0, .int 0, .null, .null, .null, .null, .null, .null, .null, .null, .null, .null] := ⟨RX7, TX7, tyX7, rfl, inX7, tbW_mem (List.mem_of_getElem? (i := 172) (by decide +kernel)) rfl, tbW_mem (List.mem_of_getElem? (i := 173) (by decide +kernel)) rfl, zX7, tyX7_ok, by decide +kernel⟩
theorem nX9_25 : NAt RX9 25 7 16 [.int 0, .int 0, .int 0, .int 0, .int 0, .int 0, .null, .null, .null, .null, .null, .null, .null, .null, .null, .null] := ⟨RX7, TX7, tyX7, rfl, inX7, tbW_mem (List.mem_of_getElem? (i := 296) (by decide +kernel)) rfl, tbW_mem (List.mem_of_getElem? (i := 173) (by decide +kernel)) rfl, zX7, tyX7_ok, by decide +kernel⟩
theorem nX9_32 : NAt RX9 32 1 5 [.null, .null, .int 0, .int 0, .null] := ⟨RX1, TX1, tyX1, rfl, inX1, tbW_mem (List.mem_of_getElem? (i := 298) (by decide +kernel)) rfl, tbW_mem (List.mem_of_getElem? (i := 299) (by decide +kernel)) rfl, zX1, tyX1_ok, by decide +kernel⟩
theorem nX1_9 : NAt RX1 9 3 7 [.int 0, .null, .null, .null, .null, .null, .null] := ⟨RX3, TX3, tyX3, rfl, inX3, tbW_mem (List.mem_of_getElem? (i := 304) (by decide +kernel)) rfl, tbW_mem (List.mem_of_getElem? (i := 305) (by decide +kernel)) rfl, zX3, tyX3_ok, by decide +kernel⟩
theorem nX1_18 : NAt RX1 18 8 2 [.null, .null] := ⟨RX8, TX8, tyX8, rfl, inX8, tbW_mem (List.mem_of_getElem? (i := 346) (by decide +kernel)) rfl, tbW_mem (List.mem_of_getElem? (i := 347) (by decide +kernel)) rfl, zX8, tyX8_ok, by decide +kernel⟩
theorem nX9_43 : NAt RX9 43 6 13 [.null, .null, .null, .null, .null, .null, .null, .null, .null, .int 0, .int 0, .int 0, .int 0] := ⟨RX6, TX6, tyX6, rfl, inX6, tbW_mem (List.mem_of_getElem? (i := 386) (by decide +kernel)) rfl, tbW_mem (List.mem_of_getElem? (i := 387) (by decide +kernel)) rfl, zX6, tyX6_ok, by decide +kernel⟩
theorem nX6_9 : NAt RX6 9 7 16 [.int 0, .int 0, .int 0, .int 0, .int 0, .int 0, .null, .null, .null, .null, .null, .null, .null, .null, .null, .null] := ⟨RX7, TX7, tyX7, rfl, inX7, tbW_mem (List.mem_of_getElem? (i := 392) (by decide +kernel)) rfl, tbW_mem (List.mem_of_getElem? (i := 173) (by decide +kernel)) rfl, zX7, tyX7_ok, by decide +kernel⟩
theorem nX6_18 : NAt RX6 18 8 2 [.null, .null] := ⟨RX8, TX8, tyX8, rfl, inX8, tbW_mem (List.mem_of_getElem? (i := 394) (by decide +kernel)) rfl, tbW_mem (List.mem_of_getElem? (i := 347) (by decide +kernel)) rfl, zX8, tyX8_ok, by decide +kernel⟩
theorem nX6_25 : NAt RX6 25 3 7 [.int 0, .null, .null, .null, .null, .null, .null] := ⟨RX3, TX3, tyX3, rfl, inX3, tbW_mem (List.mem_of_getElem? (i := 396) (by decide +kernel)) rfl, tbW_mem (List.mem_of_getElem? (i := 305) (by decide +kernel)) rfl, zX3, tyX3_ok, by decide +kernel⟩
theorem nX6_43 : NAt RX6 43 0 3 [.null, .null, .int 0] := ⟨RX0, TX0, tyX0, rfl, inX0, tbW_mem (List.mem_of_getElem? (i := 399) (by decide +kernel)) rfl, tbW_mem (List.mem_of_getElem? (i := 400) (by decide +kernel)) rfl, zX0, tyX0_ok, by decide +kernel⟩
theorem nX9_50 : NAt RX9 50 2 6 [.null, .null, .null, .int 0, .null, .null] := ⟨RX2, TX2, tyX2, rfl, inX2, tbW_mem (List.mem_of_getElem? (i := 463) (by decide +kernel)) rfl, tbW_mem (List.mem_of_getElem? (i := 464) (by decide +kernel)) rfl, zX2, tyX2_ok, by decide +kernel⟩
theorem nX2_21 : NAt RX2 21 3 7 [.int 0, .null, .null, .null, .null, .null, .null] := ⟨RX3, TX3, tyX3, rfl, inX3, tbW_mem (List.mem_of_getElem? (i := 469) (by decide +kernel)) rfl, tbW_mem (List.mem_of_getElem? (i := 305) (by decide +kernel)) rfl, zX3, tyX3_ok, by decide +kernel⟩
theorem nL_10 : NAt RL 10 10 61 [.null, .int 0, .int 0, .int 0, .int 0, .int 0, .int 0, .int 0, .int 0, .int 0, .int 0, .int 0, .int 0, .int 0, .int 0, .int 0, .int 0, .int 0, .int 0, .null, .null, .null, .null, .null, .null, .null, .null, .null, .null, .null, .null, .null, .null, .null, .null, .null, .null, .int 0, .null, .null, .int 0, .int 0, .int 0, .int 0, .int 0, .int 0, .null, .null, .null, .null, .null, .null, .int 0, .int 0, .null, .int 0, .int 0, .null, .null, .null, .int 0] := ⟨RX10, TX10, tyX10, rfl, inX10, tbW_mem (List.mem_of_getElem? (i := 1163) (by decide +kernel)) rfl, tbW_mem (List.mem_of_getElem? (i := 1164) (by decide +kernel)) rfl, zX10, tyX10_ok, by decide +kernel⟩
theorem ac_int : Cond.arrayClass .int ∈ tbW := tbW_mem (List.mem_of_getElem? (i := 165) (by decide +kernel)) rfl
theorem ac_long : Cond.arrayClass .long ∈ tbW := tbW_mem (List.mem_of_getElem? (i := 279) (by decide +kernel)) rfl
theorem ac_byte : Cond.arrayClass .byte ∈ tbW := tbW_mem (List.mem_of_getElem? (i := 722) (by decide +kernel)) rfl
theorem ac_boolean : Cond.arrayClass .boolean ∈ tbW := tbW_mem (List.mem_of_getElem? (i := 1361) (by decide +kernel)) rfl
theorem ob_i : Cond.instanceMethod Lib.objectInit ∈ tbW := tbW_mem (List.mem_of_getElem? (i := 128) (by decide +kernel)) rfl
theorem ob_c : Cond.code Lib.objectInit ⟨#[0xb1]⟩ 1 none ∈ tbW := tbW_mem (List.mem_of_getElem? (i := 129) (by decide +kernel)) rfl
theorem ob_X9 : Cond.methodLink RX9 1 Lib.objectInit ∈ tbW := tbW_mem (List.mem_of_getElem? (i := 127) (by decide +kernel)) rfl
theorem ob_X4 : Cond.methodLink RX4 3 Lib.objectInit ∈ tbW := tbW_mem (List.mem_of_getElem? (i := 135) (by decide +kernel)) rfl
theorem ob_X5 : Cond.methodLink RX5 3 Lib.objectInit ∈ tbW := tbW_mem (List.mem_of_getElem? (i := 171) (by decide +kernel)) rfl
theorem ob_X7 : Cond.methodLink RX7 3 Lib.objectInit ∈ tbW := tbW_mem (List.mem_of_getElem? (i := 177) (by decide +kernel)) rfl
theorem ob_X1 : Cond.methodLink RX1 3 Lib.objectInit ∈ tbW := tbW_mem (List.mem_of_getElem? (i := 303) (by decide +kernel)) rfl
theorem ob_X3 : Cond.methodLink RX3 3 Lib.objectInit ∈ tbW := tbW_mem (List.mem_of_getElem? (i := 309) (by decide +kernel)) rfl
theorem ob_X8 : Cond.methodLink RX8 3 Lib.objectInit ∈ tbW := tbW_mem (List.mem_of_getElem? (i := 351) (by decide +kernel)) rfl
theorem ob_X6 : Cond.methodLink RX6 3 Lib.objectInit ∈ tbW := tbW_mem (List.mem_of_getElem? (i := 391) (by decide +kernel)) rfl
theorem ob_X0 : Cond.methodLink RX0 3 Lib.objectInit ∈ tbW := tbW_mem (List.mem_of_getElem? (i := 404) (by decide +kernel)) rfl
theorem ob_X2 : Cond.methodLink RX2 3 Lib.objectInit ∈ tbW := tbW_mem (List.mem_of_getElem? (i := 468) (by decide +kernel)) rfl
theorem qX4_48 : Cond.constantLong RX4 48 32 ∈ tbW := tbW_mem (List.mem_of_getElem? (i := 585) (by decide +kernel)) rfl
theorem qX1_81 : Cond.constantLong RX1 81 1103515245 ∈ tbW := tbW_mem (List.mem_of_getElem? (i := 800) (by decide +kernel)) rfl
theorem qX1_83 : Cond.constantLong RX1 83 12345 ∈ tbW := tbW_mem (List.mem_of_getElem? (i := 801) (by decide +kernel)) rfl
theorem qX1_85 : Cond.constantLong RX1 85 2147483647 ∈ tbW := tbW_mem (List.mem_of_getElem? (i := 802) (by decide +kernel)) rfl
theorem qX9_184 : Cond.constant RX9 184 (-1000000) ∈ tbW := tbW_mem (List.mem_of_getElem? (i := 842) (by decide +kernel)) rfl
theorem qX6_96 : Cond.constant RX6 96 (-1000000) ∈ tbW := tbW_mem (List.mem_of_getElem? (i := 911) (by decide +kernel)) rfl
theorem qX6_172 : Cond.constantLong RX6 172 255 ∈ tbW := tbW_mem (List.mem_of_getElem? (i := 970) (by decide +kernel)) rfl
theorem ob_X10 : Cond.methodLink RX10 192 Lib.objectInit ∈ tbW := tbW_mem (List.mem_of_getElem? (i := 1168) (by decide +kernel)) rfl
theorem qX10_252 : Cond.constant RX10 252 38880 ∈ tbW := tbW_mem (List.mem_of_getElem? (i := 1169) (by decide +kernel)) rfl
theorem qX10_297 : Cond.constantLong RX10 297 2 ∈ tbW := tbW_mem (List.mem_of_getElem? (i := 1487) (by decide +kernel)) rfl
theorem qX10_299 : Cond.constantLong RX10 299 7 ∈ tbW := tbW_mem (List.mem_of_getElem? (i := 1488) (by decide +kernel)) rfl
theorem qX10_301 : Cond.constantLong RX10 301 10 ∈ tbW := tbW_mem (List.mem_of_getElem? (i := 1489) (by decide +kernel)) rfl
theorem qX10_303 : Cond.constantLong RX10 303 49 ∈ tbW := tbW_mem (List.mem_of_getElem? (i := 1490) (by decide +kernel)) rfl
theorem qX10_305 : Cond.constantLong RX10 305 50 ∈ tbW := tbW_mem (List.mem_of_getElem? (i := 1491) (by decide +kernel)) rfl
theorem qX10_307 : Cond.constantLong RX10 307 69 ∈ tbW := tbW_mem (List.mem_of_getElem? (i := 1492) (by decide +kernel)) rfl
theorem qX10_377 : Cond.constantLong RX10 377 3 ∈ tbW := tbW_mem (List.mem_of_getElem? (i := 1516) (by decide +kernel)) rfl
theorem qX10_382 : Cond.constantLong RX10 382 31 ∈ tbW := tbW_mem (List.mem_of_getElem? (i := 1524) (by decide +kernel)) rfl
theorem qX10_384 : Cond.constantLong RX10 384 400 ∈ tbW := tbW_mem (List.mem_of_getElem? (i := 1533) (by decide +kernel)) rfl
theorem qX10_330 : Cond.constantLong RX10 330 1103515245 ∈ tbW := tbW_mem (List.mem_of_getElem? (i := 1549) (by decide +kernel)) rfl
theorem qX10_332 : Cond.constantLong RX10 332 12345 ∈ tbW := tbW_mem (List.mem_of_getElem? (i := 1550) (by decide +kernel)) rfl
theorem qX10_334 : Cond.constantLong RX10 334 2147483648 ∈ tbW := tbW_mem (List.mem_of_getElem? (i := 1551) (by decide +kernel)) rfl
theorem qX10_336 : Cond.constantLong RX10 336 65536 ∈ tbW := tbW_mem (List.mem_of_getElem? (i := 1552) (by decide +kernel)) rfl
theorem qX10_395 : Cond.constant RX10 395 (-1000000) ∈ tbW := tbW_mem (List.mem_of_getElem? (i := 1595) (by decide +kernel)) rfl
theorem qX10_414 : Cond.constantLong RX10 414 4 ∈ tbW := tbW_mem (List.mem_of_getElem? (i := 1639) (by decide +kernel)) rfl
theorem qX10_437 : Cond.constantLong RX10 437 60 ∈ tbW := tbW_mem (List.mem_of_getElem? (i := 1688) (by decide +kernel)) rfl
theorem qX10_445 : Cond.constantLong RX10 445 (-1000) ∈ tbW := tbW_mem (List.mem_of_getElem? (i := 1713) (by decide +kernel)) rfl
theorem qX10_447 : Cond.constantLong RX10 447 9999 ∈ tbW := tbW_mem (List.mem_of_getElem? (i := 1714) (by decide +kernel)) rfl
theorem qX10_455 : Cond.constantLong RX10 455 28 ∈ tbW := tbW_mem (List.mem_of_getElem? (i := 1719) (by decide +kernel)) rfl
theorem qX10_457 : Cond.constantLong RX10 457 20 ∈ tbW := tbW_mem (List.mem_of_getElem? (i := 1720) (by decide +kernel)) rfl
theorem qX10_472 : Cond.constantLong RX10 472 999 ∈ tbW := tbW_mem (List.mem_of_getElem? (i := 1745) (by decide +kernel)) rfl
