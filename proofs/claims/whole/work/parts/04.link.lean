theorem in_X0 : ∀ w ∈ u_ws RX0 TX0 4, w ∈ tblG := by decide +kernel
theorem in_X1 : ∀ w ∈ u_ws RX1 TX1 9, w ∈ tblG := by decide +kernel
theorem in_X2 : ∀ w ∈ u_ws RX2 TX2 3, w ∈ tblG := by decide +kernel
theorem in_X3 : ∀ w ∈ u_ws RX3 TX3 3, w ∈ tblG := by decide +kernel
theorem in_X4 : ∀ w ∈ u_ws RX4 TX4 4, w ∈ tblG := by decide +kernel
theorem in_X5 : ∀ w ∈ u_ws RX5 TX5 3, w ∈ tblG := by decide +kernel
theorem in_X6 : ∀ w ∈ u_ws RX6 TX6 2, w ∈ tblG := by decide +kernel
theorem in_X7 : ∀ w ∈ u_ws RX7 TX7 3, w ∈ tblG := by decide +kernel
theorem in_X8 : ∀ w ∈ u_ws RX8 TX8 13, w ∈ tblG := by decide +kernel
theorem in_X9 : ∀ w ∈ u_ws RX9 TX9 35, w ∈ tblG := by decide +kernel
abbrev mX8_init : MI := (yX8_init, cX8_init, 2, none)
theorem moX8_init : MOk mX8_init 0 := ⟨List.mem_filter.mpr ⟨List.mem_of_getElem? (i := 60) (by decide +kernel), by decide +kernel⟩, List.mem_filter.mpr ⟨List.mem_of_getElem? (i := 42) (by decide +kernel), by decide +kernel⟩, ⟨by decide +kernel, by decide +kernel⟩, by decide +kernel, by decide⟩
abbrev mX6_init : MI := (yX6_init, cX6_init, 1, none)
theorem moX6_init : MOk mX6_init 0 := ⟨List.mem_filter.mpr ⟨List.mem_of_getElem? (i := 68) (by decide +kernel), by decide +kernel⟩, List.mem_filter.mpr ⟨List.mem_of_getElem? (i := 43) (by decide +kernel), by decide +kernel⟩, ⟨by decide +kernel, by decide +kernel⟩, by decide +kernel, by decide⟩
abbrev mX1_init : MI := (yX1_init, cX1_init, 1, none)
theorem moX1_init : MOk mX1_init 0 := ⟨List.mem_filter.mpr ⟨List.mem_of_getElem? (i := 83) (by decide +kernel), by decide +kernel⟩, List.mem_filter.mpr ⟨List.mem_of_getElem? (i := 44) (by decide +kernel), by decide +kernel⟩, ⟨by decide +kernel, by decide +kernel⟩, by decide +kernel, by decide⟩
abbrev mX4_init : MI := (yX4_init, cX4_init, 2, none)
theorem moX4_init : MOk mX4_init 1 := ⟨List.mem_filter.mpr ⟨List.mem_of_getElem? (i := 129) (by decide +kernel), by decide +kernel⟩, List.mem_filter.mpr ⟨List.mem_of_getElem? (i := 45) (by decide +kernel), by decide +kernel⟩, ⟨by decide +kernel, by decide +kernel⟩, by decide +kernel, by decide⟩
abbrev mX0_init : MI := (yX0_init, cX0_init, 1, none)
theorem moX0_init : MOk mX0_init 0 := ⟨List.mem_filter.mpr ⟨List.mem_of_getElem? (i := 153) (by decide +kernel), by decide +kernel⟩, List.mem_filter.mpr ⟨List.mem_of_getElem? (i := 46) (by decide +kernel), by decide +kernel⟩, ⟨by decide +kernel, by decide +kernel⟩, by decide +kernel, by decide⟩
abbrev mX5_init : MI := (yX5_init, cX5_init, 2, none)
theorem moX5_init : MOk mX5_init 1 := ⟨List.mem_filter.mpr ⟨List.mem_of_getElem? (i := 174) (by decide +kernel), by decide +kernel⟩, List.mem_filter.mpr ⟨List.mem_of_getElem? (i := 47) (by decide +kernel), by decide +kernel⟩, ⟨by decide +kernel, by decide +kernel⟩, by decide +kernel, by decide⟩
abbrev mX3_init : MI := (yX3_init, cX3_init, 1, none)
theorem moX3_init : MOk mX3_init 0 := ⟨List.mem_filter.mpr ⟨List.mem_of_getElem? (i := 190) (by decide +kernel), by decide +kernel⟩, List.mem_filter.mpr ⟨List.mem_of_getElem? (i := 48) (by decide +kernel), by decide +kernel⟩, ⟨by decide +kernel, by decide +kernel⟩, by decide +kernel, by decide⟩
abbrev mX7_init : MI := (yX7_init, cX7_init, 1, none)
theorem moX7_init : MOk mX7_init 0 := ⟨List.mem_filter.mpr ⟨List.mem_of_getElem? (i := 207) (by decide +kernel), by decide +kernel⟩, List.mem_filter.mpr ⟨List.mem_of_getElem? (i := 49) (by decide +kernel), by decide +kernel⟩, ⟨by decide +kernel, by decide +kernel⟩, by decide +kernel, by decide⟩
abbrev mX2_init : MI := (yX2_init, cX2_init, 1, none)
theorem moX2_init : MOk mX2_init 0 := ⟨List.mem_filter.mpr ⟨List.mem_of_getElem? (i := 225) (by decide +kernel), by decide +kernel⟩, List.mem_filter.mpr ⟨List.mem_of_getElem? (i := 50) (by decide +kernel), by decide +kernel⟩, ⟨by decide +kernel, by decide +kernel⟩, by decide +kernel, by decide⟩
abbrev mX8_write : MI := (yX8_write, cX8_write, 2, some (FieldType.int))
theorem moX8_write : MOk mX8_write 1 := ⟨List.mem_filter.mpr ⟨List.mem_of_getElem? (i := 283) (by decide +kernel), by decide +kernel⟩, List.mem_filter.mpr ⟨List.mem_of_getElem? (i := 42) (by decide +kernel), by decide +kernel⟩, ⟨by decide +kernel, by decide +kernel⟩, by decide +kernel, by decide⟩
theorem mvX8_write : MV mX8_write 1 8 := ⟨moX8_write, List.mem_filter.mpr ⟨List.mem_of_getElem? (i := 281) (by decide +kernel), by decide +kernel⟩, List.mem_filter.mpr ⟨List.mem_of_getElem? (i := 282) (by decide +kernel), by decide +kernel⟩, TX8, 13, rfl⟩
abbrev mX6_append : MI := (yX6_append, cX6_append, 2, some (FieldType.boolean))
theorem moX6_append : MOk mX6_append 1 := ⟨List.mem_filter.mpr ⟨List.mem_of_getElem? (i := 287) (by decide +kernel), by decide +kernel⟩, List.mem_filter.mpr ⟨List.mem_of_getElem? (i := 43) (by decide +kernel), by decide +kernel⟩, ⟨by decide +kernel, by decide +kernel⟩, by decide +kernel, by decide⟩
theorem mvX6_append : MV mX6_append 1 6 := ⟨moX6_append, List.mem_filter.mpr ⟨List.mem_of_getElem? (i := 285) (by decide +kernel), by decide +kernel⟩, List.mem_filter.mpr ⟨List.mem_of_getElem? (i := 286) (by decide +kernel), by decide +kernel⟩, TX6, 2, rfl⟩
abbrev mX8_wipe : MI := (yX8_wipe, cX8_wipe, 2, some (FieldType.int))
theorem moX8_wipe : MOk mX8_wipe 0 := ⟨List.mem_filter.mpr ⟨List.mem_of_getElem? (i := 291) (by decide +kernel), by decide +kernel⟩, List.mem_filter.mpr ⟨List.mem_of_getElem? (i := 42) (by decide +kernel), by decide +kernel⟩, ⟨by decide +kernel, by decide +kernel⟩, by decide +kernel, by decide⟩
theorem mvX8_wipe : MV mX8_wipe 0 8 := ⟨moX8_wipe, List.mem_filter.mpr ⟨List.mem_of_getElem? (i := 289) (by decide +kernel), by decide +kernel⟩, List.mem_filter.mpr ⟨List.mem_of_getElem? (i := 290) (by decide +kernel), by decide +kernel⟩, TX8, 13, rfl⟩
abbrev mX8_fault : MI := (yX8_fault, cX8_fault, 1, some (FieldType.int))
theorem moX8_fault : MOk mX8_fault 0 := ⟨List.mem_filter.mpr ⟨List.mem_of_getElem? (i := 295) (by decide +kernel), by decide +kernel⟩, List.mem_filter.mpr ⟨List.mem_of_getElem? (i := 42) (by decide +kernel), by decide +kernel⟩, ⟨by decide +kernel, by decide +kernel⟩, by decide +kernel, by decide⟩
theorem mvX8_fault : MV mX8_fault 0 8 := ⟨moX8_fault, List.mem_filter.mpr ⟨List.mem_of_getElem? (i := 293) (by decide +kernel), by decide +kernel⟩, List.mem_filter.mpr ⟨List.mem_of_getElem? (i := 294) (by decide +kernel), by decide +kernel⟩, TX8, 13, rfl⟩
abbrev mX6_readInto : MI := (yX6_readInto, cX6_readInto, 3, some (FieldType.int))
theorem moX6_readInto : MOk mX6_readInto 1 := ⟨List.mem_filter.mpr ⟨List.mem_of_getElem? (i := 299) (by decide +kernel), by decide +kernel⟩, List.mem_filter.mpr ⟨List.mem_of_getElem? (i := 43) (by decide +kernel), by decide +kernel⟩, ⟨by decide +kernel, by decide +kernel⟩, by decide +kernel, by decide⟩
theorem mvX6_readInto : MV mX6_readInto 1 6 := ⟨moX6_readInto, List.mem_filter.mpr ⟨List.mem_of_getElem? (i := 297) (by decide +kernel), by decide +kernel⟩, List.mem_filter.mpr ⟨List.mem_of_getElem? (i := 298) (by decide +kernel), by decide +kernel⟩, TX6, 2, rfl⟩
abbrev mX1_begin : MI := (yX1_begin, cX1_begin, 1, none)
theorem moX1_begin : MOk mX1_begin 0 := ⟨List.mem_filter.mpr ⟨List.mem_of_getElem? (i := 303) (by decide +kernel), by decide +kernel⟩, List.mem_filter.mpr ⟨List.mem_of_getElem? (i := 44) (by decide +kernel), by decide +kernel⟩, ⟨by decide +kernel, by decide +kernel⟩, by decide +kernel, by decide⟩
theorem mvX1_begin : MV mX1_begin 0 1 := ⟨moX1_begin, List.mem_filter.mpr ⟨List.mem_of_getElem? (i := 301) (by decide +kernel), by decide +kernel⟩, List.mem_filter.mpr ⟨List.mem_of_getElem? (i := 302) (by decide +kernel), by decide +kernel⟩, TX1, 9, rfl⟩
abbrev mX1_take : MI := (yX1_take, cX1_take, 2, some (FieldType.boolean))
theorem moX1_take : MOk mX1_take 1 := ⟨List.mem_filter.mpr ⟨List.mem_of_getElem? (i := 307) (by decide +kernel), by decide +kernel⟩, List.mem_filter.mpr ⟨List.mem_of_getElem? (i := 44) (by decide +kernel), by decide +kernel⟩, ⟨by decide +kernel, by decide +kernel⟩, by decide +kernel, by decide⟩
theorem mvX1_take : MV mX1_take 1 1 := ⟨moX1_take, List.mem_filter.mpr ⟨List.mem_of_getElem? (i := 305) (by decide +kernel), by decide +kernel⟩, List.mem_filter.mpr ⟨List.mem_of_getElem? (i := 306) (by decide +kernel), by decide +kernel⟩, TX1, 9, rfl⟩
abbrev mX1_takeStart : MI := (yX1_takeStart, cX1_takeStart, 2, some (FieldType.boolean))
theorem moX1_takeStart : MOk mX1_takeStart 1 := ⟨List.mem_filter.mpr ⟨List.mem_of_getElem? (i := 311) (by decide +kernel), by decide +kernel⟩, List.mem_filter.mpr ⟨List.mem_of_getElem? (i := 44) (by decide +kernel), by decide +kernel⟩, ⟨by decide +kernel, by decide +kernel⟩, by decide +kernel, by decide⟩
theorem mvX1_takeStart : MV mX1_takeStart 1 1 := ⟨moX1_takeStart, List.mem_filter.mpr ⟨List.mem_of_getElem? (i := 310) (by decide +kernel), by decide +kernel⟩, List.mem_filter.mpr ⟨List.mem_of_getElem? (i := 0) (by decide +kernel), by decide +kernel⟩, TX1, 9, rfl⟩
abbrev mX1_takeThing : MI := (yX1_takeThing, cX1_takeThing, 2, some (FieldType.boolean))
theorem moX1_takeThing : MOk mX1_takeThing 1 := ⟨List.mem_filter.mpr ⟨List.mem_of_getElem? (i := 315) (by decide +kernel), by decide +kernel⟩, List.mem_filter.mpr ⟨List.mem_of_getElem? (i := 44) (by decide +kernel), by decide +kernel⟩, ⟨by decide +kernel, by decide +kernel⟩, by decide +kernel, by decide⟩
theorem mvX1_takeThing : MV mX1_takeThing 1 1 := ⟨moX1_takeThing, List.mem_filter.mpr ⟨List.mem_of_getElem? (i := 314) (by decide +kernel), by decide +kernel⟩, List.mem_filter.mpr ⟨List.mem_of_getElem? (i := 1) (by decide +kernel), by decide +kernel⟩, TX1, 9, rfl⟩
abbrev mX1_takeKind : MI := (yX1_takeKind, cX1_takeKind, 2, some (FieldType.boolean))
theorem moX1_takeKind : MOk mX1_takeKind 1 := ⟨List.mem_filter.mpr ⟨List.mem_of_getElem? (i := 319) (by decide +kernel), by decide +kernel⟩, List.mem_filter.mpr ⟨List.mem_of_getElem? (i := 44) (by decide +kernel), by decide +kernel⟩, ⟨by decide +kernel, by decide +kernel⟩, by decide +kernel, by decide⟩
theorem mvX1_takeKind : MV mX1_takeKind 1 1 := ⟨moX1_takeKind, List.mem_filter.mpr ⟨List.mem_of_getElem? (i := 318) (by decide +kernel), by decide +kernel⟩, List.mem_filter.mpr ⟨List.mem_of_getElem? (i := 2) (by decide +kernel), by decide +kernel⟩, TX1, 9, rfl⟩
abbrev mX1_takeCell : MI := (yX1_takeCell, cX1_takeCell, 2, some (FieldType.boolean))
theorem moX1_takeCell : MOk mX1_takeCell 1 := ⟨List.mem_filter.mpr ⟨List.mem_of_getElem? (i := 323) (by decide +kernel), by decide +kernel⟩, List.mem_filter.mpr ⟨List.mem_of_getElem? (i := 44) (by decide +kernel), by decide +kernel⟩, ⟨by decide +kernel, by decide +kernel⟩, by decide +kernel, by decide⟩
theorem mvX1_takeCell : MV mX1_takeCell 1 1 := ⟨moX1_takeCell, List.mem_filter.mpr ⟨List.mem_of_getElem? (i := 322) (by decide +kernel), by decide +kernel⟩, List.mem_filter.mpr ⟨List.mem_of_getElem? (i := 3) (by decide +kernel), by decide +kernel⟩, TX1, 9, rfl⟩
abbrev mX1_takePart : MI := (yX1_takePart, cX1_takePart, 2, some (FieldType.boolean))
theorem moX1_takePart : MOk mX1_takePart 1 := ⟨List.mem_filter.mpr ⟨List.mem_of_getElem? (i := 327) (by decide +kernel), by decide +kernel⟩, List.mem_filter.mpr ⟨List.mem_of_getElem? (i := 44) (by decide +kernel), by decide +kernel⟩, ⟨by decide +kernel, by decide +kernel⟩, by decide +kernel, by decide⟩
theorem mvX1_takePart : MV mX1_takePart 1 1 := ⟨moX1_takePart, List.mem_filter.mpr ⟨List.mem_of_getElem? (i := 326) (by decide +kernel), by decide +kernel⟩, List.mem_filter.mpr ⟨List.mem_of_getElem? (i := 4) (by decide +kernel), by decide +kernel⟩, TX1, 9, rfl⟩
abbrev mX1_takeNeed : MI := (yX1_takeNeed, cX1_takeNeed, 2, some (FieldType.boolean))
theorem moX1_takeNeed : MOk mX1_takeNeed 1 := ⟨List.mem_filter.mpr ⟨List.mem_of_getElem? (i := 331) (by decide +kernel), by decide +kernel⟩, List.mem_filter.mpr ⟨List.mem_of_getElem? (i := 44) (by decide +kernel), by decide +kernel⟩, ⟨by decide +kernel, by decide +kernel⟩, by decide +kernel, by decide⟩
theorem mvX1_takeNeed : MV mX1_takeNeed 1 1 := ⟨moX1_takeNeed, List.mem_filter.mpr ⟨List.mem_of_getElem? (i := 330) (by decide +kernel), by decide +kernel⟩, List.mem_filter.mpr ⟨List.mem_of_getElem? (i := 5) (by decide +kernel), by decide +kernel⟩, TX1, 9, rfl⟩
abbrev mX1_isWhole : MI := (yX1_isWhole, cX1_isWhole, 1, some (FieldType.boolean))
theorem moX1_isWhole : MOk mX1_isWhole 0 := ⟨List.mem_filter.mpr ⟨List.mem_of_getElem? (i := 335) (by decide +kernel), by decide +kernel⟩, List.mem_filter.mpr ⟨List.mem_of_getElem? (i := 44) (by decide +kernel), by decide +kernel⟩, ⟨by decide +kernel, by decide +kernel⟩, by decide +kernel, by decide⟩
theorem mvX1_isWhole : MV mX1_isWhole 0 1 := ⟨moX1_isWhole, List.mem_filter.mpr ⟨List.mem_of_getElem? (i := 333) (by decide +kernel), by decide +kernel⟩, List.mem_filter.mpr ⟨List.mem_of_getElem? (i := 334) (by decide +kernel), by decide +kernel⟩, TX1, 9, rfl⟩
abbrev mX8_family : MI := (yX8_family, cX8_family, 2, some (FieldType.int))
theorem moX8_family : MOk mX8_family 0 := ⟨List.mem_filter.mpr ⟨List.mem_of_getElem? (i := 339) (by decide +kernel), by decide +kernel⟩, List.mem_filter.mpr ⟨List.mem_of_getElem? (i := 42) (by decide +kernel), by decide +kernel⟩, ⟨by decide +kernel, by decide +kernel⟩, by decide +kernel, by decide⟩
theorem mvX8_family : MV mX8_family 0 8 := ⟨moX8_family, List.mem_filter.mpr ⟨List.mem_of_getElem? (i := 337) (by decide +kernel), by decide +kernel⟩, List.mem_filter.mpr ⟨List.mem_of_getElem? (i := 338) (by decide +kernel), by decide +kernel⟩, TX8, 13, rfl⟩
abbrev mX4_begin : MI := (yX4_begin, cX4_begin, 1, none)
theorem moX4_begin : MOk mX4_begin 0 := ⟨List.mem_filter.mpr ⟨List.mem_of_getElem? (i := 343) (by decide +kernel), by decide +kernel⟩, List.mem_filter.mpr ⟨List.mem_of_getElem? (i := 45) (by decide +kernel), by decide +kernel⟩, ⟨by decide +kernel, by decide +kernel⟩, by decide +kernel, by decide⟩
theorem mvX4_begin : MV mX4_begin 0 4 := ⟨moX4_begin, List.mem_filter.mpr ⟨List.mem_of_getElem? (i := 341) (by decide +kernel), by decide +kernel⟩, List.mem_filter.mpr ⟨List.mem_of_getElem? (i := 342) (by decide +kernel), by decide +kernel⟩, TX4, 4, rfl⟩
abbrev mJ7_fill_53178 : MI := (yJ7_fill_53178, cJ7_fill_53178, 4, none)
theorem moJ7_fill_53178 : MOk mJ7_fill_53178 2 := ⟨List.mem_filter.mpr ⟨List.mem_of_getElem? (i := 349) (by decide +kernel), by decide +kernel⟩, List.mem_filter.mpr ⟨List.mem_of_getElem? (i := 53) (by decide +kernel), by decide +kernel⟩, ⟨by decide +kernel, by decide +kernel⟩, by decide +kernel, by decide⟩
theorem msJ7_fill_53178 : MS mJ7_fill_53178 2 := ⟨moJ7_fill_53178, List.mem_filter.mpr ⟨List.mem_of_getElem? (i := 348) (by decide +kernel), by decide +kernel⟩⟩
abbrev mX0_forget : MI := (yX0_forget, cX0_forget, 1, none)
theorem moX0_forget : MOk mX0_forget 0 := ⟨List.mem_filter.mpr ⟨List.mem_of_getElem? (i := 353) (by decide +kernel), by decide +kernel⟩, List.mem_filter.mpr ⟨List.mem_of_getElem? (i := 46) (by decide +kernel), by decide +kernel⟩, ⟨by decide +kernel, by decide +kernel⟩, by decide +kernel, by decide⟩
theorem mvX0_forget : MV mX0_forget 0 0 := ⟨moX0_forget, List.mem_filter.mpr ⟨List.mem_of_getElem? (i := 351) (by decide +kernel), by decide +kernel⟩, List.mem_filter.mpr ⟨List.mem_of_getElem? (i := 352) (by decide +kernel), by decide +kernel⟩, TX0, 4, rfl⟩
abbrev mX8_about : MI := (yX8_about, cX8_about, 2, some (FieldType.int))
theorem moX8_about : MOk mX8_about 1 := ⟨List.mem_filter.mpr ⟨List.mem_of_getElem? (i := 357) (by decide +kernel), by decide +kernel⟩, List.mem_filter.mpr ⟨List.mem_of_getElem? (i := 42) (by decide +kernel), by decide +kernel⟩, ⟨by decide +kernel, by decide +kernel⟩, by decide +kernel, by decide⟩
theorem mvX8_about : MV mX8_about 1 8 := ⟨moX8_about, List.mem_filter.mpr ⟨List.mem_of_getElem? (i := 355) (by decide +kernel), by decide +kernel⟩, List.mem_filter.mpr ⟨List.mem_of_getElem? (i := 356) (by decide +kernel), by decide +kernel⟩, TX8, 13, rfl⟩
abbrev mX4_wireNumber : MI := (yX4_wireNumber, cX4_wireNumber, 1, some (FieldType.int))
theorem moX4_wireNumber : MOk mX4_wireNumber 0 := ⟨List.mem_filter.mpr ⟨List.mem_of_getElem? (i := 361) (by decide +kernel), by decide +kernel⟩, List.mem_filter.mpr ⟨List.mem_of_getElem? (i := 45) (by decide +kernel), by decide +kernel⟩, ⟨by decide +kernel, by decide +kernel⟩, by decide +kernel, by decide⟩
theorem mvX4_wireNumber : MV mX4_wireNumber 0 4 := ⟨moX4_wireNumber, List.mem_filter.mpr ⟨List.mem_of_getElem? (i := 359) (by decide +kernel), by decide +kernel⟩, List.mem_filter.mpr ⟨List.mem_of_getElem? (i := 360) (by decide +kernel), by decide +kernel⟩, TX4, 4, rfl⟩
abbrev mX8_figuresOf : MI := (yX8_figuresOf, cX8_figuresOf, 4, some (FieldType.int))
theorem moX8_figuresOf : MOk mX8_figuresOf 2 := ⟨List.mem_filter.mpr ⟨List.mem_of_getElem? (i := 364) (by decide +kernel), by decide +kernel⟩, List.mem_filter.mpr ⟨List.mem_of_getElem? (i := 42) (by decide +kernel), by decide +kernel⟩, ⟨by decide +kernel, by decide +kernel⟩, by decide +kernel, by decide⟩
theorem msX8_figuresOf : MS mX8_figuresOf 2 := ⟨moX8_figuresOf, List.mem_filter.mpr ⟨List.mem_of_getElem? (i := 363) (by decide +kernel), by decide +kernel⟩⟩
abbrev mX4_slipCount : MI := (yX4_slipCount, cX4_slipCount, 3, some (FieldType.int))
theorem moX4_slipCount : MOk mX4_slipCount 0 := ⟨List.mem_filter.mpr ⟨List.mem_of_getElem? (i := 368) (by decide +kernel), by decide +kernel⟩, List.mem_filter.mpr ⟨List.mem_of_getElem? (i := 45) (by decide +kernel), by decide +kernel⟩, ⟨by decide +kernel, by decide +kernel⟩, by decide +kernel, by decide⟩
theorem mvX4_slipCount : MV mX4_slipCount 0 4 := ⟨moX4_slipCount, List.mem_filter.mpr ⟨List.mem_of_getElem? (i := 366) (by decide +kernel), by decide +kernel⟩, List.mem_filter.mpr ⟨List.mem_of_getElem? (i := 367) (by decide +kernel), by decide +kernel⟩, TX4, 4, rfl⟩
abbrev mX8_talliedNow : MI := (yX8_talliedNow, cX8_talliedNow, 1, some ((FieldType.object "WireFamily$Tally")))
theorem moX8_talliedNow : MOk mX8_talliedNow 0 := ⟨List.mem_filter.mpr ⟨List.mem_of_getElem? (i := 372) (by decide +kernel), by decide +kernel⟩, List.mem_filter.mpr ⟨List.mem_of_getElem? (i := 42) (by decide +kernel), by decide +kernel⟩, ⟨by decide +kernel, by decide +kernel⟩, by decide +kernel, by decide⟩
theorem mvX8_talliedNow : MV mX8_talliedNow 0 8 := ⟨moX8_talliedNow, List.mem_filter.mpr ⟨List.mem_of_getElem? (i := 371) (by decide +kernel), by decide +kernel⟩, List.mem_filter.mpr ⟨List.mem_of_getElem? (i := 6) (by decide +kernel), by decide +kernel⟩, TX8, 13, rfl⟩
abbrev mX5_take : MI := (yX5_take, cX5_take, 7, none)
theorem moX5_take : MOk mX5_take 2 := ⟨List.mem_filter.mpr ⟨List.mem_of_getElem? (i := 376) (by decide +kernel), by decide +kernel⟩, List.mem_filter.mpr ⟨List.mem_of_getElem? (i := 47) (by decide +kernel), by decide +kernel⟩, ⟨by decide +kernel, by decide +kernel⟩, by decide +kernel, by decide⟩
theorem mvX5_take : MV mX5_take 2 5 := ⟨moX5_take, List.mem_filter.mpr ⟨List.mem_of_getElem? (i := 374) (by decide +kernel), by decide +kernel⟩, List.mem_filter.mpr ⟨List.mem_of_getElem? (i := 375) (by decide +kernel), by decide +kernel⟩, TX5, 3, rfl⟩
abbrev mX5_countCells : MI := (yX5_countCells, cX5_countCells, 6, none)
theorem moX5_countCells : MOk mX5_countCells 2 := ⟨List.mem_filter.mpr ⟨List.mem_of_getElem? (i := 380) (by decide +kernel), by decide +kernel⟩, List.mem_filter.mpr ⟨List.mem_of_getElem? (i := 47) (by decide +kernel), by decide +kernel⟩, ⟨by decide +kernel, by decide +kernel⟩, by decide +kernel, by decide⟩
theorem mvX5_countCells : MV mX5_countCells 2 5 := ⟨moX5_countCells, List.mem_filter.mpr ⟨List.mem_of_getElem? (i := 379) (by decide +kernel), by decide +kernel⟩, List.mem_filter.mpr ⟨List.mem_of_getElem? (i := 7) (by decide +kernel), by decide +kernel⟩, TX5, 3, rfl⟩
abbrev mX8_halfOf : MI := (yX8_halfOf, cX8_halfOf, 2, some (FieldType.int))
theorem moX8_halfOf : MOk mX8_halfOf 2 := ⟨List.mem_filter.mpr ⟨List.mem_of_getElem? (i := 384) (by decide +kernel), by decide +kernel⟩, List.mem_filter.mpr ⟨List.mem_of_getElem? (i := 42) (by decide +kernel), by decide +kernel⟩, ⟨by decide +kernel, by decide +kernel⟩, by decide +kernel, by decide⟩
theorem msX8_halfOf : MS mX8_halfOf 2 := ⟨moX8_halfOf, List.mem_filter.mpr ⟨List.mem_of_getElem? (i := 383) (by decide +kernel), by decide +kernel⟩⟩
abbrev mX8_kinOf : MI := (yX8_kinOf, cX8_kinOf, 1, some (FieldType.int))
theorem moX8_kinOf : MOk mX8_kinOf 1 := ⟨List.mem_filter.mpr ⟨List.mem_of_getElem? (i := 387) (by decide +kernel), by decide +kernel⟩, List.mem_filter.mpr ⟨List.mem_of_getElem? (i := 42) (by decide +kernel), by decide +kernel⟩, ⟨by decide +kernel, by decide +kernel⟩, by decide +kernel, by decide⟩
theorem msX8_kinOf : MS mX8_kinOf 1 := ⟨moX8_kinOf, List.mem_filter.mpr ⟨List.mem_of_getElem? (i := 386) (by decide +kernel), by decide +kernel⟩⟩
abbrev mX5_halvesFor : MI := (yX5_halvesFor, cX5_halvesFor, 5, some (FieldType.int))
theorem moX5_halvesFor : MOk mX5_halvesFor 2 := ⟨List.mem_filter.mpr ⟨List.mem_of_getElem? (i := 391) (by decide +kernel), by decide +kernel⟩, List.mem_filter.mpr ⟨List.mem_of_getElem? (i := 47) (by decide +kernel), by decide +kernel⟩, ⟨by decide +kernel, by decide +kernel⟩, by decide +kernel, by decide⟩
theorem mvX5_halvesFor : MV mX5_halvesFor 2 5 := ⟨moX5_halvesFor, List.mem_filter.mpr ⟨List.mem_of_getElem? (i := 389) (by decide +kernel), by decide +kernel⟩, List.mem_filter.mpr ⟨List.mem_of_getElem? (i := 390) (by decide +kernel), by decide +kernel⟩, TX5, 3, rfl⟩
abbrev mX8_partOf : MI := (yX8_partOf, cX8_partOf, 1, some (FieldType.int))
theorem moX8_partOf : MOk mX8_partOf 1 := ⟨List.mem_filter.mpr ⟨List.mem_of_getElem? (i := 394) (by decide +kernel), by decide +kernel⟩, List.mem_filter.mpr ⟨List.mem_of_getElem? (i := 42) (by decide +kernel), by decide +kernel⟩, ⟨by decide +kernel, by decide +kernel⟩, by decide +kernel, by decide⟩
theorem msX8_partOf : MS mX8_partOf 1 := ⟨moX8_partOf, List.mem_filter.mpr ⟨List.mem_of_getElem? (i := 393) (by decide +kernel), by decide +kernel⟩⟩
abbrev mX5_isParted : MI := (yX5_isParted, cX5_isParted, 2, some (FieldType.boolean))
theorem moX5_isParted : MOk mX5_isParted 1 := ⟨List.mem_filter.mpr ⟨List.mem_of_getElem? (i := 398) (by decide +kernel), by decide +kernel⟩, List.mem_filter.mpr ⟨List.mem_of_getElem? (i := 47) (by decide +kernel), by decide +kernel⟩, ⟨by decide +kernel, by decide +kernel⟩, by decide +kernel, by decide⟩
theorem mvX5_isParted : MV mX5_isParted 1 5 := ⟨moX5_isParted, List.mem_filter.mpr ⟨List.mem_of_getElem? (i := 396) (by decide +kernel), by decide +kernel⟩, List.mem_filter.mpr ⟨List.mem_of_getElem? (i := 397) (by decide +kernel), by decide +kernel⟩, TX5, 3, rfl⟩
abbrev mX5_cellsIn : MI := (yX5_cellsIn, cX5_cellsIn, 3, some (FieldType.int))
theorem moX5_cellsIn : MOk mX5_cellsIn 2 := ⟨List.mem_filter.mpr ⟨List.mem_of_getElem? (i := 402) (by decide +kernel), by decide +kernel⟩, List.mem_filter.mpr ⟨List.mem_of_getElem? (i := 47) (by decide +kernel), by decide +kernel⟩, ⟨by decide +kernel, by decide +kernel⟩, by decide +kernel, by decide⟩
theorem mvX5_cellsIn : MV mX5_cellsIn 2 5 := ⟨moX5_cellsIn, List.mem_filter.mpr ⟨List.mem_of_getElem? (i := 400) (by decide +kernel), by decide +kernel⟩, List.mem_filter.mpr ⟨List.mem_of_getElem? (i := 401) (by decide +kernel), by decide +kernel⟩, TX5, 3, rfl⟩
abbrev mX5_partedBits : MI := (yX5_partedBits, cX5_partedBits, 3, some (FieldType.int))
theorem moX5_partedBits : MOk mX5_partedBits 0 := ⟨List.mem_filter.mpr ⟨List.mem_of_getElem? (i := 406) (by decide +kernel), by decide +kernel⟩, List.mem_filter.mpr ⟨List.mem_of_getElem? (i := 47) (by decide +kernel), by decide +kernel⟩, ⟨by decide +kernel, by decide +kernel⟩, by decide +kernel, by decide⟩
theorem mvX5_partedBits : MV mX5_partedBits 0 5 := ⟨moX5_partedBits, List.mem_filter.mpr ⟨List.mem_of_getElem? (i := 404) (by decide +kernel), by decide +kernel⟩, List.mem_filter.mpr ⟨List.mem_of_getElem? (i := 405) (by decide +kernel), by decide +kernel⟩, TX5, 3, rfl⟩
abbrev mX8_wireCount : MI := (yX8_wireCount, cX8_wireCount, 3, some (FieldType.int))
theorem moX8_wireCount : MOk mX8_wireCount 0 := ⟨List.mem_filter.mpr ⟨List.mem_of_getElem? (i := 410) (by decide +kernel), by decide +kernel⟩, List.mem_filter.mpr ⟨List.mem_of_getElem? (i := 42) (by decide +kernel), by decide +kernel⟩, ⟨by decide +kernel, by decide +kernel⟩, by decide +kernel, by decide⟩
theorem mvX8_wireCount : MV mX8_wireCount 0 8 := ⟨moX8_wireCount, List.mem_filter.mpr ⟨List.mem_of_getElem? (i := 409) (by decide +kernel), by decide +kernel⟩, List.mem_filter.mpr ⟨List.mem_of_getElem? (i := 8) (by decide +kernel), by decide +kernel⟩, TX8, 13, rfl⟩
abbrev mX7_begin : MI := (yX7_begin, cX7_begin, 2, none)
theorem moX7_begin : MOk mX7_begin 1 := ⟨List.mem_filter.mpr ⟨List.mem_of_getElem? (i := 414) (by decide +kernel), by decide +kernel⟩, List.mem_filter.mpr ⟨List.mem_of_getElem? (i := 49) (by decide +kernel), by decide +kernel⟩, ⟨by decide +kernel, by decide +kernel⟩, by decide +kernel, by decide⟩
theorem mvX7_begin : MV mX7_begin 1 7 := ⟨moX7_begin, List.mem_filter.mpr ⟨List.mem_of_getElem? (i := 412) (by decide +kernel), by decide +kernel⟩, List.mem_filter.mpr ⟨List.mem_of_getElem? (i := 413) (by decide +kernel), by decide +kernel⟩, TX7, 3, rfl⟩
abbrev mJ9_min_7cf53 : MI := (yJ9_min_7cf53, cJ9_min_7cf53, 2, some (FieldType.int))
theorem moJ9_min_7cf53 : MOk mJ9_min_7cf53 2 := ⟨List.mem_filter.mpr ⟨List.mem_of_getElem? (i := 417) (by decide +kernel), by decide +kernel⟩, List.mem_filter.mpr ⟨List.mem_of_getElem? (i := 54) (by decide +kernel), by decide +kernel⟩, ⟨by decide +kernel, by decide +kernel⟩, by decide +kernel, by decide⟩
theorem msJ9_min_7cf53 : MS mJ9_min_7cf53 2 := ⟨moJ9_min_7cf53, List.mem_filter.mpr ⟨List.mem_of_getElem? (i := 416) (by decide +kernel), by decide +kernel⟩⟩
abbrev mX7_advance : MI := (yX7_advance, cX7_advance, 2, none)
theorem moX7_advance : MOk mX7_advance 0 := ⟨List.mem_filter.mpr ⟨List.mem_of_getElem? (i := 422) (by decide +kernel), by decide +kernel⟩, List.mem_filter.mpr ⟨List.mem_of_getElem? (i := 49) (by decide +kernel), by decide +kernel⟩, ⟨by decide +kernel, by decide +kernel⟩, by decide +kernel, by decide⟩
theorem mvX7_advance : MV mX7_advance 0 7 := ⟨moX7_advance, List.mem_filter.mpr ⟨List.mem_of_getElem? (i := 420) (by decide +kernel), by decide +kernel⟩, List.mem_filter.mpr ⟨List.mem_of_getElem? (i := 421) (by decide +kernel), by decide +kernel⟩, TX7, 3, rfl⟩
abbrev mX7_putLeastBehind : MI := (yX7_putLeastBehind, cX7_putLeastBehind, 3, none)
theorem moX7_putLeastBehind : MOk mX7_putLeastBehind 1 := ⟨List.mem_filter.mpr ⟨List.mem_of_getElem? (i := 426) (by decide +kernel), by decide +kernel⟩, List.mem_filter.mpr ⟨List.mem_of_getElem? (i := 49) (by decide +kernel), by decide +kernel⟩, ⟨by decide +kernel, by decide +kernel⟩, by decide +kernel, by decide⟩
theorem mvX7_putLeastBehind : MV mX7_putLeastBehind 1 7 := ⟨moX7_putLeastBehind, List.mem_filter.mpr ⟨List.mem_of_getElem? (i := 425) (by decide +kernel), by decide +kernel⟩, List.mem_filter.mpr ⟨List.mem_of_getElem? (i := 9) (by decide +kernel), by decide +kernel⟩, TX7, 3, rfl⟩
abbrev mJ9_max_7cf53 : MI := (yJ9_max_7cf53, cJ9_max_7cf53, 2, some (FieldType.int))
theorem moJ9_max_7cf53 : MOk mJ9_max_7cf53 2 := ⟨List.mem_filter.mpr ⟨List.mem_of_getElem? (i := 429) (by decide +kernel), by decide +kernel⟩, List.mem_filter.mpr ⟨List.mem_of_getElem? (i := 54) (by decide +kernel), by decide +kernel⟩, ⟨by decide +kernel, by decide +kernel⟩, by decide +kernel, by decide⟩
theorem msJ9_max_7cf53 : MS mJ9_max_7cf53 2 := ⟨moJ9_max_7cf53, List.mem_filter.mpr ⟨List.mem_of_getElem? (i := 428) (by decide +kernel), by decide +kernel⟩⟩
abbrev mX8_cell : MI := (yX8_cell, cX8_cell, 6, some (FieldType.int))
theorem moX8_cell : MOk mX8_cell 3 := ⟨List.mem_filter.mpr ⟨List.mem_of_getElem? (i := 433) (by decide +kernel), by decide +kernel⟩, List.mem_filter.mpr ⟨List.mem_of_getElem? (i := 42) (by decide +kernel), by decide +kernel⟩, ⟨by decide +kernel, by decide +kernel⟩, by decide +kernel, by decide⟩
theorem mvX8_cell : MV mX8_cell 3 8 := ⟨moX8_cell, List.mem_filter.mpr ⟨List.mem_of_getElem? (i := 431) (by decide +kernel), by decide +kernel⟩, List.mem_filter.mpr ⟨List.mem_of_getElem? (i := 432) (by decide +kernel), by decide +kernel⟩, TX8, 13, rfl⟩
abbrev mX8_isRow : MI := (yX8_isRow, cX8_isRow, 2, some (FieldType.boolean))
theorem moX8_isRow : MOk mX8_isRow 1 := ⟨List.mem_filter.mpr ⟨List.mem_of_getElem? (i := 437) (by decide +kernel), by decide +kernel⟩, List.mem_filter.mpr ⟨List.mem_of_getElem? (i := 42) (by decide +kernel), by decide +kernel⟩, ⟨by decide +kernel, by decide +kernel⟩, by decide +kernel, by decide⟩
theorem mvX8_isRow : MV mX8_isRow 1 8 := ⟨moX8_isRow, List.mem_filter.mpr ⟨List.mem_of_getElem? (i := 436) (by decide +kernel), by decide +kernel⟩, List.mem_filter.mpr ⟨List.mem_of_getElem? (i := 10) (by decide +kernel), by decide +kernel⟩, TX8, 13, rfl⟩
abbrev mX8_kin : MI := (yX8_kin, cX8_kin, 3, some (FieldType.int))
theorem moX8_kin : MOk mX8_kin 2 := ⟨List.mem_filter.mpr ⟨List.mem_of_getElem? (i := 445) (by decide +kernel), by decide +kernel⟩, List.mem_filter.mpr ⟨List.mem_of_getElem? (i := 42) (by decide +kernel), by decide +kernel⟩, ⟨by decide +kernel, by decide +kernel⟩, by decide +kernel, by decide⟩
theorem mvX8_kin : MV mX8_kin 2 8 := ⟨moX8_kin, List.mem_filter.mpr ⟨List.mem_of_getElem? (i := 443) (by decide +kernel), by decide +kernel⟩, List.mem_filter.mpr ⟨List.mem_of_getElem? (i := 444) (by decide +kernel), by decide +kernel⟩, TX8, 13, rfl⟩
abbrev mX8_isKin : MI := (yX8_isKin, cX8_isKin, 2, some (FieldType.boolean))
theorem moX8_isKin : MOk mX8_isKin 1 := ⟨List.mem_filter.mpr ⟨List.mem_of_getElem? (i := 449) (by decide +kernel), by decide +kernel⟩, List.mem_filter.mpr ⟨List.mem_of_getElem? (i := 42) (by decide +kernel), by decide +kernel⟩, ⟨by decide +kernel, by decide +kernel⟩, by decide +kernel, by decide⟩
theorem mvX8_isKin : MV mX8_isKin 1 8 := ⟨moX8_isKin, List.mem_filter.mpr ⟨List.mem_of_getElem? (i := 448) (by decide +kernel), by decide +kernel⟩, List.mem_filter.mpr ⟨List.mem_of_getElem? (i := 11) (by decide +kernel), by decide +kernel⟩, TX8, 13, rfl⟩
abbrev mX5_countedOf : MI := (yX5_countedOf, cX5_countedOf, 5, some (FieldType.int))
theorem moX5_countedOf : MOk mX5_countedOf 2 := ⟨List.mem_filter.mpr ⟨List.mem_of_getElem? (i := 454) (by decide +kernel), by decide +kernel⟩, List.mem_filter.mpr ⟨List.mem_of_getElem? (i := 47) (by decide +kernel), by decide +kernel⟩, ⟨by decide +kernel, by decide +kernel⟩, by decide +kernel, by decide⟩
theorem mvX5_countedOf : MV mX5_countedOf 2 5 := ⟨moX5_countedOf, List.mem_filter.mpr ⟨List.mem_of_getElem? (i := 452) (by decide +kernel), by decide +kernel⟩, List.mem_filter.mpr ⟨List.mem_of_getElem? (i := 453) (by decide +kernel), by decide +kernel⟩, TX5, 3, rfl⟩
abbrev mX8_has : MI := (yX8_has, cX8_has, 3, some (FieldType.int))
theorem moX8_has : MOk mX8_has 2 := ⟨List.mem_filter.mpr ⟨List.mem_of_getElem? (i := 458) (by decide +kernel), by decide +kernel⟩, List.mem_filter.mpr ⟨List.mem_of_getElem? (i := 42) (by decide +kernel), by decide +kernel⟩, ⟨by decide +kernel, by decide +kernel⟩, by decide +kernel, by decide⟩
theorem mvX8_has : MV mX8_has 2 8 := ⟨moX8_has, List.mem_filter.mpr ⟨List.mem_of_getElem? (i := 456) (by decide +kernel), by decide +kernel⟩, List.mem_filter.mpr ⟨List.mem_of_getElem? (i := 457) (by decide +kernel), by decide +kernel⟩, TX8, 13, rfl⟩
abbrev mX8_isHalf : MI := (yX8_isHalf, cX8_isHalf, 1, some (FieldType.boolean))
theorem moX8_isHalf : MOk mX8_isHalf 1 := ⟨List.mem_filter.mpr ⟨List.mem_of_getElem? (i := 461) (by decide +kernel), by decide +kernel⟩, List.mem_filter.mpr ⟨List.mem_of_getElem? (i := 42) (by decide +kernel), by decide +kernel⟩, ⟨by decide +kernel, by decide +kernel⟩, by decide +kernel, by decide⟩
theorem msX8_isHalf : MS mX8_isHalf 1 := ⟨moX8_isHalf, List.mem_filter.mpr ⟨List.mem_of_getElem? (i := 460) (by decide +kernel), by decide +kernel⟩⟩
abbrev mX5_counted : MI := (yX5_counted, cX5_counted, 6, some (FieldType.int))
theorem moX5_counted : MOk mX5_counted 3 := ⟨List.mem_filter.mpr ⟨List.mem_of_getElem? (i := 465) (by decide +kernel), by decide +kernel⟩, List.mem_filter.mpr ⟨List.mem_of_getElem? (i := 47) (by decide +kernel), by decide +kernel⟩, ⟨by decide +kernel, by decide +kernel⟩, by decide +kernel, by decide⟩
theorem mvX5_counted : MV mX5_counted 3 5 := ⟨moX5_counted, List.mem_filter.mpr ⟨List.mem_of_getElem? (i := 463) (by decide +kernel), by decide +kernel⟩, List.mem_filter.mpr ⟨List.mem_of_getElem? (i := 464) (by decide +kernel), by decide +kernel⟩, TX5, 3, rfl⟩
abbrev mX8_can : MI := (yX8_can, cX8_can, 2, some (FieldType.int))
theorem moX8_can : MOk mX8_can 1 := ⟨List.mem_filter.mpr ⟨List.mem_of_getElem? (i := 469) (by decide +kernel), by decide +kernel⟩, List.mem_filter.mpr ⟨List.mem_of_getElem? (i := 42) (by decide +kernel), by decide +kernel⟩, ⟨by decide +kernel, by decide +kernel⟩, by decide +kernel, by decide⟩
theorem mvX8_can : MV mX8_can 1 8 := ⟨moX8_can, List.mem_filter.mpr ⟨List.mem_of_getElem? (i := 467) (by decide +kernel), by decide +kernel⟩, List.mem_filter.mpr ⟨List.mem_of_getElem? (i := 468) (by decide +kernel), by decide +kernel⟩, TX8, 13, rfl⟩
abbrev mX5_deedBits : MI := (yX5_deedBits, cX5_deedBits, 5, some (FieldType.int))
theorem moX5_deedBits : MOk mX5_deedBits 2 := ⟨List.mem_filter.mpr ⟨List.mem_of_getElem? (i := 473) (by decide +kernel), by decide +kernel⟩, List.mem_filter.mpr ⟨List.mem_of_getElem? (i := 47) (by decide +kernel), by decide +kernel⟩, ⟨by decide +kernel, by decide +kernel⟩, by decide +kernel, by decide⟩
theorem mvX5_deedBits : MV mX5_deedBits 2 5 := ⟨moX5_deedBits, List.mem_filter.mpr ⟨List.mem_of_getElem? (i := 471) (by decide +kernel), by decide +kernel⟩, List.mem_filter.mpr ⟨List.mem_of_getElem? (i := 472) (by decide +kernel), by decide +kernel⟩, TX5, 3, rfl⟩
abbrev mX5_isDone : MI := (yX5_isDone, cX5_isDone, 4, some (FieldType.boolean))
theorem moX5_isDone : MOk mX5_isDone 3 := ⟨List.mem_filter.mpr ⟨List.mem_of_getElem? (i := 477) (by decide +kernel), by decide +kernel⟩, List.mem_filter.mpr ⟨List.mem_of_getElem? (i := 47) (by decide +kernel), by decide +kernel⟩, ⟨by decide +kernel, by decide +kernel⟩, by decide +kernel, by decide⟩
theorem mvX5_isDone : MV mX5_isDone 3 5 := ⟨moX5_isDone, List.mem_filter.mpr ⟨List.mem_of_getElem? (i := 475) (by decide +kernel), by decide +kernel⟩, List.mem_filter.mpr ⟨List.mem_of_getElem? (i := 476) (by decide +kernel), by decide +kernel⟩, TX5, 3, rfl⟩
abbrev mX8_draw : MI := (yX8_draw, cX8_draw, 4, some (FieldType.int))
theorem moX8_draw : MOk mX8_draw 2 := ⟨List.mem_filter.mpr ⟨List.mem_of_getElem? (i := 482) (by decide +kernel), by decide +kernel⟩, List.mem_filter.mpr ⟨List.mem_of_getElem? (i := 42) (by decide +kernel), by decide +kernel⟩, ⟨by decide +kernel, by decide +kernel⟩, by decide +kernel, by decide⟩
theorem mvX8_draw : MV mX8_draw 2 8 := ⟨moX8_draw, List.mem_filter.mpr ⟨List.mem_of_getElem? (i := 480) (by decide +kernel), by decide +kernel⟩, List.mem_filter.mpr ⟨List.mem_of_getElem? (i := 481) (by decide +kernel), by decide +kernel⟩, TX8, 13, rfl⟩
abbrev mX4_moveWire : MI := (yX4_moveWire, cX4_moveWire, 4, some (FieldType.boolean))
theorem moX4_moveWire : MOk mX4_moveWire 2 := ⟨List.mem_filter.mpr ⟨List.mem_of_getElem? (i := 486) (by decide +kernel), by decide +kernel⟩, List.mem_filter.mpr ⟨List.mem_of_getElem? (i := 45) (by decide +kernel), by decide +kernel⟩, ⟨by decide +kernel, by decide +kernel⟩, by decide +kernel, by decide⟩
theorem mvX4_moveWire : MV mX4_moveWire 2 4 := ⟨moX4_moveWire, List.mem_filter.mpr ⟨List.mem_of_getElem? (i := 484) (by decide +kernel), by decide +kernel⟩, List.mem_filter.mpr ⟨List.mem_of_getElem? (i := 485) (by decide +kernel), by decide +kernel⟩, TX4, 4, rfl⟩
abbrev mX4_isNear : MI := (yX4_isNear, cX4_isNear, 3, some (FieldType.boolean))
theorem moX4_isNear : MOk mX4_isNear 2 := ⟨List.mem_filter.mpr ⟨List.mem_of_getElem? (i := 490) (by decide +kernel), by decide +kernel⟩, List.mem_filter.mpr ⟨List.mem_of_getElem? (i := 45) (by decide +kernel), by decide +kernel⟩, ⟨by decide +kernel, by decide +kernel⟩, by decide +kernel, by decide⟩
theorem mvX4_isNear : MV mX4_isNear 2 4 := ⟨moX4_isNear, List.mem_filter.mpr ⟨List.mem_of_getElem? (i := 489) (by decide +kernel), by decide +kernel⟩, List.mem_filter.mpr ⟨List.mem_of_getElem? (i := 12) (by decide +kernel), by decide +kernel⟩, TX4, 4, rfl⟩
abbrev mJ9_abs_0f7a4 : MI := (yJ9_abs_0f7a4, cJ9_abs_0f7a4, 1, some (FieldType.int))
theorem moJ9_abs_0f7a4 : MOk mJ9_abs_0f7a4 1 := ⟨List.mem_filter.mpr ⟨List.mem_of_getElem? (i := 493) (by decide +kernel), by decide +kernel⟩, List.mem_filter.mpr ⟨List.mem_of_getElem? (i := 54) (by decide +kernel), by decide +kernel⟩, ⟨by decide +kernel, by decide +kernel⟩, by decide +kernel, by decide⟩
theorem msJ9_abs_0f7a4 : MS mJ9_abs_0f7a4 1 := ⟨moJ9_abs_0f7a4, List.mem_filter.mpr ⟨List.mem_of_getElem? (i := 492) (by decide +kernel), by decide +kernel⟩⟩
abbrev mX0_note : MI := (yX0_note, cX0_note, 4, none)
theorem moX0_note : MOk mX0_note 3 := ⟨List.mem_filter.mpr ⟨List.mem_of_getElem? (i := 497) (by decide +kernel), by decide +kernel⟩, List.mem_filter.mpr ⟨List.mem_of_getElem? (i := 46) (by decide +kernel), by decide +kernel⟩, ⟨by decide +kernel, by decide +kernel⟩, by decide +kernel, by decide⟩
theorem mvX0_note : MV mX0_note 3 0 := ⟨moX0_note, List.mem_filter.mpr ⟨List.mem_of_getElem? (i := 495) (by decide +kernel), by decide +kernel⟩, List.mem_filter.mpr ⟨List.mem_of_getElem? (i := 496) (by decide +kernel), by decide +kernel⟩, TX0, 4, rfl⟩
abbrev mX0_forgetFirst : MI := (yX0_forgetFirst, cX0_forgetFirst, 1, none)
theorem moX0_forgetFirst : MOk mX0_forgetFirst 0 := ⟨List.mem_filter.mpr ⟨List.mem_of_getElem? (i := 501) (by decide +kernel), by decide +kernel⟩, List.mem_filter.mpr ⟨List.mem_of_getElem? (i := 46) (by decide +kernel), by decide +kernel⟩, ⟨by decide +kernel, by decide +kernel⟩, by decide +kernel, by decide⟩
theorem mvX0_forgetFirst : MV mX0_forgetFirst 0 0 := ⟨moX0_forgetFirst, List.mem_filter.mpr ⟨List.mem_of_getElem? (i := 500) (by decide +kernel), by decide +kernel⟩, List.mem_filter.mpr ⟨List.mem_of_getElem? (i := 13) (by decide +kernel), by decide +kernel⟩, TX0, 4, rfl⟩
abbrev mX8_change : MI := (yX8_change, cX8_change, 2, some (FieldType.int))
theorem moX8_change : MOk mX8_change 1 := ⟨List.mem_filter.mpr ⟨List.mem_of_getElem? (i := 506) (by decide +kernel), by decide +kernel⟩, List.mem_filter.mpr ⟨List.mem_of_getElem? (i := 42) (by decide +kernel), by decide +kernel⟩, ⟨by decide +kernel, by decide +kernel⟩, by decide +kernel, by decide⟩
theorem mvX8_change : MV mX8_change 1 8 := ⟨moX8_change, List.mem_filter.mpr ⟨List.mem_of_getElem? (i := 504) (by decide +kernel), by decide +kernel⟩, List.mem_filter.mpr ⟨List.mem_of_getElem? (i := 505) (by decide +kernel), by decide +kernel⟩, TX8, 13, rfl⟩
abbrev mX4_swapAtWire : MI := (yX4_swapAtWire, cX4_swapAtWire, 4, some (FieldType.boolean))
theorem moX4_swapAtWire : MOk mX4_swapAtWire 1 := ⟨List.mem_filter.mpr ⟨List.mem_of_getElem? (i := 510) (by decide +kernel), by decide +kernel⟩, List.mem_filter.mpr ⟨List.mem_of_getElem? (i := 45) (by decide +kernel), by decide +kernel⟩, ⟨by decide +kernel, by decide +kernel⟩, by decide +kernel, by decide⟩
theorem mvX4_swapAtWire : MV mX4_swapAtWire 1 4 := ⟨moX4_swapAtWire, List.mem_filter.mpr ⟨List.mem_of_getElem? (i := 508) (by decide +kernel), by decide +kernel⟩, List.mem_filter.mpr ⟨List.mem_of_getElem? (i := 509) (by decide +kernel), by decide +kernel⟩, TX4, 4, rfl⟩
abbrev mX8_join : MI := (yX8_join, cX8_join, 1, some (FieldType.int))
theorem moX8_join : MOk mX8_join 0 := ⟨List.mem_filter.mpr ⟨List.mem_of_getElem? (i := 514) (by decide +kernel), by decide +kernel⟩, List.mem_filter.mpr ⟨List.mem_of_getElem? (i := 42) (by decide +kernel), by decide +kernel⟩, ⟨by decide +kernel, by decide +kernel⟩, by decide +kernel, by decide⟩
theorem mvX8_join : MV mX8_join 0 8 := ⟨moX8_join, List.mem_filter.mpr ⟨List.mem_of_getElem? (i := 512) (by decide +kernel), by decide +kernel⟩, List.mem_filter.mpr ⟨List.mem_of_getElem? (i := 513) (by decide +kernel), by decide +kernel⟩, TX8, 13, rfl⟩
abbrev mX4_joinFaces : MI := (yX4_joinFaces, cX4_joinFaces, 1, none)
theorem moX4_joinFaces : MOk mX4_joinFaces 0 := ⟨List.mem_filter.mpr ⟨List.mem_of_getElem? (i := 518) (by decide +kernel), by decide +kernel⟩, List.mem_filter.mpr ⟨List.mem_of_getElem? (i := 45) (by decide +kernel), by decide +kernel⟩, ⟨by decide +kernel, by decide +kernel⟩, by decide +kernel, by decide⟩
theorem mvX4_joinFaces : MV mX4_joinFaces 0 4 := ⟨moX4_joinFaces, List.mem_filter.mpr ⟨List.mem_of_getElem? (i := 516) (by decide +kernel), by decide +kernel⟩, List.mem_filter.mpr ⟨List.mem_of_getElem? (i := 517) (by decide +kernel), by decide +kernel⟩, TX4, 4, rfl⟩
abbrev mX8_undo : MI := (yX8_undo, cX8_undo, 1, some (FieldType.int))
theorem moX8_undo : MOk mX8_undo 0 := ⟨List.mem_filter.mpr ⟨List.mem_of_getElem? (i := 523) (by decide +kernel), by decide +kernel⟩, List.mem_filter.mpr ⟨List.mem_of_getElem? (i := 42) (by decide +kernel), by decide +kernel⟩, ⟨by decide +kernel, by decide +kernel⟩, by decide +kernel, by decide⟩
theorem mvX8_undo : MV mX8_undo 0 8 := ⟨moX8_undo, List.mem_filter.mpr ⟨List.mem_of_getElem? (i := 521) (by decide +kernel), by decide +kernel⟩, List.mem_filter.mpr ⟨List.mem_of_getElem? (i := 522) (by decide +kernel), by decide +kernel⟩, TX8, 13, rfl⟩
abbrev mX0_takeBack : MI := (yX0_takeBack, cX0_takeBack, 2, none)
theorem moX0_takeBack : MOk mX0_takeBack 1 := ⟨List.mem_filter.mpr ⟨List.mem_of_getElem? (i := 527) (by decide +kernel), by decide +kernel⟩, List.mem_filter.mpr ⟨List.mem_of_getElem? (i := 46) (by decide +kernel), by decide +kernel⟩, ⟨by decide +kernel, by decide +kernel⟩, by decide +kernel, by decide⟩
theorem mvX0_takeBack : MV mX0_takeBack 1 0 := ⟨moX0_takeBack, List.mem_filter.mpr ⟨List.mem_of_getElem? (i := 525) (by decide +kernel), by decide +kernel⟩, List.mem_filter.mpr ⟨List.mem_of_getElem? (i := 526) (by decide +kernel), by decide +kernel⟩, TX0, 4, rfl⟩
abbrev mX4_setWire : MI := (yX4_setWire, cX4_setWire, 4, none)
theorem moX4_setWire : MOk mX4_setWire 1 := ⟨List.mem_filter.mpr ⟨List.mem_of_getElem? (i := 531) (by decide +kernel), by decide +kernel⟩, List.mem_filter.mpr ⟨List.mem_of_getElem? (i := 45) (by decide +kernel), by decide +kernel⟩, ⟨by decide +kernel, by decide +kernel⟩, by decide +kernel, by decide⟩
theorem mvX4_setWire : MV mX4_setWire 1 4 := ⟨moX4_setWire, List.mem_filter.mpr ⟨List.mem_of_getElem? (i := 529) (by decide +kernel), by decide +kernel⟩, List.mem_filter.mpr ⟨List.mem_of_getElem? (i := 530) (by decide +kernel), by decide +kernel⟩, TX4, 4, rfl⟩
abbrev mX8_best : MI := (yX8_best, cX8_best, 5, some (FieldType.int))
theorem moX8_best : MOk mX8_best 1 := ⟨List.mem_filter.mpr ⟨List.mem_of_getElem? (i := 536) (by decide +kernel), by decide +kernel⟩, List.mem_filter.mpr ⟨List.mem_of_getElem? (i := 42) (by decide +kernel), by decide +kernel⟩, ⟨by decide +kernel, by decide +kernel⟩, by decide +kernel, by decide⟩
theorem mvX8_best : MV mX8_best 1 8 := ⟨moX8_best, List.mem_filter.mpr ⟨List.mem_of_getElem? (i := 534) (by decide +kernel), by decide +kernel⟩, List.mem_filter.mpr ⟨List.mem_of_getElem? (i := 535) (by decide +kernel), by decide +kernel⟩, TX8, 13, rfl⟩
abbrev mX2_begin : MI := (yX2_begin, cX2_begin, 1, none)
theorem moX2_begin : MOk mX2_begin 0 := ⟨List.mem_filter.mpr ⟨List.mem_of_getElem? (i := 540) (by decide +kernel), by decide +kernel⟩, List.mem_filter.mpr ⟨List.mem_of_getElem? (i := 50) (by decide +kernel), by decide +kernel⟩, ⟨by decide +kernel, by decide +kernel⟩, by decide +kernel, by decide⟩
theorem mvX2_begin : MV mX2_begin 0 2 := ⟨moX2_begin, List.mem_filter.mpr ⟨List.mem_of_getElem? (i := 538) (by decide +kernel), by decide +kernel⟩, List.mem_filter.mpr ⟨List.mem_of_getElem? (i := 539) (by decide +kernel), by decide +kernel⟩, TX2, 3, rfl⟩
abbrev mX5_deedCount : MI := (yX5_deedCount, cX5_deedCount, 2, some (FieldType.int))
theorem moX5_deedCount : MOk mX5_deedCount 1 := ⟨List.mem_filter.mpr ⟨List.mem_of_getElem? (i := 544) (by decide +kernel), by decide +kernel⟩, List.mem_filter.mpr ⟨List.mem_of_getElem? (i := 47) (by decide +kernel), by decide +kernel⟩, ⟨by decide +kernel, by decide +kernel⟩, by decide +kernel, by decide⟩
theorem mvX5_deedCount : MV mX5_deedCount 1 5 := ⟨moX5_deedCount, List.mem_filter.mpr ⟨List.mem_of_getElem? (i := 542) (by decide +kernel), by decide +kernel⟩, List.mem_filter.mpr ⟨List.mem_of_getElem? (i := 543) (by decide +kernel), by decide +kernel⟩, TX5, 3, rfl⟩
abbrev mJ6_bitCount_0f7a4 : MI := (yJ6_bitCount_0f7a4, cJ6_bitCount_0f7a4, 1, some (FieldType.int))
theorem moJ6_bitCount_0f7a4 : MOk mJ6_bitCount_0f7a4 1 := ⟨List.mem_filter.mpr ⟨List.mem_of_getElem? (i := 548) (by decide +kernel), by decide +kernel⟩, List.mem_filter.mpr ⟨List.mem_of_getElem? (i := 55) (by decide +kernel), by decide +kernel⟩, ⟨by decide +kernel, by decide +kernel⟩, by decide +kernel, by decide⟩
theorem msJ6_bitCount_0f7a4 : MS mJ6_bitCount_0f7a4 1 := ⟨moJ6_bitCount_0f7a4, List.mem_filter.mpr ⟨List.mem_of_getElem? (i := 547) (by decide +kernel), by decide +kernel⟩⟩
abbrev mX5_partedCount : MI := (yX5_partedCount, cX5_partedCount, 1, some (FieldType.int))
theorem moX5_partedCount : MOk mX5_partedCount 0 := ⟨List.mem_filter.mpr ⟨List.mem_of_getElem? (i := 555) (by decide +kernel), by decide +kernel⟩, List.mem_filter.mpr ⟨List.mem_of_getElem? (i := 47) (by decide +kernel), by decide +kernel⟩, ⟨by decide +kernel, by decide +kernel⟩, by decide +kernel, by decide⟩
theorem mvX5_partedCount : MV mX5_partedCount 0 5 := ⟨moX5_partedCount, List.mem_filter.mpr ⟨List.mem_of_getElem? (i := 553) (by decide +kernel), by decide +kernel⟩, List.mem_filter.mpr ⟨List.mem_of_getElem? (i := 554) (by decide +kernel), by decide +kernel⟩, TX5, 3, rfl⟩
abbrev mX7_figures : MI := (yX7_figures, cX7_figures, 1, some (FieldType.int))
theorem moX7_figures : MOk mX7_figures 0 := ⟨List.mem_filter.mpr ⟨List.mem_of_getElem? (i := 560) (by decide +kernel), by decide +kernel⟩, List.mem_filter.mpr ⟨List.mem_of_getElem? (i := 49) (by decide +kernel), by decide +kernel⟩, ⟨by decide +kernel, by decide +kernel⟩, by decide +kernel, by decide⟩
theorem mvX7_figures : MV mX7_figures 0 7 := ⟨moX7_figures, List.mem_filter.mpr ⟨List.mem_of_getElem? (i := 558) (by decide +kernel), by decide +kernel⟩, List.mem_filter.mpr ⟨List.mem_of_getElem? (i := 559) (by decide +kernel), by decide +kernel⟩, TX7, 3, rfl⟩
abbrev mX2_offer : MI := (yX2_offer, cX2_offer, 3, none)
theorem moX2_offer : MOk mX2_offer 2 := ⟨List.mem_filter.mpr ⟨List.mem_of_getElem? (i := 565) (by decide +kernel), by decide +kernel⟩, List.mem_filter.mpr ⟨List.mem_of_getElem? (i := 50) (by decide +kernel), by decide +kernel⟩, ⟨by decide +kernel, by decide +kernel⟩, by decide +kernel, by decide⟩
theorem mvX2_offer : MV mX2_offer 2 2 := ⟨moX2_offer, List.mem_filter.mpr ⟨List.mem_of_getElem? (i := 563) (by decide +kernel), by decide +kernel⟩, List.mem_filter.mpr ⟨List.mem_of_getElem? (i := 564) (by decide +kernel), by decide +kernel⟩, TX2, 3, rfl⟩
abbrev mX8_fewest : MI := (yX8_fewest, cX8_fewest, 4, some (FieldType.int))
theorem moX8_fewest : MOk mX8_fewest 2 := ⟨List.mem_filter.mpr ⟨List.mem_of_getElem? (i := 569) (by decide +kernel), by decide +kernel⟩, List.mem_filter.mpr ⟨List.mem_of_getElem? (i := 42) (by decide +kernel), by decide +kernel⟩, ⟨by decide +kernel, by decide +kernel⟩, by decide +kernel, by decide⟩
theorem mvX8_fewest : MV mX8_fewest 2 8 := ⟨moX8_fewest, List.mem_filter.mpr ⟨List.mem_of_getElem? (i := 567) (by decide +kernel), by decide +kernel⟩, List.mem_filter.mpr ⟨List.mem_of_getElem? (i := 568) (by decide +kernel), by decide +kernel⟩, TX8, 13, rfl⟩
abbrev mX8_isDeed : MI := (yX8_isDeed, cX8_isDeed, 2, some (FieldType.boolean))
theorem moX8_isDeed : MOk mX8_isDeed 1 := ⟨List.mem_filter.mpr ⟨List.mem_of_getElem? (i := 573) (by decide +kernel), by decide +kernel⟩, List.mem_filter.mpr ⟨List.mem_of_getElem? (i := 42) (by decide +kernel), by decide +kernel⟩, ⟨by decide +kernel, by decide +kernel⟩, by decide +kernel, by decide⟩
theorem mvX8_isDeed : MV mX8_isDeed 1 8 := ⟨moX8_isDeed, List.mem_filter.mpr ⟨List.mem_of_getElem? (i := 572) (by decide +kernel), by decide +kernel⟩, List.mem_filter.mpr ⟨List.mem_of_getElem? (i := 14) (by decide +kernel), by decide +kernel⟩, TX8, 13, rfl⟩
abbrev mX8_fair : MI := (yX8_fair, cX8_fair, 5, some (FieldType.int))
theorem moX8_fair : MOk mX8_fair 3 := ⟨List.mem_filter.mpr ⟨List.mem_of_getElem? (i := 578) (by decide +kernel), by decide +kernel⟩, List.mem_filter.mpr ⟨List.mem_of_getElem? (i := 42) (by decide +kernel), by decide +kernel⟩, ⟨by decide +kernel, by decide +kernel⟩, by decide +kernel, by decide⟩
theorem mvX8_fair : MV mX8_fair 3 8 := ⟨moX8_fair, List.mem_filter.mpr ⟨List.mem_of_getElem? (i := 576) (by decide +kernel), by decide +kernel⟩, List.mem_filter.mpr ⟨List.mem_of_getElem? (i := 577) (by decide +kernel), by decide +kernel⟩, TX8, 13, rfl⟩
abbrev mX8_isWorth : MI := (yX8_isWorth, cX8_isWorth, 1, some (FieldType.boolean))
theorem moX8_isWorth : MOk mX8_isWorth 1 := ⟨List.mem_filter.mpr ⟨List.mem_of_getElem? (i := 581) (by decide +kernel), by decide +kernel⟩, List.mem_filter.mpr ⟨List.mem_of_getElem? (i := 42) (by decide +kernel), by decide +kernel⟩, ⟨by decide +kernel, by decide +kernel⟩, by decide +kernel, by decide⟩
theorem msX8_isWorth : MS mX8_isWorth 1 := ⟨moX8_isWorth, List.mem_filter.mpr ⟨List.mem_of_getElem? (i := 580) (by decide +kernel), by decide +kernel⟩⟩
abbrev mX5_worth : MI := (yX5_worth, cX5_worth, 6, some (FieldType.int))
theorem moX5_worth : MOk mX5_worth 2 := ⟨List.mem_filter.mpr ⟨List.mem_of_getElem? (i := 585) (by decide +kernel), by decide +kernel⟩, List.mem_filter.mpr ⟨List.mem_of_getElem? (i := 47) (by decide +kernel), by decide +kernel⟩, ⟨by decide +kernel, by decide +kernel⟩, by decide +kernel, by decide⟩
theorem mvX5_worth : MV mX5_worth 2 5 := ⟨moX5_worth, List.mem_filter.mpr ⟨List.mem_of_getElem? (i := 583) (by decide +kernel), by decide +kernel⟩, List.mem_filter.mpr ⟨List.mem_of_getElem? (i := 584) (by decide +kernel), by decide +kernel⟩, TX5, 3, rfl⟩
abbrev mX8_judge : MI := (yX8_judge, cX8_judge, 7, some (FieldType.int))
theorem moX8_judge : MOk mX8_judge 2 := ⟨List.mem_filter.mpr ⟨List.mem_of_getElem? (i := 589) (by decide +kernel), by decide +kernel⟩, List.mem_filter.mpr ⟨List.mem_of_getElem? (i := 42) (by decide +kernel), by decide +kernel⟩, ⟨by decide +kernel, by decide +kernel⟩, by decide +kernel, by decide⟩
theorem mvX8_judge : MV mX8_judge 2 8 := ⟨moX8_judge, List.mem_filter.mpr ⟨List.mem_of_getElem? (i := 587) (by decide +kernel), by decide +kernel⟩, List.mem_filter.mpr ⟨List.mem_of_getElem? (i := 588) (by decide +kernel), by decide +kernel⟩, TX8, 13, rfl⟩
abbrev mX4_copyOf : MI := (yX4_copyOf, cX4_copyOf, 2, none)
theorem moX4_copyOf : MOk mX4_copyOf 1 := ⟨List.mem_filter.mpr ⟨List.mem_of_getElem? (i := 593) (by decide +kernel), by decide +kernel⟩, List.mem_filter.mpr ⟨List.mem_of_getElem? (i := 45) (by decide +kernel), by decide +kernel⟩, ⟨by decide +kernel, by decide +kernel⟩, by decide +kernel, by decide⟩
theorem mvX4_copyOf : MV mX4_copyOf 1 4 := ⟨moX4_copyOf, List.mem_filter.mpr ⟨List.mem_of_getElem? (i := 591) (by decide +kernel), by decide +kernel⟩, List.mem_filter.mpr ⟨List.mem_of_getElem? (i := 592) (by decide +kernel), by decide +kernel⟩, TX4, 4, rfl⟩
abbrev mX4_act : MI := (yX4_act, cX4_act, 3, some (FieldType.boolean))
theorem moX4_act : MOk mX4_act 2 := ⟨List.mem_filter.mpr ⟨List.mem_of_getElem? (i := 597) (by decide +kernel), by decide +kernel⟩, List.mem_filter.mpr ⟨List.mem_of_getElem? (i := 45) (by decide +kernel), by decide +kernel⟩, ⟨by decide +kernel, by decide +kernel⟩, by decide +kernel, by decide⟩
theorem mvX4_act : MV mX4_act 2 4 := ⟨moX4_act, List.mem_filter.mpr ⟨List.mem_of_getElem? (i := 595) (by decide +kernel), by decide +kernel⟩, List.mem_filter.mpr ⟨List.mem_of_getElem? (i := 596) (by decide +kernel), by decide +kernel⟩, TX4, 4, rfl⟩
abbrev mX8_share : MI := (yX8_share, cX8_share, 7, some (FieldType.int))
theorem moX8_share : MOk mX8_share 3 := ⟨List.mem_filter.mpr ⟨List.mem_of_getElem? (i := 604) (by decide +kernel), by decide +kernel⟩, List.mem_filter.mpr ⟨List.mem_of_getElem? (i := 42) (by decide +kernel), by decide +kernel⟩, ⟨by decide +kernel, by decide +kernel⟩, by decide +kernel, by decide⟩
theorem mvX8_share : MV mX8_share 3 8 := ⟨moX8_share, List.mem_filter.mpr ⟨List.mem_of_getElem? (i := 602) (by decide +kernel), by decide +kernel⟩, List.mem_filter.mpr ⟨List.mem_of_getElem? (i := 603) (by decide +kernel), by decide +kernel⟩, TX8, 13, rfl⟩
abbrev mX8_ordersWith : MI := (yX8_ordersWith, cX8_ordersWith, 3, some (FieldType.int))
theorem moX8_ordersWith : MOk mX8_ordersWith 1 := ⟨List.mem_filter.mpr ⟨List.mem_of_getElem? (i := 609) (by decide +kernel), by decide +kernel⟩, List.mem_filter.mpr ⟨List.mem_of_getElem? (i := 42) (by decide +kernel), by decide +kernel⟩, ⟨by decide +kernel, by decide +kernel⟩, by decide +kernel, by decide⟩
theorem mvX8_ordersWith : MV mX8_ordersWith 1 8 := ⟨moX8_ordersWith, List.mem_filter.mpr ⟨List.mem_of_getElem? (i := 608) (by decide +kernel), by decide +kernel⟩, List.mem_filter.mpr ⟨List.mem_of_getElem? (i := 15) (by decide +kernel), by decide +kernel⟩, TX8, 13, rfl⟩
abbrev mX8_fraction : MI := (yX8_fraction, cX8_fraction, 4, some (FieldType.int))
theorem moX8_fraction : MOk mX8_fraction 3 := ⟨List.mem_filter.mpr ⟨List.mem_of_getElem? (i := 614) (by decide +kernel), by decide +kernel⟩, List.mem_filter.mpr ⟨List.mem_of_getElem? (i := 42) (by decide +kernel), by decide +kernel⟩, ⟨by decide +kernel, by decide +kernel⟩, by decide +kernel, by decide⟩
theorem msX8_fraction : MS mX8_fraction 3 := ⟨moX8_fraction, List.mem_filter.mpr ⟨List.mem_of_getElem? (i := 613) (by decide +kernel), by decide +kernel⟩⟩
abbrev mX8_commonDivisor : MI := (yX8_commonDivisor, cX8_commonDivisor, 6, some (FieldType.int))
theorem moX8_commonDivisor : MOk mX8_commonDivisor 2 := ⟨List.mem_filter.mpr ⟨List.mem_of_getElem? (i := 617) (by decide +kernel), by decide +kernel⟩, List.mem_filter.mpr ⟨List.mem_of_getElem? (i := 42) (by decide +kernel), by decide +kernel⟩, ⟨by decide +kernel, by decide +kernel⟩, by decide +kernel, by decide⟩
theorem msX8_commonDivisor : MS mX8_commonDivisor 2 := ⟨moX8_commonDivisor, List.mem_filter.mpr ⟨List.mem_of_getElem? (i := 616) (by decide +kernel), by decide +kernel⟩⟩
abbrev mX8_see : MI := (yX8_see, cX8_see, 3, some (FieldType.int))
theorem moX8_see : MOk mX8_see 2 := ⟨List.mem_filter.mpr ⟨List.mem_of_getElem? (i := 621) (by decide +kernel), by decide +kernel⟩, List.mem_filter.mpr ⟨List.mem_of_getElem? (i := 42) (by decide +kernel), by decide +kernel⟩, ⟨by decide +kernel, by decide +kernel⟩, by decide +kernel, by decide⟩
theorem mvX8_see : MV mX8_see 2 8 := ⟨moX8_see, List.mem_filter.mpr ⟨List.mem_of_getElem? (i := 619) (by decide +kernel), by decide +kernel⟩, List.mem_filter.mpr ⟨List.mem_of_getElem? (i := 620) (by decide +kernel), by decide +kernel⟩, TX8, 13, rfl⟩
abbrev mX3_append : MI := (yX3_append, cX3_append, 3, some (FieldType.boolean))
theorem moX3_append : MOk mX3_append 2 := ⟨List.mem_filter.mpr ⟨List.mem_of_getElem? (i := 625) (by decide +kernel), by decide +kernel⟩, List.mem_filter.mpr ⟨List.mem_of_getElem? (i := 48) (by decide +kernel), by decide +kernel⟩, ⟨by decide +kernel, by decide +kernel⟩, by decide +kernel, by decide⟩
theorem mvX3_append : MV mX3_append 2 3 := ⟨moX3_append, List.mem_filter.mpr ⟨List.mem_of_getElem? (i := 623) (by decide +kernel), by decide +kernel⟩, List.mem_filter.mpr ⟨List.mem_of_getElem? (i := 624) (by decide +kernel), by decide +kernel⟩, TX3, 3, rfl⟩
abbrev mX8_unsee : MI := (yX8_unsee, cX8_unsee, 2, some (FieldType.int))
theorem moX8_unsee : MOk mX8_unsee 0 := ⟨List.mem_filter.mpr ⟨List.mem_of_getElem? (i := 629) (by decide +kernel), by decide +kernel⟩, List.mem_filter.mpr ⟨List.mem_of_getElem? (i := 42) (by decide +kernel), by decide +kernel⟩, ⟨by decide +kernel, by decide +kernel⟩, by decide +kernel, by decide⟩
theorem mvX8_unsee : MV mX8_unsee 0 8 := ⟨moX8_unsee, List.mem_filter.mpr ⟨List.mem_of_getElem? (i := 627) (by decide +kernel), by decide +kernel⟩, List.mem_filter.mpr ⟨List.mem_of_getElem? (i := 628) (by decide +kernel), by decide +kernel⟩, TX8, 13, rfl⟩
abbrev mX8_traces : MI := (yX8_traces, cX8_traces, 3, some (FieldType.int))
theorem moX8_traces : MOk mX8_traces 1 := ⟨List.mem_filter.mpr ⟨List.mem_of_getElem? (i := 633) (by decide +kernel), by decide +kernel⟩, List.mem_filter.mpr ⟨List.mem_of_getElem? (i := 42) (by decide +kernel), by decide +kernel⟩, ⟨by decide +kernel, by decide +kernel⟩, by decide +kernel, by decide⟩
theorem mvX8_traces : MV mX8_traces 1 8 := ⟨moX8_traces, List.mem_filter.mpr ⟨List.mem_of_getElem? (i := 631) (by decide +kernel), by decide +kernel⟩, List.mem_filter.mpr ⟨List.mem_of_getElem? (i := 632) (by decide +kernel), by decide +kernel⟩, TX8, 13, rfl⟩
abbrev mX3_agreesWith : MI := (yX3_agreesWith, cX3_agreesWith, 4, some (FieldType.boolean))
theorem moX3_agreesWith : MOk mX3_agreesWith 2 := ⟨List.mem_filter.mpr ⟨List.mem_of_getElem? (i := 637) (by decide +kernel), by decide +kernel⟩, List.mem_filter.mpr ⟨List.mem_of_getElem? (i := 48) (by decide +kernel), by decide +kernel⟩, ⟨by decide +kernel, by decide +kernel⟩, by decide +kernel, by decide⟩
theorem mvX3_agreesWith : MV mX3_agreesWith 2 3 := ⟨moX3_agreesWith, List.mem_filter.mpr ⟨List.mem_of_getElem? (i := 635) (by decide +kernel), by decide +kernel⟩, List.mem_filter.mpr ⟨List.mem_of_getElem? (i := 636) (by decide +kernel), by decide +kernel⟩, TX3, 3, rfl⟩
abbrev mX3_isSo : MI := (yX3_isSo, cX3_isSo, 5, some (FieldType.boolean))
theorem moX3_isSo : MOk mX3_isSo 3 := ⟨List.mem_filter.mpr ⟨List.mem_of_getElem? (i := 640) (by decide +kernel), by decide +kernel⟩, List.mem_filter.mpr ⟨List.mem_of_getElem? (i := 48) (by decide +kernel), by decide +kernel⟩, ⟨by decide +kernel, by decide +kernel⟩, by decide +kernel, by decide⟩
theorem msX3_isSo : MS mX3_isSo 3 := ⟨moX3_isSo, List.mem_filter.mpr ⟨List.mem_of_getElem? (i := 639) (by decide +kernel), by decide +kernel⟩⟩
abbrev mX8_rests : MI := (yX8_rests, cX8_rests, 4, some (FieldType.int))
theorem moX8_rests : MOk mX8_rests 1 := ⟨List.mem_filter.mpr ⟨List.mem_of_getElem? (i := 645) (by decide +kernel), by decide +kernel⟩, List.mem_filter.mpr ⟨List.mem_of_getElem? (i := 42) (by decide +kernel), by decide +kernel⟩, ⟨by decide +kernel, by decide +kernel⟩, by decide +kernel, by decide⟩
theorem mvX8_rests : MV mX8_rests 1 8 := ⟨moX8_rests, List.mem_filter.mpr ⟨List.mem_of_getElem? (i := 643) (by decide +kernel), by decide +kernel⟩, List.mem_filter.mpr ⟨List.mem_of_getElem? (i := 644) (by decide +kernel), by decide +kernel⟩, TX8, 13, rfl⟩
abbrev mX8_isAtRest : MI := (yX8_isAtRest, cX8_isAtRest, 3, some (FieldType.boolean))
theorem moX8_isAtRest : MOk mX8_isAtRest 2 := ⟨List.mem_filter.mpr ⟨List.mem_of_getElem? (i := 649) (by decide +kernel), by decide +kernel⟩, List.mem_filter.mpr ⟨List.mem_of_getElem? (i := 42) (by decide +kernel), by decide +kernel⟩, ⟨by decide +kernel, by decide +kernel⟩, by decide +kernel, by decide⟩
theorem mvX8_isAtRest : MV mX8_isAtRest 2 8 := ⟨moX8_isAtRest, List.mem_filter.mpr ⟨List.mem_of_getElem? (i := 648) (by decide +kernel), by decide +kernel⟩, List.mem_filter.mpr ⟨List.mem_of_getElem? (i := 16) (by decide +kernel), by decide +kernel⟩, TX8, 13, rfl⟩
abbrev mX8_holding : MI := (yX8_holding, cX8_holding, 6, some (FieldType.int))
theorem moX8_holding : MOk mX8_holding 3 := ⟨List.mem_filter.mpr ⟨List.mem_of_getElem? (i := 653) (by decide +kernel), by decide +kernel⟩, List.mem_filter.mpr ⟨List.mem_of_getElem? (i := 42) (by decide +kernel), by decide +kernel⟩, ⟨by decide +kernel, by decide +kernel⟩, by decide +kernel, by decide⟩
theorem mvX8_holding : MV mX8_holding 3 8 := ⟨moX8_holding, List.mem_filter.mpr ⟨List.mem_of_getElem? (i := 652) (by decide +kernel), by decide +kernel⟩, List.mem_filter.mpr ⟨List.mem_of_getElem? (i := 17) (by decide +kernel), by decide +kernel⟩, TX8, 13, rfl⟩
abbrev mX8_slips : MI := (yX8_slips, cX8_slips, 11, some (FieldType.int))
theorem moX8_slips : MOk mX8_slips 4 := ⟨List.mem_filter.mpr ⟨List.mem_of_getElem? (i := 659) (by decide +kernel), by decide +kernel⟩, List.mem_filter.mpr ⟨List.mem_of_getElem? (i := 42) (by decide +kernel), by decide +kernel⟩, ⟨by decide +kernel, by decide +kernel⟩, by decide +kernel, by decide⟩
theorem mvX8_slips : MV mX8_slips 4 8 := ⟨moX8_slips, List.mem_filter.mpr ⟨List.mem_of_getElem? (i := 657) (by decide +kernel), by decide +kernel⟩, List.mem_filter.mpr ⟨List.mem_of_getElem? (i := 658) (by decide +kernel), by decide +kernel⟩, TX8, 13, rfl⟩
abbrev mX8_seed : MI := (yX8_seed, cX8_seed, 5, some (FieldType.long))
theorem moX8_seed : MOk mX8_seed 1 := ⟨List.mem_filter.mpr ⟨List.mem_of_getElem? (i := 663) (by decide +kernel), by decide +kernel⟩, List.mem_filter.mpr ⟨List.mem_of_getElem? (i := 42) (by decide +kernel), by decide +kernel⟩, ⟨by decide +kernel, by decide +kernel⟩, by decide +kernel, by decide⟩
theorem mvX8_seed : MV mX8_seed 1 8 := ⟨moX8_seed, List.mem_filter.mpr ⟨List.mem_of_getElem? (i := 661) (by decide +kernel), by decide +kernel⟩, List.mem_filter.mpr ⟨List.mem_of_getElem? (i := 662) (by decide +kernel), by decide +kernel⟩, TX8, 13, rfl⟩
abbrev mX8_years : MI := (yX8_years, cX8_years, 5, some (FieldType.int))
theorem moX8_years : MOk mX8_years 1 := ⟨List.mem_filter.mpr ⟨List.mem_of_getElem? (i := 667) (by decide +kernel), by decide +kernel⟩, List.mem_filter.mpr ⟨List.mem_of_getElem? (i := 42) (by decide +kernel), by decide +kernel⟩, ⟨by decide +kernel, by decide +kernel⟩, by decide +kernel, by decide⟩
theorem mvX8_years : MV mX8_years 1 8 := ⟨moX8_years, List.mem_filter.mpr ⟨List.mem_of_getElem? (i := 665) (by decide +kernel), by decide +kernel⟩, List.mem_filter.mpr ⟨List.mem_of_getElem? (i := 666) (by decide +kernel), by decide +kernel⟩, TX8, 13, rfl⟩
abbrev mX8_keep : MI := (yX8_keep, cX8_keep, 2, some (FieldType.int))
theorem moX8_keep : MOk mX8_keep 1 := ⟨List.mem_filter.mpr ⟨List.mem_of_getElem? (i := 674) (by decide +kernel), by decide +kernel⟩, List.mem_filter.mpr ⟨List.mem_of_getElem? (i := 42) (by decide +kernel), by decide +kernel⟩, ⟨by decide +kernel, by decide +kernel⟩, by decide +kernel, by decide⟩
theorem mvX8_keep : MV mX8_keep 1 8 := ⟨moX8_keep, List.mem_filter.mpr ⟨List.mem_of_getElem? (i := 672) (by decide +kernel), by decide +kernel⟩, List.mem_filter.mpr ⟨List.mem_of_getElem? (i := 673) (by decide +kernel), by decide +kernel⟩, TX8, 13, rfl⟩
abbrev mX8_again : MI := (yX8_again, cX8_again, 2, some (FieldType.int))
theorem moX8_again : MOk mX8_again 1 := ⟨List.mem_filter.mpr ⟨List.mem_of_getElem? (i := 678) (by decide +kernel), by decide +kernel⟩, List.mem_filter.mpr ⟨List.mem_of_getElem? (i := 42) (by decide +kernel), by decide +kernel⟩, ⟨by decide +kernel, by decide +kernel⟩, by decide +kernel, by decide⟩
theorem mvX8_again : MV mX8_again 1 8 := ⟨moX8_again, List.mem_filter.mpr ⟨List.mem_of_getElem? (i := 676) (by decide +kernel), by decide +kernel⟩, List.mem_filter.mpr ⟨List.mem_of_getElem? (i := 677) (by decide +kernel), by decide +kernel⟩, TX8, 13, rfl⟩
abbrev mX9_init : MI := (yX9_init, cX9_init, 1, none)
theorem moX9_init : MOk mX9_init 0 := ⟨List.mem_filter.mpr ⟨List.mem_of_getElem? (i := 683) (by decide +kernel), by decide +kernel⟩, List.mem_filter.mpr ⟨List.mem_of_getElem? (i := 51) (by decide +kernel), by decide +kernel⟩, ⟨by decide +kernel, by decide +kernel⟩, by decide +kernel, by decide⟩
abbrev mX9_write : MI := (yX9_write, cX9_write, 2, some (FieldType.int))
theorem moX9_write : MOk mX9_write 1 := ⟨List.mem_filter.mpr ⟨List.mem_of_getElem? (i := 794) (by decide +kernel), by decide +kernel⟩, List.mem_filter.mpr ⟨List.mem_of_getElem? (i := 51) (by decide +kernel), by decide +kernel⟩, ⟨by decide +kernel, by decide +kernel⟩, by decide +kernel, by decide⟩
theorem mvX9_write : MV mX9_write 1 9 := ⟨moX9_write, List.mem_filter.mpr ⟨List.mem_of_getElem? (i := 792) (by decide +kernel), by decide +kernel⟩, List.mem_filter.mpr ⟨List.mem_of_getElem? (i := 793) (by decide +kernel), by decide +kernel⟩, TX9, 35, rfl⟩
abbrev mX9_in : MI := (yX9_in, cX9_in, 6, some (FieldType.boolean))
theorem moX9_in : MOk mX9_in 3 := ⟨List.mem_filter.mpr ⟨List.mem_of_getElem? (i := 798) (by decide +kernel), by decide +kernel⟩, List.mem_filter.mpr ⟨List.mem_of_getElem? (i := 51) (by decide +kernel), by decide +kernel⟩, ⟨by decide +kernel, by decide +kernel⟩, by decide +kernel, by decide⟩
theorem msX9_in : MS mX9_in 3 := ⟨moX9_in, List.mem_filter.mpr ⟨List.mem_of_getElem? (i := 797) (by decide +kernel), by decide +kernel⟩⟩
abbrev mX9_wipe : MI := (yX9_wipe, cX9_wipe, 2, some (FieldType.int))
theorem moX9_wipe : MOk mX9_wipe 0 := ⟨List.mem_filter.mpr ⟨List.mem_of_getElem? (i := 802) (by decide +kernel), by decide +kernel⟩, List.mem_filter.mpr ⟨List.mem_of_getElem? (i := 51) (by decide +kernel), by decide +kernel⟩, ⟨by decide +kernel, by decide +kernel⟩, by decide +kernel, by decide⟩
theorem mvX9_wipe : MV mX9_wipe 0 9 := ⟨moX9_wipe, List.mem_filter.mpr ⟨List.mem_of_getElem? (i := 800) (by decide +kernel), by decide +kernel⟩, List.mem_filter.mpr ⟨List.mem_of_getElem? (i := 801) (by decide +kernel), by decide +kernel⟩, TX9, 35, rfl⟩
abbrev mX9_fault : MI := (yX9_fault, cX9_fault, 1, some (FieldType.int))
theorem moX9_fault : MOk mX9_fault 0 := ⟨List.mem_filter.mpr ⟨List.mem_of_getElem? (i := 806) (by decide +kernel), by decide +kernel⟩, List.mem_filter.mpr ⟨List.mem_of_getElem? (i := 51) (by decide +kernel), by decide +kernel⟩, ⟨by decide +kernel, by decide +kernel⟩, by decide +kernel, by decide⟩
theorem mvX9_fault : MV mX9_fault 0 9 := ⟨moX9_fault, List.mem_filter.mpr ⟨List.mem_of_getElem? (i := 804) (by decide +kernel), by decide +kernel⟩, List.mem_filter.mpr ⟨List.mem_of_getElem? (i := 805) (by decide +kernel), by decide +kernel⟩, TX9, 35, rfl⟩
abbrev mX9_readFamily : MI := (yX9_readFamily, cX9_readFamily, 1, some (FieldType.int))
theorem moX9_readFamily : MOk mX9_readFamily 0 := ⟨List.mem_filter.mpr ⟨List.mem_of_getElem? (i := 810) (by decide +kernel), by decide +kernel⟩, List.mem_filter.mpr ⟨List.mem_of_getElem? (i := 51) (by decide +kernel), by decide +kernel⟩, ⟨by decide +kernel, by decide +kernel⟩, by decide +kernel, by decide⟩
theorem mvX9_readFamily : MV mX9_readFamily 0 9 := ⟨moX9_readFamily, List.mem_filter.mpr ⟨List.mem_of_getElem? (i := 809) (by decide +kernel), by decide +kernel⟩, List.mem_filter.mpr ⟨List.mem_of_getElem? (i := 18) (by decide +kernel), by decide +kernel⟩, TX9, 35, rfl⟩
abbrev mX9_readThing : MI := (yX9_readThing, cX9_readThing, 2, some (FieldType.boolean))
theorem moX9_readThing : MOk mX9_readThing 0 := ⟨List.mem_filter.mpr ⟨List.mem_of_getElem? (i := 814) (by decide +kernel), by decide +kernel⟩, List.mem_filter.mpr ⟨List.mem_of_getElem? (i := 51) (by decide +kernel), by decide +kernel⟩, ⟨by decide +kernel, by decide +kernel⟩, by decide +kernel, by decide⟩
theorem mvX9_readThing : MV mX9_readThing 0 9 := ⟨moX9_readThing, List.mem_filter.mpr ⟨List.mem_of_getElem? (i := 813) (by decide +kernel), by decide +kernel⟩, List.mem_filter.mpr ⟨List.mem_of_getElem? (i := 19) (by decide +kernel), by decide +kernel⟩, TX9, 35, rfl⟩
abbrev mX9_readOneKin : MI := (yX9_readOneKin, cX9_readOneKin, 2, some (FieldType.boolean))
theorem moX9_readOneKin : MOk mX9_readOneKin 0 := ⟨List.mem_filter.mpr ⟨List.mem_of_getElem? (i := 818) (by decide +kernel), by decide +kernel⟩, List.mem_filter.mpr ⟨List.mem_of_getElem? (i := 51) (by decide +kernel), by decide +kernel⟩, ⟨by decide +kernel, by decide +kernel⟩, by decide +kernel, by decide⟩
theorem mvX9_readOneKin : MV mX9_readOneKin 0 9 := ⟨moX9_readOneKin, List.mem_filter.mpr ⟨List.mem_of_getElem? (i := 817) (by decide +kernel), by decide +kernel⟩, List.mem_filter.mpr ⟨List.mem_of_getElem? (i := 20) (by decide +kernel), by decide +kernel⟩, TX9, 35, rfl⟩
abbrev mX9_from : MI := (yX9_from, cX9_from, 4, some (FieldType.int))
theorem moX9_from : MOk mX9_from 3 := ⟨List.mem_filter.mpr ⟨List.mem_of_getElem? (i := 822) (by decide +kernel), by decide +kernel⟩, List.mem_filter.mpr ⟨List.mem_of_getElem? (i := 51) (by decide +kernel), by decide +kernel⟩, ⟨by decide +kernel, by decide +kernel⟩, by decide +kernel, by decide⟩
theorem mvX9_from : MV mX9_from 3 9 := ⟨moX9_from, List.mem_filter.mpr ⟨List.mem_of_getElem? (i := 821) (by decide +kernel), by decide +kernel⟩, List.mem_filter.mpr ⟨List.mem_of_getElem? (i := 21) (by decide +kernel), by decide +kernel⟩, TX9, 35, rfl⟩
abbrev mX9_readOneRow : MI := (yX9_readOneRow, cX9_readOneRow, 3, some (FieldType.boolean))
theorem moX9_readOneRow : MOk mX9_readOneRow 0 := ⟨List.mem_filter.mpr ⟨List.mem_of_getElem? (i := 826) (by decide +kernel), by decide +kernel⟩, List.mem_filter.mpr ⟨List.mem_of_getElem? (i := 51) (by decide +kernel), by decide +kernel⟩, ⟨by decide +kernel, by decide +kernel⟩, by decide +kernel, by decide⟩
theorem mvX9_readOneRow : MV mX9_readOneRow 0 9 := ⟨moX9_readOneRow, List.mem_filter.mpr ⟨List.mem_of_getElem? (i := 825) (by decide +kernel), by decide +kernel⟩, List.mem_filter.mpr ⟨List.mem_of_getElem? (i := 22) (by decide +kernel), by decide +kernel⟩, TX9, 35, rfl⟩
abbrev mX9_readOneDeed : MI := (yX9_readOneDeed, cX9_readOneDeed, 3, some (FieldType.boolean))
theorem moX9_readOneDeed : MOk mX9_readOneDeed 0 := ⟨List.mem_filter.mpr ⟨List.mem_of_getElem? (i := 830) (by decide +kernel), by decide +kernel⟩, List.mem_filter.mpr ⟨List.mem_of_getElem? (i := 51) (by decide +kernel), by decide +kernel⟩, ⟨by decide +kernel, by decide +kernel⟩, by decide +kernel, by decide⟩
theorem mvX9_readOneDeed : MV mX9_readOneDeed 0 9 := ⟨moX9_readOneDeed, List.mem_filter.mpr ⟨List.mem_of_getElem? (i := 829) (by decide +kernel), by decide +kernel⟩, List.mem_filter.mpr ⟨List.mem_of_getElem? (i := 23) (by decide +kernel), by decide +kernel⟩, TX9, 35, rfl⟩
abbrev mX9_family : MI := (yX9_family, cX9_family, 2, some (FieldType.int))
theorem moX9_family : MOk mX9_family 0 := ⟨List.mem_filter.mpr ⟨List.mem_of_getElem? (i := 834) (by decide +kernel), by decide +kernel⟩, List.mem_filter.mpr ⟨List.mem_of_getElem? (i := 51) (by decide +kernel), by decide +kernel⟩, ⟨by decide +kernel, by decide +kernel⟩, by decide +kernel, by decide⟩
theorem mvX9_family : MV mX9_family 0 9 := ⟨moX9_family, List.mem_filter.mpr ⟨List.mem_of_getElem? (i := 832) (by decide +kernel), by decide +kernel⟩, List.mem_filter.mpr ⟨List.mem_of_getElem? (i := 833) (by decide +kernel), by decide +kernel⟩, TX9, 35, rfl⟩
abbrev mX9_copyRow : MI := (yX9_copyRow, cX9_copyRow, 4, none)
theorem moX9_copyRow : MOk mX9_copyRow 3 := ⟨List.mem_filter.mpr ⟨List.mem_of_getElem? (i := 837) (by decide +kernel), by decide +kernel⟩, List.mem_filter.mpr ⟨List.mem_of_getElem? (i := 51) (by decide +kernel), by decide +kernel⟩, ⟨by decide +kernel, by decide +kernel⟩, by decide +kernel, by decide⟩
theorem msX9_copyRow : MS mX9_copyRow 3 := ⟨moX9_copyRow, List.mem_filter.mpr ⟨List.mem_of_getElem? (i := 836) (by decide +kernel), by decide +kernel⟩⟩
abbrev mX9_about : MI := (yX9_about, cX9_about, 2, some (FieldType.int))
theorem moX9_about : MOk mX9_about 1 := ⟨List.mem_filter.mpr ⟨List.mem_of_getElem? (i := 841) (by decide +kernel), by decide +kernel⟩, List.mem_filter.mpr ⟨List.mem_of_getElem? (i := 51) (by decide +kernel), by decide +kernel⟩, ⟨by decide +kernel, by decide +kernel⟩, by decide +kernel, by decide⟩
theorem mvX9_about : MV mX9_about 1 9 := ⟨moX9_about, List.mem_filter.mpr ⟨List.mem_of_getElem? (i := 839) (by decide +kernel), by decide +kernel⟩, List.mem_filter.mpr ⟨List.mem_of_getElem? (i := 840) (by decide +kernel), by decide +kernel⟩, TX9, 35, rfl⟩
abbrev mX9_layHalves : MI := (yX9_layHalves, cX9_layHalves, 5, none)
theorem moX9_layHalves : MOk mX9_layHalves 1 := ⟨List.mem_filter.mpr ⟨List.mem_of_getElem? (i := 845) (by decide +kernel), by decide +kernel⟩, List.mem_filter.mpr ⟨List.mem_of_getElem? (i := 51) (by decide +kernel), by decide +kernel⟩, ⟨by decide +kernel, by decide +kernel⟩, by decide +kernel, by decide⟩
theorem mvX9_layHalves : MV mX9_layHalves 1 9 := ⟨moX9_layHalves, List.mem_filter.mpr ⟨List.mem_of_getElem? (i := 844) (by decide +kernel), by decide +kernel⟩, List.mem_filter.mpr ⟨List.mem_of_getElem? (i := 24) (by decide +kernel), by decide +kernel⟩, TX9, 35, rfl⟩
abbrev mX9_figuresOf : MI := (yX9_figuresOf, cX9_figuresOf, 4, some (FieldType.int))
theorem moX9_figuresOf : MOk mX9_figuresOf 1 := ⟨List.mem_filter.mpr ⟨List.mem_of_getElem? (i := 849) (by decide +kernel), by decide +kernel⟩, List.mem_filter.mpr ⟨List.mem_of_getElem? (i := 51) (by decide +kernel), by decide +kernel⟩, ⟨by decide +kernel, by decide +kernel⟩, by decide +kernel, by decide⟩
theorem mvX9_figuresOf : MV mX9_figuresOf 1 9 := ⟨moX9_figuresOf, List.mem_filter.mpr ⟨List.mem_of_getElem? (i := 848) (by decide +kernel), by decide +kernel⟩, List.mem_filter.mpr ⟨List.mem_of_getElem? (i := 25) (by decide +kernel), by decide +kernel⟩, TX9, 35, rfl⟩
abbrev mX9_slipsOf : MI := (yX9_slipsOf, cX9_slipsOf, 4, some (FieldType.int))
theorem moX9_slipsOf : MOk mX9_slipsOf 1 := ⟨List.mem_filter.mpr ⟨List.mem_of_getElem? (i := 853) (by decide +kernel), by decide +kernel⟩, List.mem_filter.mpr ⟨List.mem_of_getElem? (i := 51) (by decide +kernel), by decide +kernel⟩, ⟨by decide +kernel, by decide +kernel⟩, by decide +kernel, by decide⟩
theorem mvX9_slipsOf : MV mX9_slipsOf 1 9 := ⟨moX9_slipsOf, List.mem_filter.mpr ⟨List.mem_of_getElem? (i := 852) (by decide +kernel), by decide +kernel⟩, List.mem_filter.mpr ⟨List.mem_of_getElem? (i := 26) (by decide +kernel), by decide +kernel⟩, TX9, 35, rfl⟩
abbrev mX9_partedLaid : MI := (yX9_partedLaid, cX9_partedLaid, 3, some (FieldType.int))
theorem moX9_partedLaid : MOk mX9_partedLaid 0 := ⟨List.mem_filter.mpr ⟨List.mem_of_getElem? (i := 857) (by decide +kernel), by decide +kernel⟩, List.mem_filter.mpr ⟨List.mem_of_getElem? (i := 51) (by decide +kernel), by decide +kernel⟩, ⟨by decide +kernel, by decide +kernel⟩, by decide +kernel, by decide⟩
theorem mvX9_partedLaid : MV mX9_partedLaid 0 9 := ⟨moX9_partedLaid, List.mem_filter.mpr ⟨List.mem_of_getElem? (i := 856) (by decide +kernel), by decide +kernel⟩, List.mem_filter.mpr ⟨List.mem_of_getElem? (i := 27) (by decide +kernel), by decide +kernel⟩, TX9, 35, rfl⟩
abbrev mX9_wires : MI := (yX9_wires, cX9_wires, 3, some (FieldType.int))
theorem moX9_wires : MOk mX9_wires 0 := ⟨List.mem_filter.mpr ⟨List.mem_of_getElem? (i := 861) (by decide +kernel), by decide +kernel⟩, List.mem_filter.mpr ⟨List.mem_of_getElem? (i := 51) (by decide +kernel), by decide +kernel⟩, ⟨by decide +kernel, by decide +kernel⟩, by decide +kernel, by decide⟩
theorem mvX9_wires : MV mX9_wires 0 9 := ⟨moX9_wires, List.mem_filter.mpr ⟨List.mem_of_getElem? (i := 860) (by decide +kernel), by decide +kernel⟩, List.mem_filter.mpr ⟨List.mem_of_getElem? (i := 28) (by decide +kernel), by decide +kernel⟩, TX9, 35, rfl⟩
abbrev mX9_power : MI := (yX9_power, cX9_power, 4, some (FieldType.int))
theorem moX9_power : MOk mX9_power 2 := ⟨List.mem_filter.mpr ⟨List.mem_of_getElem? (i := 864) (by decide +kernel), by decide +kernel⟩, List.mem_filter.mpr ⟨List.mem_of_getElem? (i := 51) (by decide +kernel), by decide +kernel⟩, ⟨by decide +kernel, by decide +kernel⟩, by decide +kernel, by decide⟩
theorem msX9_power : MS mX9_power 2 := ⟨moX9_power, List.mem_filter.mpr ⟨List.mem_of_getElem? (i := 863) (by decide +kernel), by decide +kernel⟩⟩
abbrev mX9_layWire : MI := (yX9_layWire, cX9_layWire, 4, some (FieldType.boolean))
theorem moX9_layWire : MOk mX9_layWire 1 := ⟨List.mem_filter.mpr ⟨List.mem_of_getElem? (i := 868) (by decide +kernel), by decide +kernel⟩, List.mem_filter.mpr ⟨List.mem_of_getElem? (i := 51) (by decide +kernel), by decide +kernel⟩, ⟨by decide +kernel, by decide +kernel⟩, by decide +kernel, by decide⟩
theorem mvX9_layWire : MV mX9_layWire 1 9 := ⟨moX9_layWire, List.mem_filter.mpr ⟨List.mem_of_getElem? (i := 867) (by decide +kernel), by decide +kernel⟩, List.mem_filter.mpr ⟨List.mem_of_getElem? (i := 29) (by decide +kernel), by decide +kernel⟩, TX9, 35, rfl⟩
abbrev mX9_cell : MI := (yX9_cell, cX9_cell, 5, some (FieldType.int))
theorem moX9_cell : MOk mX9_cell 3 := ⟨List.mem_filter.mpr ⟨List.mem_of_getElem? (i := 873) (by decide +kernel), by decide +kernel⟩, List.mem_filter.mpr ⟨List.mem_of_getElem? (i := 51) (by decide +kernel), by decide +kernel⟩, ⟨by decide +kernel, by decide +kernel⟩, by decide +kernel, by decide⟩
theorem mvX9_cell : MV mX9_cell 3 9 := ⟨moX9_cell, List.mem_filter.mpr ⟨List.mem_of_getElem? (i := 871) (by decide +kernel), by decide +kernel⟩, List.mem_filter.mpr ⟨List.mem_of_getElem? (i := 872) (by decide +kernel), by decide +kernel⟩, TX9, 35, rfl⟩
abbrev mX9_countsFor : MI := (yX9_countsFor, cX9_countsFor, 6, some (FieldType.int))
theorem moX9_countsFor : MOk mX9_countsFor 3 := ⟨List.mem_filter.mpr ⟨List.mem_of_getElem? (i := 878) (by decide +kernel), by decide +kernel⟩, List.mem_filter.mpr ⟨List.mem_of_getElem? (i := 51) (by decide +kernel), by decide +kernel⟩, ⟨by decide +kernel, by decide +kernel⟩, by decide +kernel, by decide⟩
theorem mvX9_countsFor : MV mX9_countsFor 3 9 := ⟨moX9_countsFor, List.mem_filter.mpr ⟨List.mem_of_getElem? (i := 877) (by decide +kernel), by decide +kernel⟩, List.mem_filter.mpr ⟨List.mem_of_getElem? (i := 30) (by decide +kernel), by decide +kernel⟩, TX9, 35, rfl⟩
abbrev mX9_kin : MI := (yX9_kin, cX9_kin, 3, some (FieldType.int))
theorem moX9_kin : MOk mX9_kin 2 := ⟨List.mem_filter.mpr ⟨List.mem_of_getElem? (i := 882) (by decide +kernel), by decide +kernel⟩, List.mem_filter.mpr ⟨List.mem_of_getElem? (i := 51) (by decide +kernel), by decide +kernel⟩, ⟨by decide +kernel, by decide +kernel⟩, by decide +kernel, by decide⟩
theorem mvX9_kin : MV mX9_kin 2 9 := ⟨moX9_kin, List.mem_filter.mpr ⟨List.mem_of_getElem? (i := 880) (by decide +kernel), by decide +kernel⟩, List.mem_filter.mpr ⟨List.mem_of_getElem? (i := 881) (by decide +kernel), by decide +kernel⟩, TX9, 35, rfl⟩
abbrev mX9_countsOf : MI := (yX9_countsOf, cX9_countsOf, 5, some (FieldType.int))
theorem moX9_countsOf : MOk mX9_countsOf 2 := ⟨List.mem_filter.mpr ⟨List.mem_of_getElem? (i := 886) (by decide +kernel), by decide +kernel⟩, List.mem_filter.mpr ⟨List.mem_of_getElem? (i := 51) (by decide +kernel), by decide +kernel⟩, ⟨by decide +kernel, by decide +kernel⟩, by decide +kernel, by decide⟩
theorem mvX9_countsOf : MV mX9_countsOf 2 9 := ⟨moX9_countsOf, List.mem_filter.mpr ⟨List.mem_of_getElem? (i := 885) (by decide +kernel), by decide +kernel⟩, List.mem_filter.mpr ⟨List.mem_of_getElem? (i := 31) (by decide +kernel), by decide +kernel⟩, TX9, 35, rfl⟩
abbrev mX9_countOf : MI := (yX9_countOf, cX9_countOf, 9, some (FieldType.int))
theorem moX9_countOf : MOk mX9_countOf 4 := ⟨List.mem_filter.mpr ⟨List.mem_of_getElem? (i := 890) (by decide +kernel), by decide +kernel⟩, List.mem_filter.mpr ⟨List.mem_of_getElem? (i := 51) (by decide +kernel), by decide +kernel⟩, ⟨by decide +kernel, by decide +kernel⟩, by decide +kernel, by decide⟩
theorem mvX9_countOf : MV mX9_countOf 4 9 := ⟨moX9_countOf, List.mem_filter.mpr ⟨List.mem_of_getElem? (i := 889) (by decide +kernel), by decide +kernel⟩, List.mem_filter.mpr ⟨List.mem_of_getElem? (i := 32) (by decide +kernel), by decide +kernel⟩, TX9, 35, rfl⟩
abbrev mX9_isIn : MI := (yX9_isIn, cX9_isIn, 2, some (FieldType.boolean))
theorem moX9_isIn : MOk mX9_isIn 2 := ⟨List.mem_filter.mpr ⟨List.mem_of_getElem? (i := 893) (by decide +kernel), by decide +kernel⟩, List.mem_filter.mpr ⟨List.mem_of_getElem? (i := 51) (by decide +kernel), by decide +kernel⟩, ⟨by decide +kernel, by decide +kernel⟩, by decide +kernel, by decide⟩
theorem msX9_isIn : MS mX9_isIn 2 := ⟨moX9_isIn, List.mem_filter.mpr ⟨List.mem_of_getElem? (i := 892) (by decide +kernel), by decide +kernel⟩⟩
abbrev mX9_has : MI := (yX9_has, cX9_has, 3, some (FieldType.int))
theorem moX9_has : MOk mX9_has 2 := ⟨List.mem_filter.mpr ⟨List.mem_of_getElem? (i := 897) (by decide +kernel), by decide +kernel⟩, List.mem_filter.mpr ⟨List.mem_of_getElem? (i := 51) (by decide +kernel), by decide +kernel⟩, ⟨by decide +kernel, by decide +kernel⟩, by decide +kernel, by decide⟩
theorem mvX9_has : MV mX9_has 2 9 := ⟨moX9_has, List.mem_filter.mpr ⟨List.mem_of_getElem? (i := 895) (by decide +kernel), by decide +kernel⟩, List.mem_filter.mpr ⟨List.mem_of_getElem? (i := 896) (by decide +kernel), by decide +kernel⟩, TX9, 35, rfl⟩
abbrev mX9_can : MI := (yX9_can, cX9_can, 2, some (FieldType.int))
theorem moX9_can : MOk mX9_can 1 := ⟨List.mem_filter.mpr ⟨List.mem_of_getElem? (i := 902) (by decide +kernel), by decide +kernel⟩, List.mem_filter.mpr ⟨List.mem_of_getElem? (i := 51) (by decide +kernel), by decide +kernel⟩, ⟨by decide +kernel, by decide +kernel⟩, by decide +kernel, by decide⟩
theorem mvX9_can : MV mX9_can 1 9 := ⟨moX9_can, List.mem_filter.mpr ⟨List.mem_of_getElem? (i := 900) (by decide +kernel), by decide +kernel⟩, List.mem_filter.mpr ⟨List.mem_of_getElem? (i := 901) (by decide +kernel), by decide +kernel⟩, TX9, 35, rfl⟩
abbrev mX9_canOf : MI := (yX9_canOf, cX9_canOf, 6, some (FieldType.int))
theorem moX9_canOf : MOk mX9_canOf 3 := ⟨List.mem_filter.mpr ⟨List.mem_of_getElem? (i := 906) (by decide +kernel), by decide +kernel⟩, List.mem_filter.mpr ⟨List.mem_of_getElem? (i := 51) (by decide +kernel), by decide +kernel⟩, ⟨by decide +kernel, by decide +kernel⟩, by decide +kernel, by decide⟩
theorem mvX9_canOf : MV mX9_canOf 3 9 := ⟨moX9_canOf, List.mem_filter.mpr ⟨List.mem_of_getElem? (i := 905) (by decide +kernel), by decide +kernel⟩, List.mem_filter.mpr ⟨List.mem_of_getElem? (i := 33) (by decide +kernel), by decide +kernel⟩, TX9, 35, rfl⟩
abbrev mX9_draw : MI := (yX9_draw, cX9_draw, 3, some (FieldType.int))
theorem moX9_draw : MOk mX9_draw 2 := ⟨List.mem_filter.mpr ⟨List.mem_of_getElem? (i := 910) (by decide +kernel), by decide +kernel⟩, List.mem_filter.mpr ⟨List.mem_of_getElem? (i := 51) (by decide +kernel), by decide +kernel⟩, ⟨by decide +kernel, by decide +kernel⟩, by decide +kernel, by decide⟩
theorem mvX9_draw : MV mX9_draw 2 9 := ⟨moX9_draw, List.mem_filter.mpr ⟨List.mem_of_getElem? (i := 908) (by decide +kernel), by decide +kernel⟩, List.mem_filter.mpr ⟨List.mem_of_getElem? (i := 909) (by decide +kernel), by decide +kernel⟩, TX9, 35, rfl⟩
abbrev mX9_canDraw : MI := (yX9_canDraw, cX9_canDraw, 5, some (FieldType.boolean))
theorem moX9_canDraw : MOk mX9_canDraw 3 := ⟨List.mem_filter.mpr ⟨List.mem_of_getElem? (i := 914) (by decide +kernel), by decide +kernel⟩, List.mem_filter.mpr ⟨List.mem_of_getElem? (i := 51) (by decide +kernel), by decide +kernel⟩, ⟨by decide +kernel, by decide +kernel⟩, by decide +kernel, by decide⟩
theorem mvX9_canDraw : MV mX9_canDraw 3 9 := ⟨moX9_canDraw, List.mem_filter.mpr ⟨List.mem_of_getElem? (i := 913) (by decide +kernel), by decide +kernel⟩, List.mem_filter.mpr ⟨List.mem_of_getElem? (i := 34) (by decide +kernel), by decide +kernel⟩, TX9, 35, rfl⟩
abbrev mX9_note : MI := (yX9_note, cX9_note, 2, none)
theorem moX9_note : MOk mX9_note 0 := ⟨List.mem_filter.mpr ⟨List.mem_of_getElem? (i := 919) (by decide +kernel), by decide +kernel⟩, List.mem_filter.mpr ⟨List.mem_of_getElem? (i := 51) (by decide +kernel), by decide +kernel⟩, ⟨by decide +kernel, by decide +kernel⟩, by decide +kernel, by decide⟩
theorem mvX9_note : MV mX9_note 0 9 := ⟨moX9_note, List.mem_filter.mpr ⟨List.mem_of_getElem? (i := 918) (by decide +kernel), by decide +kernel⟩, List.mem_filter.mpr ⟨List.mem_of_getElem? (i := 35) (by decide +kernel), by decide +kernel⟩, TX9, 35, rfl⟩
abbrev mX9_change : MI := (yX9_change, cX9_change, 2, some (FieldType.int))
theorem moX9_change : MOk mX9_change 1 := ⟨List.mem_filter.mpr ⟨List.mem_of_getElem? (i := 923) (by decide +kernel), by decide +kernel⟩, List.mem_filter.mpr ⟨List.mem_of_getElem? (i := 51) (by decide +kernel), by decide +kernel⟩, ⟨by decide +kernel, by decide +kernel⟩, by decide +kernel, by decide⟩
theorem mvX9_change : MV mX9_change 1 9 := ⟨moX9_change, List.mem_filter.mpr ⟨List.mem_of_getElem? (i := 921) (by decide +kernel), by decide +kernel⟩, List.mem_filter.mpr ⟨List.mem_of_getElem? (i := 922) (by decide +kernel), by decide +kernel⟩, TX9, 35, rfl⟩
abbrev mX9_swap : MI := (yX9_swap, cX9_swap, 4, none)
theorem moX9_swap : MOk mX9_swap 2 := ⟨List.mem_filter.mpr ⟨List.mem_of_getElem? (i := 926) (by decide +kernel), by decide +kernel⟩, List.mem_filter.mpr ⟨List.mem_of_getElem? (i := 51) (by decide +kernel), by decide +kernel⟩, ⟨by decide +kernel, by decide +kernel⟩, by decide +kernel, by decide⟩
theorem msX9_swap : MS mX9_swap 2 := ⟨moX9_swap, List.mem_filter.mpr ⟨List.mem_of_getElem? (i := 925) (by decide +kernel), by decide +kernel⟩⟩
abbrev mX9_join : MI := (yX9_join, cX9_join, 1, some (FieldType.int))
theorem moX9_join : MOk mX9_join 0 := ⟨List.mem_filter.mpr ⟨List.mem_of_getElem? (i := 930) (by decide +kernel), by decide +kernel⟩, List.mem_filter.mpr ⟨List.mem_of_getElem? (i := 51) (by decide +kernel), by decide +kernel⟩, ⟨by decide +kernel, by decide +kernel⟩, by decide +kernel, by decide⟩
theorem mvX9_join : MV mX9_join 0 9 := ⟨moX9_join, List.mem_filter.mpr ⟨List.mem_of_getElem? (i := 928) (by decide +kernel), by decide +kernel⟩, List.mem_filter.mpr ⟨List.mem_of_getElem? (i := 929) (by decide +kernel), by decide +kernel⟩, TX9, 35, rfl⟩
abbrev mX9_rejoin : MI := (yX9_rejoin, cX9_rejoin, 3, none)
theorem moX9_rejoin : MOk mX9_rejoin 1 := ⟨List.mem_filter.mpr ⟨List.mem_of_getElem? (i := 934) (by decide +kernel), by decide +kernel⟩, List.mem_filter.mpr ⟨List.mem_of_getElem? (i := 51) (by decide +kernel), by decide +kernel⟩, ⟨by decide +kernel, by decide +kernel⟩, by decide +kernel, by decide⟩
theorem mvX9_rejoin : MV mX9_rejoin 1 9 := ⟨moX9_rejoin, List.mem_filter.mpr ⟨List.mem_of_getElem? (i := 933) (by decide +kernel), by decide +kernel⟩, List.mem_filter.mpr ⟨List.mem_of_getElem? (i := 36) (by decide +kernel), by decide +kernel⟩, TX9, 35, rfl⟩
abbrev mX9_undo : MI := (yX9_undo, cX9_undo, 2, some (FieldType.int))
theorem moX9_undo : MOk mX9_undo 0 := ⟨List.mem_filter.mpr ⟨List.mem_of_getElem? (i := 938) (by decide +kernel), by decide +kernel⟩, List.mem_filter.mpr ⟨List.mem_of_getElem? (i := 51) (by decide +kernel), by decide +kernel⟩, ⟨by decide +kernel, by decide +kernel⟩, by decide +kernel, by decide⟩
theorem mvX9_undo : MV mX9_undo 0 9 := ⟨moX9_undo, List.mem_filter.mpr ⟨List.mem_of_getElem? (i := 936) (by decide +kernel), by decide +kernel⟩, List.mem_filter.mpr ⟨List.mem_of_getElem? (i := 937) (by decide +kernel), by decide +kernel⟩, TX9, 35, rfl⟩
abbrev mX9_best : MI := (yX9_best, cX9_best, 8, some (FieldType.int))
theorem moX9_best : MOk mX9_best 1 := ⟨List.mem_filter.mpr ⟨List.mem_of_getElem? (i := 942) (by decide +kernel), by decide +kernel⟩, List.mem_filter.mpr ⟨List.mem_of_getElem? (i := 51) (by decide +kernel), by decide +kernel⟩, ⟨by decide +kernel, by decide +kernel⟩, by decide +kernel, by decide⟩
theorem mvX9_best : MV mX9_best 1 9 := ⟨moX9_best, List.mem_filter.mpr ⟨List.mem_of_getElem? (i := 940) (by decide +kernel), by decide +kernel⟩, List.mem_filter.mpr ⟨List.mem_of_getElem? (i := 941) (by decide +kernel), by decide +kernel⟩, TX9, 35, rfl⟩
abbrev mX9_many : MI := (yX9_many, cX9_many, 3, some (FieldType.int))
theorem moX9_many : MOk mX9_many 1 := ⟨List.mem_filter.mpr ⟨List.mem_of_getElem? (i := 945) (by decide +kernel), by decide +kernel⟩, List.mem_filter.mpr ⟨List.mem_of_getElem? (i := 51) (by decide +kernel), by decide +kernel⟩, ⟨by decide +kernel, by decide +kernel⟩, by decide +kernel, by decide⟩
theorem msX9_many : MS mX9_many 1 := ⟨moX9_many, List.mem_filter.mpr ⟨List.mem_of_getElem? (i := 944) (by decide +kernel), by decide +kernel⟩⟩
abbrev mX9_fewest : MI := (yX9_fewest, cX9_fewest, 7, some (FieldType.int))
theorem moX9_fewest : MOk mX9_fewest 2 := ⟨List.mem_filter.mpr ⟨List.mem_of_getElem? (i := 949) (by decide +kernel), by decide +kernel⟩, List.mem_filter.mpr ⟨List.mem_of_getElem? (i := 51) (by decide +kernel), by decide +kernel⟩, ⟨by decide +kernel, by decide +kernel⟩, by decide +kernel, by decide⟩
theorem mvX9_fewest : MV mX9_fewest 2 9 := ⟨moX9_fewest, List.mem_filter.mpr ⟨List.mem_of_getElem? (i := 947) (by decide +kernel), by decide +kernel⟩, List.mem_filter.mpr ⟨List.mem_of_getElem? (i := 948) (by decide +kernel), by decide +kernel⟩, TX9, 35, rfl⟩
abbrev mX9_fair : MI := (yX9_fair, cX9_fair, 8, some (FieldType.int))
theorem moX9_fair : MOk mX9_fair 3 := ⟨List.mem_filter.mpr ⟨List.mem_of_getElem? (i := 953) (by decide +kernel), by decide +kernel⟩, List.mem_filter.mpr ⟨List.mem_of_getElem? (i := 51) (by decide +kernel), by decide +kernel⟩, ⟨by decide +kernel, by decide +kernel⟩, by decide +kernel, by decide⟩
theorem mvX9_fair : MV mX9_fair 3 9 := ⟨moX9_fair, List.mem_filter.mpr ⟨List.mem_of_getElem? (i := 951) (by decide +kernel), by decide +kernel⟩, List.mem_filter.mpr ⟨List.mem_of_getElem? (i := 952) (by decide +kernel), by decide +kernel⟩, TX9, 35, rfl⟩
abbrev mX9_worthOf : MI := (yX9_worthOf, cX9_worthOf, 5, some (FieldType.int))
theorem moX9_worthOf : MOk mX9_worthOf 2 := ⟨List.mem_filter.mpr ⟨List.mem_of_getElem? (i := 958) (by decide +kernel), by decide +kernel⟩, List.mem_filter.mpr ⟨List.mem_of_getElem? (i := 51) (by decide +kernel), by decide +kernel⟩, ⟨by decide +kernel, by decide +kernel⟩, by decide +kernel, by decide⟩
theorem mvX9_worthOf : MV mX9_worthOf 2 9 := ⟨moX9_worthOf, List.mem_filter.mpr ⟨List.mem_of_getElem? (i := 957) (by decide +kernel), by decide +kernel⟩, List.mem_filter.mpr ⟨List.mem_of_getElem? (i := 37) (by decide +kernel), by decide +kernel⟩, TX9, 35, rfl⟩
abbrev mX9_judge : MI := (yX9_judge, cX9_judge, 4, some (FieldType.int))
theorem moX9_judge : MOk mX9_judge 2 := ⟨List.mem_filter.mpr ⟨List.mem_of_getElem? (i := 962) (by decide +kernel), by decide +kernel⟩, List.mem_filter.mpr ⟨List.mem_of_getElem? (i := 51) (by decide +kernel), by decide +kernel⟩, ⟨by decide +kernel, by decide +kernel⟩, by decide +kernel, by decide⟩
theorem mvX9_judge : MV mX9_judge 2 9 := ⟨moX9_judge, List.mem_filter.mpr ⟨List.mem_of_getElem? (i := 960) (by decide +kernel), by decide +kernel⟩, List.mem_filter.mpr ⟨List.mem_of_getElem? (i := 961) (by decide +kernel), by decide +kernel⟩, TX9, 35, rfl⟩
abbrev mX9_does : MI := (yX9_does, cX9_does, 5, some (FieldType.boolean))
theorem moX9_does : MOk mX9_does 1 := ⟨List.mem_filter.mpr ⟨List.mem_of_getElem? (i := 966) (by decide +kernel), by decide +kernel⟩, List.mem_filter.mpr ⟨List.mem_of_getElem? (i := 51) (by decide +kernel), by decide +kernel⟩, ⟨by decide +kernel, by decide +kernel⟩, by decide +kernel, by decide⟩
theorem mvX9_does : MV mX9_does 1 9 := ⟨moX9_does, List.mem_filter.mpr ⟨List.mem_of_getElem? (i := 965) (by decide +kernel), by decide +kernel⟩, List.mem_filter.mpr ⟨List.mem_of_getElem? (i := 38) (by decide +kernel), by decide +kernel⟩, TX9, 35, rfl⟩
abbrev mX9_share : MI := (yX9_share, cX9_share, 7, some (FieldType.int))
theorem moX9_share : MOk mX9_share 3 := ⟨List.mem_filter.mpr ⟨List.mem_of_getElem? (i := 970) (by decide +kernel), by decide +kernel⟩, List.mem_filter.mpr ⟨List.mem_of_getElem? (i := 51) (by decide +kernel), by decide +kernel⟩, ⟨by decide +kernel, by decide +kernel⟩, by decide +kernel, by decide⟩
theorem mvX9_share : MV mX9_share 3 9 := ⟨moX9_share, List.mem_filter.mpr ⟨List.mem_of_getElem? (i := 968) (by decide +kernel), by decide +kernel⟩, List.mem_filter.mpr ⟨List.mem_of_getElem? (i := 969) (by decide +kernel), by decide +kernel⟩, TX9, 35, rfl⟩
abbrev mX9_ways : MI := (yX9_ways, cX9_ways, 3, some (FieldType.int))
theorem moX9_ways : MOk mX9_ways 1 := ⟨List.mem_filter.mpr ⟨List.mem_of_getElem? (i := 973) (by decide +kernel), by decide +kernel⟩, List.mem_filter.mpr ⟨List.mem_of_getElem? (i := 51) (by decide +kernel), by decide +kernel⟩, ⟨by decide +kernel, by decide +kernel⟩, by decide +kernel, by decide⟩
theorem msX9_ways : MS mX9_ways 1 := ⟨moX9_ways, List.mem_filter.mpr ⟨List.mem_of_getElem? (i := 972) (by decide +kernel), by decide +kernel⟩⟩
abbrev mX9_fraction : MI := (yX9_fraction, cX9_fraction, 4, some (FieldType.int))
theorem moX9_fraction : MOk mX9_fraction 3 := ⟨List.mem_filter.mpr ⟨List.mem_of_getElem? (i := 976) (by decide +kernel), by decide +kernel⟩, List.mem_filter.mpr ⟨List.mem_of_getElem? (i := 51) (by decide +kernel), by decide +kernel⟩, ⟨by decide +kernel, by decide +kernel⟩, by decide +kernel, by decide⟩
theorem msX9_fraction : MS mX9_fraction 3 := ⟨moX9_fraction, List.mem_filter.mpr ⟨List.mem_of_getElem? (i := 975) (by decide +kernel), by decide +kernel⟩⟩
abbrev mX9_divisor : MI := (yX9_divisor, cX9_divisor, 5, some (FieldType.int))
theorem moX9_divisor : MOk mX9_divisor 2 := ⟨List.mem_filter.mpr ⟨List.mem_of_getElem? (i := 979) (by decide +kernel), by decide +kernel⟩, List.mem_filter.mpr ⟨List.mem_of_getElem? (i := 51) (by decide +kernel), by decide +kernel⟩, ⟨by decide +kernel, by decide +kernel⟩, by decide +kernel, by decide⟩
theorem msX9_divisor : MS mX9_divisor 2 := ⟨moX9_divisor, List.mem_filter.mpr ⟨List.mem_of_getElem? (i := 978) (by decide +kernel), by decide +kernel⟩⟩
abbrev mX9_see : MI := (yX9_see, cX9_see, 3, some (FieldType.int))
theorem moX9_see : MOk mX9_see 2 := ⟨List.mem_filter.mpr ⟨List.mem_of_getElem? (i := 983) (by decide +kernel), by decide +kernel⟩, List.mem_filter.mpr ⟨List.mem_of_getElem? (i := 51) (by decide +kernel), by decide +kernel⟩, ⟨by decide +kernel, by decide +kernel⟩, by decide +kernel, by decide⟩
theorem mvX9_see : MV mX9_see 2 9 := ⟨moX9_see, List.mem_filter.mpr ⟨List.mem_of_getElem? (i := 981) (by decide +kernel), by decide +kernel⟩, List.mem_filter.mpr ⟨List.mem_of_getElem? (i := 982) (by decide +kernel), by decide +kernel⟩, TX9, 35, rfl⟩
abbrev mX9_unsee : MI := (yX9_unsee, cX9_unsee, 2, some (FieldType.int))
theorem moX9_unsee : MOk mX9_unsee 0 := ⟨List.mem_filter.mpr ⟨List.mem_of_getElem? (i := 988) (by decide +kernel), by decide +kernel⟩, List.mem_filter.mpr ⟨List.mem_of_getElem? (i := 51) (by decide +kernel), by decide +kernel⟩, ⟨by decide +kernel, by decide +kernel⟩, by decide +kernel, by decide⟩
theorem mvX9_unsee : MV mX9_unsee 0 9 := ⟨moX9_unsee, List.mem_filter.mpr ⟨List.mem_of_getElem? (i := 986) (by decide +kernel), by decide +kernel⟩, List.mem_filter.mpr ⟨List.mem_of_getElem? (i := 987) (by decide +kernel), by decide +kernel⟩, TX9, 35, rfl⟩
abbrev mX9_traces : MI := (yX9_traces, cX9_traces, 4, some (FieldType.int))
theorem moX9_traces : MOk mX9_traces 1 := ⟨List.mem_filter.mpr ⟨List.mem_of_getElem? (i := 992) (by decide +kernel), by decide +kernel⟩, List.mem_filter.mpr ⟨List.mem_of_getElem? (i := 51) (by decide +kernel), by decide +kernel⟩, ⟨by decide +kernel, by decide +kernel⟩, by decide +kernel, by decide⟩
theorem mvX9_traces : MV mX9_traces 1 9 := ⟨moX9_traces, List.mem_filter.mpr ⟨List.mem_of_getElem? (i := 990) (by decide +kernel), by decide +kernel⟩, List.mem_filter.mpr ⟨List.mem_of_getElem? (i := 991) (by decide +kernel), by decide +kernel⟩, TX9, 35, rfl⟩
abbrev mX9_isSeen : MI := (yX9_isSeen, cX9_isSeen, 5, some (FieldType.boolean))
theorem moX9_isSeen : MOk mX9_isSeen 0 := ⟨List.mem_filter.mpr ⟨List.mem_of_getElem? (i := 996) (by decide +kernel), by decide +kernel⟩, List.mem_filter.mpr ⟨List.mem_of_getElem? (i := 51) (by decide +kernel), by decide +kernel⟩, ⟨by decide +kernel, by decide +kernel⟩, by decide +kernel, by decide⟩
theorem mvX9_isSeen : MV mX9_isSeen 0 9 := ⟨moX9_isSeen, List.mem_filter.mpr ⟨List.mem_of_getElem? (i := 995) (by decide +kernel), by decide +kernel⟩, List.mem_filter.mpr ⟨List.mem_of_getElem? (i := 39) (by decide +kernel), by decide +kernel⟩, TX9, 35, rfl⟩
abbrev mX9_rests : MI := (yX9_rests, cX9_rests, 5, some (FieldType.int))
theorem moX9_rests : MOk mX9_rests 1 := ⟨List.mem_filter.mpr ⟨List.mem_of_getElem? (i := 1000) (by decide +kernel), by decide +kernel⟩, List.mem_filter.mpr ⟨List.mem_of_getElem? (i := 51) (by decide +kernel), by decide +kernel⟩, ⟨by decide +kernel, by decide +kernel⟩, by decide +kernel, by decide⟩
theorem mvX9_rests : MV mX9_rests 1 9 := ⟨moX9_rests, List.mem_filter.mpr ⟨List.mem_of_getElem? (i := 998) (by decide +kernel), by decide +kernel⟩, List.mem_filter.mpr ⟨List.mem_of_getElem? (i := 999) (by decide +kernel), by decide +kernel⟩, TX9, 35, rfl⟩
abbrev mX9_pulled : MI := (yX9_pulled, cX9_pulled, 7, some (FieldType.int))
theorem moX9_pulled : MOk mX9_pulled 3 := ⟨List.mem_filter.mpr ⟨List.mem_of_getElem? (i := 1004) (by decide +kernel), by decide +kernel⟩, List.mem_filter.mpr ⟨List.mem_of_getElem? (i := 51) (by decide +kernel), by decide +kernel⟩, ⟨by decide +kernel, by decide +kernel⟩, by decide +kernel, by decide⟩
theorem mvX9_pulled : MV mX9_pulled 3 9 := ⟨moX9_pulled, List.mem_filter.mpr ⟨List.mem_of_getElem? (i := 1003) (by decide +kernel), by decide +kernel⟩, List.mem_filter.mpr ⟨List.mem_of_getElem? (i := 40) (by decide +kernel), by decide +kernel⟩, TX9, 35, rfl⟩
abbrev mX9_slips : MI := (yX9_slips, cX9_slips, 8, some (FieldType.int))
theorem moX9_slips : MOk mX9_slips 4 := ⟨List.mem_filter.mpr ⟨List.mem_of_getElem? (i := 1008) (by decide +kernel), by decide +kernel⟩, List.mem_filter.mpr ⟨List.mem_of_getElem? (i := 51) (by decide +kernel), by decide +kernel⟩, ⟨by decide +kernel, by decide +kernel⟩, by decide +kernel, by decide⟩
theorem mvX9_slips : MV mX9_slips 4 9 := ⟨moX9_slips, List.mem_filter.mpr ⟨List.mem_of_getElem? (i := 1006) (by decide +kernel), by decide +kernel⟩, List.mem_filter.mpr ⟨List.mem_of_getElem? (i := 1007) (by decide +kernel), by decide +kernel⟩, TX9, 35, rfl⟩
abbrev mX9_seed : MI := (yX9_seed, cX9_seed, 5, some (FieldType.long))
theorem moX9_seed : MOk mX9_seed 1 := ⟨List.mem_filter.mpr ⟨List.mem_of_getElem? (i := 1013) (by decide +kernel), by decide +kernel⟩, List.mem_filter.mpr ⟨List.mem_of_getElem? (i := 51) (by decide +kernel), by decide +kernel⟩, ⟨by decide +kernel, by decide +kernel⟩, by decide +kernel, by decide⟩
theorem mvX9_seed : MV mX9_seed 1 9 := ⟨moX9_seed, List.mem_filter.mpr ⟨List.mem_of_getElem? (i := 1011) (by decide +kernel), by decide +kernel⟩, List.mem_filter.mpr ⟨List.mem_of_getElem? (i := 1012) (by decide +kernel), by decide +kernel⟩, TX9, 35, rfl⟩
abbrev mX9_years : MI := (yX9_years, cX9_years, 5, some (FieldType.int))
theorem moX9_years : MOk mX9_years 1 := ⟨List.mem_filter.mpr ⟨List.mem_of_getElem? (i := 1017) (by decide +kernel), by decide +kernel⟩, List.mem_filter.mpr ⟨List.mem_of_getElem? (i := 51) (by decide +kernel), by decide +kernel⟩, ⟨by decide +kernel, by decide +kernel⟩, by decide +kernel, by decide⟩
theorem mvX9_years : MV mX9_years 1 9 := ⟨moX9_years, List.mem_filter.mpr ⟨List.mem_of_getElem? (i := 1015) (by decide +kernel), by decide +kernel⟩, List.mem_filter.mpr ⟨List.mem_of_getElem? (i := 1016) (by decide +kernel), by decide +kernel⟩, TX9, 35, rfl⟩
abbrev mX9_keep : MI := (yX9_keep, cX9_keep, 3, some (FieldType.int))
theorem moX9_keep : MOk mX9_keep 1 := ⟨List.mem_filter.mpr ⟨List.mem_of_getElem? (i := 1025) (by decide +kernel), by decide +kernel⟩, List.mem_filter.mpr ⟨List.mem_of_getElem? (i := 51) (by decide +kernel), by decide +kernel⟩, ⟨by decide +kernel, by decide +kernel⟩, by decide +kernel, by decide⟩
theorem mvX9_keep : MV mX9_keep 1 9 := ⟨moX9_keep, List.mem_filter.mpr ⟨List.mem_of_getElem? (i := 1023) (by decide +kernel), by decide +kernel⟩, List.mem_filter.mpr ⟨List.mem_of_getElem? (i := 1024) (by decide +kernel), by decide +kernel⟩, TX9, 35, rfl⟩
abbrev mX9_again : MI := (yX9_again, cX9_again, 3, some (FieldType.int))
theorem moX9_again : MOk mX9_again 1 := ⟨List.mem_filter.mpr ⟨List.mem_of_getElem? (i := 1029) (by decide +kernel), by decide +kernel⟩, List.mem_filter.mpr ⟨List.mem_of_getElem? (i := 51) (by decide +kernel), by decide +kernel⟩, ⟨by decide +kernel, by decide +kernel⟩, by decide +kernel, by decide⟩
theorem mvX9_again : MV mX9_again 1 9 := ⟨moX9_again, List.mem_filter.mpr ⟨List.mem_of_getElem? (i := 1027) (by decide +kernel), by decide +kernel⟩, List.mem_filter.mpr ⟨List.mem_of_getElem? (i := 1028) (by decide +kernel), by decide +kernel⟩, TX9, 35, rfl⟩
theorem kL_9 : Cond.methodLink RL 9 mX8_init.1 ∈ tblG := List.mem_filter.mpr ⟨List.mem_of_getElem? (i := 58) (by decide +kernel), by decide +kernel⟩
theorem kX8_28 : Cond.methodLink RX8 28 mX4_init.1 ∈ tblG := List.mem_filter.mpr ⟨List.mem_of_getElem? (i := 127) (by decide +kernel), by decide +kernel⟩
theorem kX8_55 : Cond.methodLink RX8 55 mX5_init.1 ∈ tblG := List.mem_filter.mpr ⟨List.mem_of_getElem? (i := 172) (by decide +kernel), by decide +kernel⟩
theorem kL_13 : Cond.methodLink RL 13 mX8_write.1 ∈ tblG := List.mem_filter.mpr ⟨List.mem_of_getElem? (i := 280) (by decide +kernel), by decide +kernel⟩
theorem kX8_85 : Cond.methodLink RX8 85 mX6_append.1 ∈ tblG := List.mem_filter.mpr ⟨List.mem_of_getElem? (i := 284) (by decide +kernel), by decide +kernel⟩
theorem kL_18 : Cond.methodLink RL 18 mX8_wipe.1 ∈ tblG := List.mem_filter.mpr ⟨List.mem_of_getElem? (i := 288) (by decide +kernel), by decide +kernel⟩
theorem kL_23 : Cond.methodLink RL 23 mX8_fault.1 ∈ tblG := List.mem_filter.mpr ⟨List.mem_of_getElem? (i := 292) (by decide +kernel), by decide +kernel⟩
theorem kX8_93 : Cond.methodLink RX8 93 mX6_readInto.1 ∈ tblG := List.mem_filter.mpr ⟨List.mem_of_getElem? (i := 296) (by decide +kernel), by decide +kernel⟩
theorem kX6_19 : Cond.methodLink RX6 19 mX1_begin.1 ∈ tblG := List.mem_filter.mpr ⟨List.mem_of_getElem? (i := 300) (by decide +kernel), by decide +kernel⟩
theorem kX6_24 : Cond.methodLink RX6 24 mX1_take.1 ∈ tblG := List.mem_filter.mpr ⟨List.mem_of_getElem? (i := 304) (by decide +kernel), by decide +kernel⟩
theorem kX1_40 : Cond.methodLink RX1 40 mX1_takeStart.1 ∈ tblG := List.mem_filter.mpr ⟨List.mem_of_getElem? (i := 308) (by decide +kernel), by decide +kernel⟩
theorem kX1_44 : Cond.methodLink RX1 44 mX1_takeThing.1 ∈ tblG := List.mem_filter.mpr ⟨List.mem_of_getElem? (i := 312) (by decide +kernel), by decide +kernel⟩
theorem kX1_47 : Cond.methodLink RX1 47 mX1_takeKind.1 ∈ tblG := List.mem_filter.mpr ⟨List.mem_of_getElem? (i := 316) (by decide +kernel), by decide +kernel⟩
theorem kX1_50 : Cond.methodLink RX1 50 mX1_takeCell.1 ∈ tblG := List.mem_filter.mpr ⟨List.mem_of_getElem? (i := 320) (by decide +kernel), by decide +kernel⟩
theorem kX1_53 : Cond.methodLink RX1 53 mX1_takePart.1 ∈ tblG := List.mem_filter.mpr ⟨List.mem_of_getElem? (i := 324) (by decide +kernel), by decide +kernel⟩
theorem kX1_56 : Cond.methodLink RX1 56 mX1_takeNeed.1 ∈ tblG := List.mem_filter.mpr ⟨List.mem_of_getElem? (i := 328) (by decide +kernel), by decide +kernel⟩
theorem kX6_28 : Cond.methodLink RX6 28 mX1_isWhole.1 ∈ tblG := List.mem_filter.mpr ⟨List.mem_of_getElem? (i := 332) (by decide +kernel), by decide +kernel⟩
theorem kL_27 : Cond.methodLink RL 27 mX8_family.1 ∈ tblG := List.mem_filter.mpr ⟨List.mem_of_getElem? (i := 336) (by decide +kernel), by decide +kernel⟩
theorem kX8_97 : Cond.methodLink RX8 97 mX4_begin.1 ∈ tblG := List.mem_filter.mpr ⟨List.mem_of_getElem? (i := 340) (by decide +kernel), by decide +kernel⟩
theorem kX4_25 : Cond.methodLink RX4 25 arraycopyName ∈ tblG := List.mem_filter.mpr ⟨List.mem_of_getElem? (i := 344) (by decide +kernel), by decide +kernel⟩
theorem kX4_31 : Cond.methodLink RX4 31 mJ7_fill_53178.1 ∈ tblG ∨ ∃ host, Cond.methodLinkNest RX4 31 mJ7_fill_53178.1 host ∈ nestW := Or.inl (List.mem_filter.mpr ⟨List.mem_of_getElem? (i := 347) (by decide +kernel), by decide +kernel⟩)
theorem kX8_100 : Cond.methodLink RX8 100 mX0_forget.1 ∈ tblG := List.mem_filter.mpr ⟨List.mem_of_getElem? (i := 350) (by decide +kernel), by decide +kernel⟩
theorem kL_31 : Cond.methodLink RL 31 mX8_about.1 ∈ tblG := List.mem_filter.mpr ⟨List.mem_of_getElem? (i := 354) (by decide +kernel), by decide +kernel⟩
theorem kX8_115 : Cond.methodLink RX8 115 mX4_wireNumber.1 ∈ tblG := List.mem_filter.mpr ⟨List.mem_of_getElem? (i := 358) (by decide +kernel), by decide +kernel⟩
theorem kX8_119 : Cond.methodLink RX8 119 mX4_slipCount.1 ∈ tblG := List.mem_filter.mpr ⟨List.mem_of_getElem? (i := 365) (by decide +kernel), by decide +kernel⟩
theorem kX8_122 : Cond.methodLink RX8 122 mX8_talliedNow.1 ∈ tblG := List.mem_filter.mpr ⟨List.mem_of_getElem? (i := 369) (by decide +kernel), by decide +kernel⟩
theorem kX8_209 : Cond.methodLink RX8 209 mX5_take.1 ∈ tblG := List.mem_filter.mpr ⟨List.mem_of_getElem? (i := 373) (by decide +kernel), by decide +kernel⟩
theorem kX5_22 : Cond.methodLink RX5 22 mX5_countCells.1 ∈ tblG := List.mem_filter.mpr ⟨List.mem_of_getElem? (i := 377) (by decide +kernel), by decide +kernel⟩
theorem kX5_26 : Cond.methodLink RX5 26 mJ7_fill_53178.1 ∈ tblG ∨ ∃ host, Cond.methodLinkNest RX5 26 mJ7_fill_53178.1 host ∈ nestW := Or.inl (List.mem_filter.mpr ⟨List.mem_of_getElem? (i := 381) (by decide +kernel), by decide +kernel⟩)
theorem kX5_42 : Cond.methodLink RX5 42 mX5_halvesFor.1 ∈ tblG := List.mem_filter.mpr ⟨List.mem_of_getElem? (i := 388) (by decide +kernel), by decide +kernel⟩
theorem kX5_55 : Cond.methodLink RX5 55 mX5_isParted.1 ∈ tblG := List.mem_filter.mpr ⟨List.mem_of_getElem? (i := 395) (by decide +kernel), by decide +kernel⟩
theorem kX5_59 : Cond.methodLink RX5 59 mX5_cellsIn.1 ∈ tblG := List.mem_filter.mpr ⟨List.mem_of_getElem? (i := 399) (by decide +kernel), by decide +kernel⟩
theorem kX8_126 : Cond.methodLink RX8 126 mX5_partedBits.1 ∈ tblG := List.mem_filter.mpr ⟨List.mem_of_getElem? (i := 403) (by decide +kernel), by decide +kernel⟩
theorem kX8_129 : Cond.methodLink RX8 129 mX8_wireCount.1 ∈ tblG := List.mem_filter.mpr ⟨List.mem_of_getElem? (i := 407) (by decide +kernel), by decide +kernel⟩
theorem kX8_201 : Cond.methodLink RX8 201 mX7_begin.1 ∈ tblG := List.mem_filter.mpr ⟨List.mem_of_getElem? (i := 411) (by decide +kernel), by decide +kernel⟩
theorem kX7_15 : Cond.methodLink RX7 15 mJ9_min_7cf53.1 ∈ tblG ∨ ∃ host, Cond.methodLinkNest RX7 15 mJ9_min_7cf53.1 host ∈ nestW := Or.inl (List.mem_filter.mpr ⟨List.mem_of_getElem? (i := 415) (by decide +kernel), by decide +kernel⟩)
theorem kX7_25 : Cond.methodLink RX7 25 mJ7_fill_53178.1 ∈ tblG ∨ ∃ host, Cond.methodLinkNest RX7 25 mJ7_fill_53178.1 host ∈ nestW := Or.inl (List.mem_filter.mpr ⟨List.mem_of_getElem? (i := 418) (by decide +kernel), by decide +kernel⟩)
theorem kX8_226 : Cond.methodLink RX8 226 mX7_advance.1 ∈ tblG := List.mem_filter.mpr ⟨List.mem_of_getElem? (i := 419) (by decide +kernel), by decide +kernel⟩
theorem kX7_39 : Cond.methodLink RX7 39 mX7_putLeastBehind.1 ∈ tblG := List.mem_filter.mpr ⟨List.mem_of_getElem? (i := 423) (by decide +kernel), by decide +kernel⟩
theorem kX7_43 : Cond.methodLink RX7 43 mJ9_max_7cf53.1 ∈ tblG ∨ ∃ host, Cond.methodLinkNest RX7 43 mJ9_max_7cf53.1 host ∈ nestW := Or.inl (List.mem_filter.mpr ⟨List.mem_of_getElem? (i := 427) (by decide +kernel), by decide +kernel⟩)
theorem kL_35 : Cond.methodLink RL 35 mX8_cell.1 ∈ tblG := List.mem_filter.mpr ⟨List.mem_of_getElem? (i := 430) (by decide +kernel), by decide +kernel⟩
theorem kX8_136 : Cond.methodLink RX8 136 mX8_isRow.1 ∈ tblG := List.mem_filter.mpr ⟨List.mem_of_getElem? (i := 434) (by decide +kernel), by decide +kernel⟩
theorem kX8_146 : Cond.methodLink RX8 146 mX8_halfOf.1 ∈ tblG ∨ ∃ host, Cond.methodLinkNest RX8 146 mX8_halfOf.1 host ∈ nestW := Or.inl (List.mem_filter.mpr ⟨List.mem_of_getElem? (i := 438) (by decide +kernel), by decide +kernel⟩)
theorem kX8_150 : Cond.methodLink RX8 150 mX8_kinOf.1 ∈ tblG ∨ ∃ host, Cond.methodLinkNest RX8 150 mX8_kinOf.1 host ∈ nestW := Or.inl (List.mem_filter.mpr ⟨List.mem_of_getElem? (i := 439) (by decide +kernel), by decide +kernel⟩)
theorem kX8_154 : Cond.methodLink RX8 154 mX8_partOf.1 ∈ tblG ∨ ∃ host, Cond.methodLinkNest RX8 154 mX8_partOf.1 host ∈ nestW := Or.inl (List.mem_filter.mpr ⟨List.mem_of_getElem? (i := 440) (by decide +kernel), by decide +kernel⟩)
theorem kX8_157 : Cond.methodLink RX8 157 mX5_halvesFor.1 ∈ tblG := List.mem_filter.mpr ⟨List.mem_of_getElem? (i := 441) (by decide +kernel), by decide +kernel⟩
theorem kL_40 : Cond.methodLink RL 40 mX8_kin.1 ∈ tblG := List.mem_filter.mpr ⟨List.mem_of_getElem? (i := 442) (by decide +kernel), by decide +kernel⟩
theorem kX8_160 : Cond.methodLink RX8 160 mX8_isKin.1 ∈ tblG := List.mem_filter.mpr ⟨List.mem_of_getElem? (i := 446) (by decide +kernel), by decide +kernel⟩
theorem kX8_166 : Cond.methodLink RX8 166 mX5_cellsIn.1 ∈ tblG := List.mem_filter.mpr ⟨List.mem_of_getElem? (i := 450) (by decide +kernel), by decide +kernel⟩
theorem kX8_169 : Cond.methodLink RX8 169 mX5_countedOf.1 ∈ tblG := List.mem_filter.mpr ⟨List.mem_of_getElem? (i := 451) (by decide +kernel), by decide +kernel⟩
theorem kL_45 : Cond.methodLink RL 45 mX8_has.1 ∈ tblG := List.mem_filter.mpr ⟨List.mem_of_getElem? (i := 455) (by decide +kernel), by decide +kernel⟩
theorem kX8_172 : Cond.methodLink RX8 172 mX8_isHalf.1 ∈ tblG ∨ ∃ host, Cond.methodLinkNest RX8 172 mX8_isHalf.1 host ∈ nestW := Or.inl (List.mem_filter.mpr ⟨List.mem_of_getElem? (i := 459) (by decide +kernel), by decide +kernel⟩)
theorem kX8_175 : Cond.methodLink RX8 175 mX5_counted.1 ∈ tblG := List.mem_filter.mpr ⟨List.mem_of_getElem? (i := 462) (by decide +kernel), by decide +kernel⟩
theorem kL_49 : Cond.methodLink RL 49 mX8_can.1 ∈ tblG := List.mem_filter.mpr ⟨List.mem_of_getElem? (i := 466) (by decide +kernel), by decide +kernel⟩
theorem kX8_179 : Cond.methodLink RX8 179 mX5_deedBits.1 ∈ tblG := List.mem_filter.mpr ⟨List.mem_of_getElem? (i := 470) (by decide +kernel), by decide +kernel⟩
theorem kX5_87 : Cond.methodLink RX5 87 mX5_isDone.1 ∈ tblG := List.mem_filter.mpr ⟨List.mem_of_getElem? (i := 474) (by decide +kernel), by decide +kernel⟩
theorem kX5_77 : Cond.methodLink RX5 77 mX5_counted.1 ∈ tblG := List.mem_filter.mpr ⟨List.mem_of_getElem? (i := 478) (by decide +kernel), by decide +kernel⟩
theorem kL_53 : Cond.methodLink RL 53 mX8_draw.1 ∈ tblG := List.mem_filter.mpr ⟨List.mem_of_getElem? (i := 479) (by decide +kernel), by decide +kernel⟩
theorem kX8_182 : Cond.methodLink RX8 182 mX4_moveWire.1 ∈ tblG := List.mem_filter.mpr ⟨List.mem_of_getElem? (i := 483) (by decide +kernel), by decide +kernel⟩
theorem kX4_59 : Cond.methodLink RX4 59 mX4_isNear.1 ∈ tblG := List.mem_filter.mpr ⟨List.mem_of_getElem? (i := 487) (by decide +kernel), by decide +kernel⟩
theorem kX4_62 : Cond.methodLink RX4 62 mJ9_abs_0f7a4.1 ∈ tblG ∨ ∃ host, Cond.methodLinkNest RX4 62 mJ9_abs_0f7a4.1 host ∈ nestW := Or.inl (List.mem_filter.mpr ⟨List.mem_of_getElem? (i := 491) (by decide +kernel), by decide +kernel⟩)
theorem kX8_186 : Cond.methodLink RX8 186 mX0_note.1 ∈ tblG := List.mem_filter.mpr ⟨List.mem_of_getElem? (i := 494) (by decide +kernel), by decide +kernel⟩
theorem kX0_25 : Cond.methodLink RX0 25 mX0_forgetFirst.1 ∈ tblG := List.mem_filter.mpr ⟨List.mem_of_getElem? (i := 498) (by decide +kernel), by decide +kernel⟩
theorem kX0_28 : Cond.methodLink RX0 28 arraycopyName ∈ tblG := List.mem_filter.mpr ⟨List.mem_of_getElem? (i := 502) (by decide +kernel), by decide +kernel⟩
theorem kL_57 : Cond.methodLink RL 57 mX8_change.1 ∈ tblG := List.mem_filter.mpr ⟨List.mem_of_getElem? (i := 503) (by decide +kernel), by decide +kernel⟩
theorem kX8_190 : Cond.methodLink RX8 190 mX4_swapAtWire.1 ∈ tblG := List.mem_filter.mpr ⟨List.mem_of_getElem? (i := 507) (by decide +kernel), by decide +kernel⟩
theorem kL_61 : Cond.methodLink RL 61 mX8_join.1 ∈ tblG := List.mem_filter.mpr ⟨List.mem_of_getElem? (i := 511) (by decide +kernel), by decide +kernel⟩
theorem kX8_193 : Cond.methodLink RX8 193 mX4_joinFaces.1 ∈ tblG := List.mem_filter.mpr ⟨List.mem_of_getElem? (i := 515) (by decide +kernel), by decide +kernel⟩
theorem kX4_68 : Cond.methodLink RX4 68 mX4_slipCount.1 ∈ tblG := List.mem_filter.mpr ⟨List.mem_of_getElem? (i := 519) (by decide +kernel), by decide +kernel⟩
theorem kL_65 : Cond.methodLink RL 65 mX8_undo.1 ∈ tblG := List.mem_filter.mpr ⟨List.mem_of_getElem? (i := 520) (by decide +kernel), by decide +kernel⟩
theorem kX8_196 : Cond.methodLink RX8 196 mX0_takeBack.1 ∈ tblG := List.mem_filter.mpr ⟨List.mem_of_getElem? (i := 524) (by decide +kernel), by decide +kernel⟩
theorem kX0_34 : Cond.methodLink RX0 34 mX4_setWire.1 ∈ tblG := List.mem_filter.mpr ⟨List.mem_of_getElem? (i := 528) (by decide +kernel), by decide +kernel⟩
theorem kX0_43 : Cond.methodLink RX0 43 mX4_swapAtWire.1 ∈ tblG := List.mem_filter.mpr ⟨List.mem_of_getElem? (i := 532) (by decide +kernel), by decide +kernel⟩
theorem kL_69 : Cond.methodLink RL 69 mX8_best.1 ∈ tblG := List.mem_filter.mpr ⟨List.mem_of_getElem? (i := 533) (by decide +kernel), by decide +kernel⟩
theorem kX8_200 : Cond.methodLink RX8 200 mX2_begin.1 ∈ tblG := List.mem_filter.mpr ⟨List.mem_of_getElem? (i := 537) (by decide +kernel), by decide +kernel⟩
theorem kX8_213 : Cond.methodLink RX8 213 mX5_deedCount.1 ∈ tblG := List.mem_filter.mpr ⟨List.mem_of_getElem? (i := 541) (by decide +kernel), by decide +kernel⟩
theorem kX5_91 : Cond.methodLink RX5 91 mX5_deedBits.1 ∈ tblG := List.mem_filter.mpr ⟨List.mem_of_getElem? (i := 545) (by decide +kernel), by decide +kernel⟩
theorem kX5_69 : Cond.methodLink RX5 69 mJ6_bitCount_0f7a4.1 ∈ tblG ∨ ∃ host, Cond.methodLinkNest RX5 69 mJ6_bitCount_0f7a4.1 host ∈ nestW := Or.inl (List.mem_filter.mpr ⟨List.mem_of_getElem? (i := 546) (by decide +kernel), by decide +kernel⟩)
theorem kX8_216 : Cond.methodLink RX8 216 mX5_partedCount.1 ∈ tblG := List.mem_filter.mpr ⟨List.mem_of_getElem? (i := 552) (by decide +kernel), by decide +kernel⟩
theorem kX5_65 : Cond.methodLink RX5 65 mX5_partedBits.1 ∈ tblG := List.mem_filter.mpr ⟨List.mem_of_getElem? (i := 556) (by decide +kernel), by decide +kernel⟩
theorem kX8_219 : Cond.methodLink RX8 219 mX7_figures.1 ∈ tblG := List.mem_filter.mpr ⟨List.mem_of_getElem? (i := 557) (by decide +kernel), by decide +kernel⟩
theorem kX8_222 : Cond.methodLink RX8 222 mX2_offer.1 ∈ tblG := List.mem_filter.mpr ⟨List.mem_of_getElem? (i := 562) (by decide +kernel), by decide +kernel⟩
theorem kL_73 : Cond.methodLink RL 73 mX8_fewest.1 ∈ tblG := List.mem_filter.mpr ⟨List.mem_of_getElem? (i := 566) (by decide +kernel), by decide +kernel⟩
theorem kX8_235 : Cond.methodLink RX8 235 mX8_isDeed.1 ∈ tblG := List.mem_filter.mpr ⟨List.mem_of_getElem? (i := 570) (by decide +kernel), by decide +kernel⟩
theorem kX8_238 : Cond.methodLink RX8 238 mX5_isDone.1 ∈ tblG := List.mem_filter.mpr ⟨List.mem_of_getElem? (i := 574) (by decide +kernel), by decide +kernel⟩
theorem kL_77 : Cond.methodLink RL 77 mX8_fair.1 ∈ tblG := List.mem_filter.mpr ⟨List.mem_of_getElem? (i := 575) (by decide +kernel), by decide +kernel⟩
theorem kX8_242 : Cond.methodLink RX8 242 mX8_isWorth.1 ∈ tblG ∨ ∃ host, Cond.methodLinkNest RX8 242 mX8_isWorth.1 host ∈ nestW := Or.inl (List.mem_filter.mpr ⟨List.mem_of_getElem? (i := 579) (by decide +kernel), by decide +kernel⟩)
theorem kX8_245 : Cond.methodLink RX8 245 mX5_worth.1 ∈ tblG := List.mem_filter.mpr ⟨List.mem_of_getElem? (i := 582) (by decide +kernel), by decide +kernel⟩
theorem kL_81 : Cond.methodLink RL 81 mX8_judge.1 ∈ tblG := List.mem_filter.mpr ⟨List.mem_of_getElem? (i := 586) (by decide +kernel), by decide +kernel⟩
theorem kX8_249 : Cond.methodLink RX8 249 mX4_copyOf.1 ∈ tblG := List.mem_filter.mpr ⟨List.mem_of_getElem? (i := 590) (by decide +kernel), by decide +kernel⟩
theorem kX8_252 : Cond.methodLink RX8 252 mX4_act.1 ∈ tblG := List.mem_filter.mpr ⟨List.mem_of_getElem? (i := 594) (by decide +kernel), by decide +kernel⟩
theorem kX4_48 : Cond.methodLink RX4 48 mX4_moveWire.1 ∈ tblG := List.mem_filter.mpr ⟨List.mem_of_getElem? (i := 598) (by decide +kernel), by decide +kernel⟩
theorem kX4_52 : Cond.methodLink RX4 52 mX4_swapAtWire.1 ∈ tblG := List.mem_filter.mpr ⟨List.mem_of_getElem? (i := 599) (by decide +kernel), by decide +kernel⟩
theorem kX4_56 : Cond.methodLink RX4 56 mX4_joinFaces.1 ∈ tblG := List.mem_filter.mpr ⟨List.mem_of_getElem? (i := 600) (by decide +kernel), by decide +kernel⟩
theorem kL_85 : Cond.methodLink RL 85 mX8_share.1 ∈ tblG := List.mem_filter.mpr ⟨List.mem_of_getElem? (i := 601) (by decide +kernel), by decide +kernel⟩
theorem kX8_255 : Cond.methodLink RX8 255 mJ6_bitCount_0f7a4.1 ∈ tblG ∨ ∃ host, Cond.methodLinkNest RX8 255 mJ6_bitCount_0f7a4.1 host ∈ nestW := Or.inl (List.mem_filter.mpr ⟨List.mem_of_getElem? (i := 605) (by decide +kernel), by decide +kernel⟩)
theorem kX8_260 : Cond.methodLink RX8 260 mX8_ordersWith.1 ∈ tblG := List.mem_filter.mpr ⟨List.mem_of_getElem? (i := 606) (by decide +kernel), by decide +kernel⟩
theorem kX8_266 : Cond.methodLink RX8 266 mX8_fraction.1 ∈ tblG ∨ ∃ host, Cond.methodLinkNest RX8 266 mX8_fraction.1 host ∈ nestW := Or.inl (List.mem_filter.mpr ⟨List.mem_of_getElem? (i := 612) (by decide +kernel), by decide +kernel⟩)
theorem kX8_296 : Cond.methodLink RX8 296 mX8_commonDivisor.1 ∈ tblG ∨ ∃ host, Cond.methodLinkNest RX8 296 mX8_commonDivisor.1 host ∈ nestW := Or.inl (List.mem_filter.mpr ⟨List.mem_of_getElem? (i := 615) (by decide +kernel), by decide +kernel⟩)
theorem kL_90 : Cond.methodLink RL 90 mX8_see.1 ∈ tblG := List.mem_filter.mpr ⟨List.mem_of_getElem? (i := 618) (by decide +kernel), by decide +kernel⟩
theorem kX8_270 : Cond.methodLink RX8 270 mX3_append.1 ∈ tblG := List.mem_filter.mpr ⟨List.mem_of_getElem? (i := 622) (by decide +kernel), by decide +kernel⟩
theorem kL_94 : Cond.methodLink RL 94 mX8_unsee.1 ∈ tblG := List.mem_filter.mpr ⟨List.mem_of_getElem? (i := 626) (by decide +kernel), by decide +kernel⟩
theorem kL_98 : Cond.methodLink RL 98 mX8_traces.1 ∈ tblG := List.mem_filter.mpr ⟨List.mem_of_getElem? (i := 630) (by decide +kernel), by decide +kernel⟩
theorem kX8_272 : Cond.methodLink RX8 272 mX3_agreesWith.1 ∈ tblG := List.mem_filter.mpr ⟨List.mem_of_getElem? (i := 634) (by decide +kernel), by decide +kernel⟩
theorem kX3_22 : Cond.methodLink RX3 22 mX3_isSo.1 ∈ tblG ∨ ∃ host, Cond.methodLinkNest RX3 22 mX3_isSo.1 host ∈ nestW := Or.inl (List.mem_filter.mpr ⟨List.mem_of_getElem? (i := 638) (by decide +kernel), by decide +kernel⟩)
theorem kX3_26 : Cond.methodLink RX3 26 mX5_cellsIn.1 ∈ tblG := List.mem_filter.mpr ⟨List.mem_of_getElem? (i := 641) (by decide +kernel), by decide +kernel⟩
theorem kL_102 : Cond.methodLink RL 102 mX8_rests.1 ∈ tblG := List.mem_filter.mpr ⟨List.mem_of_getElem? (i := 642) (by decide +kernel), by decide +kernel⟩
theorem kX8_276 : Cond.methodLink RX8 276 mX8_isAtRest.1 ∈ tblG := List.mem_filter.mpr ⟨List.mem_of_getElem? (i := 646) (by decide +kernel), by decide +kernel⟩
theorem kX8_290 : Cond.methodLink RX8 290 mX8_holding.1 ∈ tblG := List.mem_filter.mpr ⟨List.mem_of_getElem? (i := 650) (by decide +kernel), by decide +kernel⟩
theorem kX8_279 : Cond.methodLink RX8 279 mJ9_min_7cf53.1 ∈ tblG ∨ ∃ host, Cond.methodLinkNest RX8 279 mJ9_min_7cf53.1 host ∈ nestW := Or.inl (List.mem_filter.mpr ⟨List.mem_of_getElem? (i := 654) (by decide +kernel), by decide +kernel⟩)
theorem kX8_293 : Cond.methodLink RX8 293 mJ9_max_7cf53.1 ∈ tblG ∨ ∃ host, Cond.methodLinkNest RX8 293 mJ9_max_7cf53.1 host ∈ nestW := Or.inl (List.mem_filter.mpr ⟨List.mem_of_getElem? (i := 655) (by decide +kernel), by decide +kernel⟩)
theorem kL_106 : Cond.methodLink RL 106 mX8_slips.1 ∈ tblG := List.mem_filter.mpr ⟨List.mem_of_getElem? (i := 656) (by decide +kernel), by decide +kernel⟩
theorem kL_113 : Cond.methodLink RL 113 mX8_seed.1 ∈ tblG := List.mem_filter.mpr ⟨List.mem_of_getElem? (i := 660) (by decide +kernel), by decide +kernel⟩
theorem kL_118 : Cond.methodLink RL 118 mX8_years.1 ∈ tblG := List.mem_filter.mpr ⟨List.mem_of_getElem? (i := 664) (by decide +kernel), by decide +kernel⟩
theorem kL_122 : Cond.methodLink RL 122 mX8_keep.1 ∈ tblG := List.mem_filter.mpr ⟨List.mem_of_getElem? (i := 671) (by decide +kernel), by decide +kernel⟩
theorem kL_126 : Cond.methodLink RL 126 mX8_again.1 ∈ tblG := List.mem_filter.mpr ⟨List.mem_of_getElem? (i := 675) (by decide +kernel), by decide +kernel⟩
theorem kL_12 : Cond.methodLink RL 12 mX9_init.1 ∈ tblG := List.mem_filter.mpr ⟨List.mem_of_getElem? (i := 681) (by decide +kernel), by decide +kernel⟩
theorem kL_17 : Cond.methodLink RL 17 mX9_write.1 ∈ tblG := List.mem_filter.mpr ⟨List.mem_of_getElem? (i := 791) (by decide +kernel), by decide +kernel⟩
theorem kX9_74 : Cond.methodLink RX9 74 mX9_in.1 ∈ tblG ∨ ∃ host, Cond.methodLinkNest RX9 74 mX9_in.1 host ∈ nestW := Or.inl (List.mem_filter.mpr ⟨List.mem_of_getElem? (i := 796) (by decide +kernel), by decide +kernel⟩)
theorem kL_22 : Cond.methodLink RL 22 mX9_wipe.1 ∈ tblG := List.mem_filter.mpr ⟨List.mem_of_getElem? (i := 799) (by decide +kernel), by decide +kernel⟩
theorem kL_26 : Cond.methodLink RL 26 mX9_fault.1 ∈ tblG := List.mem_filter.mpr ⟨List.mem_of_getElem? (i := 803) (by decide +kernel), by decide +kernel⟩
theorem kX9_110 : Cond.methodLink RX9 110 mX9_readFamily.1 ∈ tblG := List.mem_filter.mpr ⟨List.mem_of_getElem? (i := 807) (by decide +kernel), by decide +kernel⟩
theorem kX9_107 : Cond.methodLink RX9 107 mX9_readThing.1 ∈ tblG := List.mem_filter.mpr ⟨List.mem_of_getElem? (i := 811) (by decide +kernel), by decide +kernel⟩
theorem kX9_97 : Cond.methodLink RX9 97 mX9_readOneKin.1 ∈ tblG := List.mem_filter.mpr ⟨List.mem_of_getElem? (i := 815) (by decide +kernel), by decide +kernel⟩
theorem kX9_84 : Cond.methodLink RX9 84 mX9_from.1 ∈ tblG := List.mem_filter.mpr ⟨List.mem_of_getElem? (i := 819) (by decide +kernel), by decide +kernel⟩
theorem kX9_101 : Cond.methodLink RX9 101 mX9_readOneRow.1 ∈ tblG := List.mem_filter.mpr ⟨List.mem_of_getElem? (i := 823) (by decide +kernel), by decide +kernel⟩
theorem kX9_104 : Cond.methodLink RX9 104 mX9_readOneDeed.1 ∈ tblG := List.mem_filter.mpr ⟨List.mem_of_getElem? (i := 827) (by decide +kernel), by decide +kernel⟩
theorem kL_30 : Cond.methodLink RL 30 mX9_family.1 ∈ tblG := List.mem_filter.mpr ⟨List.mem_of_getElem? (i := 831) (by decide +kernel), by decide +kernel⟩
theorem kX9_123 : Cond.methodLink RX9 123 mX9_copyRow.1 ∈ tblG ∨ ∃ host, Cond.methodLinkNest RX9 123 mX9_copyRow.1 host ∈ nestW := Or.inl (List.mem_filter.mpr ⟨List.mem_of_getElem? (i := 835) (by decide +kernel), by decide +kernel⟩)
theorem kL_34 : Cond.methodLink RL 34 mX9_about.1 ∈ tblG := List.mem_filter.mpr ⟨List.mem_of_getElem? (i := 838) (by decide +kernel), by decide +kernel⟩
theorem kX9_152 : Cond.methodLink RX9 152 mX9_layHalves.1 ∈ tblG := List.mem_filter.mpr ⟨List.mem_of_getElem? (i := 842) (by decide +kernel), by decide +kernel⟩
theorem kX9_156 : Cond.methodLink RX9 156 mX9_figuresOf.1 ∈ tblG := List.mem_filter.mpr ⟨List.mem_of_getElem? (i := 846) (by decide +kernel), by decide +kernel⟩
theorem kX9_160 : Cond.methodLink RX9 160 mX9_slipsOf.1 ∈ tblG := List.mem_filter.mpr ⟨List.mem_of_getElem? (i := 850) (by decide +kernel), by decide +kernel⟩
theorem kX9_163 : Cond.methodLink RX9 163 mX9_partedLaid.1 ∈ tblG := List.mem_filter.mpr ⟨List.mem_of_getElem? (i := 854) (by decide +kernel), by decide +kernel⟩
theorem kX9_166 : Cond.methodLink RX9 166 mX9_wires.1 ∈ tblG := List.mem_filter.mpr ⟨List.mem_of_getElem? (i := 858) (by decide +kernel), by decide +kernel⟩
theorem kX9_142 : Cond.methodLink RX9 142 mX9_power.1 ∈ tblG ∨ ∃ host, Cond.methodLinkNest RX9 142 mX9_power.1 host ∈ nestW := Or.inl (List.mem_filter.mpr ⟨List.mem_of_getElem? (i := 862) (by decide +kernel), by decide +kernel⟩)
theorem kX9_148 : Cond.methodLink RX9 148 mX9_layWire.1 ∈ tblG := List.mem_filter.mpr ⟨List.mem_of_getElem? (i := 865) (by decide +kernel), by decide +kernel⟩
theorem kL_39 : Cond.methodLink RL 39 mX9_cell.1 ∈ tblG := List.mem_filter.mpr ⟨List.mem_of_getElem? (i := 870) (by decide +kernel), by decide +kernel⟩
theorem kX9_134 : Cond.methodLink RX9 134 mX9_countsFor.1 ∈ tblG := List.mem_filter.mpr ⟨List.mem_of_getElem? (i := 875) (by decide +kernel), by decide +kernel⟩
theorem kL_44 : Cond.methodLink RL 44 mX9_kin.1 ∈ tblG := List.mem_filter.mpr ⟨List.mem_of_getElem? (i := 879) (by decide +kernel), by decide +kernel⟩
theorem kX9_174 : Cond.methodLink RX9 174 mX9_countsOf.1 ∈ tblG := List.mem_filter.mpr ⟨List.mem_of_getElem? (i := 883) (by decide +kernel), by decide +kernel⟩
theorem kX9_138 : Cond.methodLink RX9 138 mX9_countOf.1 ∈ tblG := List.mem_filter.mpr ⟨List.mem_of_getElem? (i := 887) (by decide +kernel), by decide +kernel⟩
theorem kX9_130 : Cond.methodLink RX9 130 mX9_isIn.1 ∈ tblG ∨ ∃ host, Cond.methodLinkNest RX9 130 mX9_isIn.1 host ∈ nestW := Or.inl (List.mem_filter.mpr ⟨List.mem_of_getElem? (i := 891) (by decide +kernel), by decide +kernel⟩)
theorem kL_48 : Cond.methodLink RL 48 mX9_has.1 ∈ tblG := List.mem_filter.mpr ⟨List.mem_of_getElem? (i := 894) (by decide +kernel), by decide +kernel⟩
theorem kL_52 : Cond.methodLink RL 52 mX9_can.1 ∈ tblG := List.mem_filter.mpr ⟨List.mem_of_getElem? (i := 899) (by decide +kernel), by decide +kernel⟩
theorem kX9_179 : Cond.methodLink RX9 179 mX9_canOf.1 ∈ tblG := List.mem_filter.mpr ⟨List.mem_of_getElem? (i := 903) (by decide +kernel), by decide +kernel⟩
theorem kL_56 : Cond.methodLink RL 56 mX9_draw.1 ∈ tblG := List.mem_filter.mpr ⟨List.mem_of_getElem? (i := 907) (by decide +kernel), by decide +kernel⟩
theorem kX9_184 : Cond.methodLink RX9 184 mX9_canDraw.1 ∈ tblG := List.mem_filter.mpr ⟨List.mem_of_getElem? (i := 911) (by decide +kernel), by decide +kernel⟩
theorem kX9_188 : Cond.methodLink RX9 188 mX9_note.1 ∈ tblG := List.mem_filter.mpr ⟨List.mem_of_getElem? (i := 916) (by decide +kernel), by decide +kernel⟩
theorem kL_60 : Cond.methodLink RL 60 mX9_change.1 ∈ tblG := List.mem_filter.mpr ⟨List.mem_of_getElem? (i := 920) (by decide +kernel), by decide +kernel⟩
theorem kX9_191 : Cond.methodLink RX9 191 mX9_swap.1 ∈ tblG ∨ ∃ host, Cond.methodLinkNest RX9 191 mX9_swap.1 host ∈ nestW := Or.inl (List.mem_filter.mpr ⟨List.mem_of_getElem? (i := 924) (by decide +kernel), by decide +kernel⟩)
theorem kL_64 : Cond.methodLink RL 64 mX9_join.1 ∈ tblG := List.mem_filter.mpr ⟨List.mem_of_getElem? (i := 927) (by decide +kernel), by decide +kernel⟩
theorem kX9_195 : Cond.methodLink RX9 195 mX9_rejoin.1 ∈ tblG := List.mem_filter.mpr ⟨List.mem_of_getElem? (i := 931) (by decide +kernel), by decide +kernel⟩
theorem kL_68 : Cond.methodLink RL 68 mX9_undo.1 ∈ tblG := List.mem_filter.mpr ⟨List.mem_of_getElem? (i := 935) (by decide +kernel), by decide +kernel⟩
theorem kL_72 : Cond.methodLink RL 72 mX9_best.1 ∈ tblG := List.mem_filter.mpr ⟨List.mem_of_getElem? (i := 939) (by decide +kernel), by decide +kernel⟩
theorem kX9_198 : Cond.methodLink RX9 198 mX9_many.1 ∈ tblG ∨ ∃ host, Cond.methodLinkNest RX9 198 mX9_many.1 host ∈ nestW := Or.inl (List.mem_filter.mpr ⟨List.mem_of_getElem? (i := 943) (by decide +kernel), by decide +kernel⟩)
theorem kL_76 : Cond.methodLink RL 76 mX9_fewest.1 ∈ tblG := List.mem_filter.mpr ⟨List.mem_of_getElem? (i := 946) (by decide +kernel), by decide +kernel⟩
theorem kL_80 : Cond.methodLink RL 80 mX9_fair.1 ∈ tblG := List.mem_filter.mpr ⟨List.mem_of_getElem? (i := 950) (by decide +kernel), by decide +kernel⟩
theorem kX9_204 : Cond.methodLink RX9 204 mX9_worthOf.1 ∈ tblG := List.mem_filter.mpr ⟨List.mem_of_getElem? (i := 955) (by decide +kernel), by decide +kernel⟩
theorem kL_84 : Cond.methodLink RL 84 mX9_judge.1 ∈ tblG := List.mem_filter.mpr ⟨List.mem_of_getElem? (i := 959) (by decide +kernel), by decide +kernel⟩
theorem kX9_207 : Cond.methodLink RX9 207 mX9_does.1 ∈ tblG := List.mem_filter.mpr ⟨List.mem_of_getElem? (i := 963) (by decide +kernel), by decide +kernel⟩
theorem kL_89 : Cond.methodLink RL 89 mX9_share.1 ∈ tblG := List.mem_filter.mpr ⟨List.mem_of_getElem? (i := 967) (by decide +kernel), by decide +kernel⟩
theorem kX9_213 : Cond.methodLink RX9 213 mX9_ways.1 ∈ tblG ∨ ∃ host, Cond.methodLinkNest RX9 213 mX9_ways.1 host ∈ nestW := Or.inl (List.mem_filter.mpr ⟨List.mem_of_getElem? (i := 971) (by decide +kernel), by decide +kernel⟩)
theorem kX9_216 : Cond.methodLink RX9 216 mX9_fraction.1 ∈ tblG ∨ ∃ host, Cond.methodLinkNest RX9 216 mX9_fraction.1 host ∈ nestW := Or.inl (List.mem_filter.mpr ⟨List.mem_of_getElem? (i := 974) (by decide +kernel), by decide +kernel⟩)
theorem kX9_210 : Cond.methodLink RX9 210 mX9_divisor.1 ∈ tblG ∨ ∃ host, Cond.methodLinkNest RX9 210 mX9_divisor.1 host ∈ nestW := Or.inl (List.mem_filter.mpr ⟨List.mem_of_getElem? (i := 977) (by decide +kernel), by decide +kernel⟩)
theorem kL_93 : Cond.methodLink RL 93 mX9_see.1 ∈ tblG := List.mem_filter.mpr ⟨List.mem_of_getElem? (i := 980) (by decide +kernel), by decide +kernel⟩
theorem kL_97 : Cond.methodLink RL 97 mX9_unsee.1 ∈ tblG := List.mem_filter.mpr ⟨List.mem_of_getElem? (i := 985) (by decide +kernel), by decide +kernel⟩
theorem kL_101 : Cond.methodLink RL 101 mX9_traces.1 ∈ tblG := List.mem_filter.mpr ⟨List.mem_of_getElem? (i := 989) (by decide +kernel), by decide +kernel⟩
theorem kX9_228 : Cond.methodLink RX9 228 mX9_isSeen.1 ∈ tblG := List.mem_filter.mpr ⟨List.mem_of_getElem? (i := 993) (by decide +kernel), by decide +kernel⟩
theorem kL_105 : Cond.methodLink RL 105 mX9_rests.1 ∈ tblG := List.mem_filter.mpr ⟨List.mem_of_getElem? (i := 997) (by decide +kernel), by decide +kernel⟩
theorem kX9_237 : Cond.methodLink RX9 237 mX9_pulled.1 ∈ tblG := List.mem_filter.mpr ⟨List.mem_of_getElem? (i := 1001) (by decide +kernel), by decide +kernel⟩
theorem kL_110 : Cond.methodLink RL 110 mX9_slips.1 ∈ tblG := List.mem_filter.mpr ⟨List.mem_of_getElem? (i := 1005) (by decide +kernel), by decide +kernel⟩
theorem kL_117 : Cond.methodLink RL 117 mX9_seed.1 ∈ tblG := List.mem_filter.mpr ⟨List.mem_of_getElem? (i := 1010) (by decide +kernel), by decide +kernel⟩
theorem kL_121 : Cond.methodLink RL 121 mX9_years.1 ∈ tblG := List.mem_filter.mpr ⟨List.mem_of_getElem? (i := 1014) (by decide +kernel), by decide +kernel⟩
theorem kL_125 : Cond.methodLink RL 125 mX9_keep.1 ∈ tblG := List.mem_filter.mpr ⟨List.mem_of_getElem? (i := 1022) (by decide +kernel), by decide +kernel⟩
theorem kL_129 : Cond.methodLink RL 129 mX9_again.1 ∈ tblG := List.mem_filter.mpr ⟨List.mem_of_getElem? (i := 1026) (by decide +kernel), by decide +kernel⟩
theorem kX8_11 : Cond.methodLinkNest RX8 11 mX6_init.1 "WireFamily" ∈ nestW := List.mem_filter.mpr ⟨List.mem_of_getElem? (i := 25) (by decide +kernel), rfl⟩
theorem kX8_18 : Cond.methodLinkNest RX8 18 mX1_init.1 "WireFamily" ∈ nestW := List.mem_filter.mpr ⟨List.mem_of_getElem? (i := 40) (by decide +kernel), rfl⟩
theorem kX8_48 : Cond.methodLinkNest RX8 48 mX0_init.1 "WireFamily" ∈ nestW := List.mem_filter.mpr ⟨List.mem_of_getElem? (i := 110) (by decide +kernel), rfl⟩
theorem kX8_62 : Cond.methodLinkNest RX8 62 mX3_init.1 "WireFamily" ∈ nestW := List.mem_filter.mpr ⟨List.mem_of_getElem? (i := 147) (by decide +kernel), rfl⟩
theorem kX8_69 : Cond.methodLinkNest RX8 69 mX7_init.1 "WireFamily" ∈ nestW := List.mem_filter.mpr ⟨List.mem_of_getElem? (i := 164) (by decide +kernel), rfl⟩
theorem kX8_76 : Cond.methodLinkNest RX8 76 mX2_init.1 "WireFamily" ∈ nestW := List.mem_filter.mpr ⟨List.mem_of_getElem? (i := 182) (by decide +kernel), rfl⟩
theorem kX4_44 : Cond.methodLink RX4 44 mX8_figuresOf.1 ∈ tblG ∨ ∃ host, Cond.methodLinkNest RX4 44 mX8_figuresOf.1 host ∈ nestW := Or.inr ⟨"WireFamily", List.mem_filter.mpr ⟨List.mem_of_getElem? (i := 321) (by decide +kernel), rfl⟩⟩
theorem kX5_38 : Cond.methodLink RX5 38 mX8_halfOf.1 ∈ tblG ∨ ∃ host, Cond.methodLinkNest RX5 38 mX8_halfOf.1 host ∈ nestW := Or.inr ⟨"WireFamily", List.mem_filter.mpr ⟨List.mem_of_getElem? (i := 341) (by decide +kernel), rfl⟩⟩
theorem kX5_45 : Cond.methodLink RX5 45 mX8_kinOf.1 ∈ tblG ∨ ∃ host, Cond.methodLinkNest RX5 45 mX8_kinOf.1 host ∈ nestW := Or.inr ⟨"WireFamily", List.mem_filter.mpr ⟨List.mem_of_getElem? (i := 344) (by decide +kernel), rfl⟩⟩
theorem kX5_52 : Cond.methodLink RX5 52 mX8_partOf.1 ∈ tblG ∨ ∃ host, Cond.methodLinkNest RX5 52 mX8_partOf.1 host ∈ nestW := Or.inr ⟨"WireFamily", List.mem_filter.mpr ⟨List.mem_of_getElem? (i := 351) (by decide +kernel), rfl⟩⟩
theorem kX7_35 : Cond.methodLink RX7 35 mX8_figuresOf.1 ∈ tblG ∨ ∃ host, Cond.methodLinkNest RX7 35 mX8_figuresOf.1 host ∈ nestW := Or.inr ⟨"WireFamily", List.mem_filter.mpr ⟨List.mem_of_getElem? (i := 520) (by decide +kernel), rfl⟩⟩
theorem fX6_9 : FL RX6 9 6 0 := ⟨RX6, TX6, 2, rfl, by decide, in_X6, Or.inl (List.mem_filter.mpr ⟨List.mem_of_getElem? (i := 70) (by decide +kernel), by decide +kernel⟩)⟩
theorem fX6_15 : FL RX6 15 6 1 := ⟨RX6, TX6, 2, rfl, by decide, in_X6, Or.inl (List.mem_filter.mpr ⟨List.mem_of_getElem? (i := 71) (by decide +kernel), by decide +kernel⟩)⟩
theorem pX6_15 : FP RX6 15 6 1 .int := ⟨RX6, TX6, 2, rfl, by decide, in_X6, Or.inl (List.mem_filter.mpr ⟨List.mem_of_getElem? (i := 71) (by decide +kernel), by decide +kernel⟩), ⟨tyX6, tyX6_ok⟩, nmX6, rfl, by decide +kernel⟩
theorem fX1_9 : FL RX1 9 1 0 := ⟨RX1, TX1, 9, rfl, by decide, in_X1, Or.inl (List.mem_filter.mpr ⟨List.mem_of_getElem? (i := 85) (by decide +kernel), by decide +kernel⟩)⟩
theorem fX1_15 : FL RX1 15 1 1 := ⟨RX1, TX1, 9, rfl, by decide, in_X1, Or.inl (List.mem_filter.mpr ⟨List.mem_of_getElem? (i := 88) (by decide +kernel), by decide +kernel⟩)⟩
theorem fX1_18 : FL RX1 18 1 2 := ⟨RX1, TX1, 9, rfl, by decide, in_X1, Or.inl (List.mem_filter.mpr ⟨List.mem_of_getElem? (i := 90) (by decide +kernel), by decide +kernel⟩)⟩
theorem fX1_21 : FL RX1 21 1 3 := ⟨RX1, TX1, 9, rfl, by decide, in_X1, Or.inl (List.mem_filter.mpr ⟨List.mem_of_getElem? (i := 92) (by decide +kernel), by decide +kernel⟩)⟩
theorem fX1_24 : FL RX1 24 1 4 := ⟨RX1, TX1, 9, rfl, by decide, in_X1, Or.inl (List.mem_filter.mpr ⟨List.mem_of_getElem? (i := 94) (by decide +kernel), by decide +kernel⟩)⟩
theorem pX1_24 : FP RX1 24 1 4 .int := ⟨RX1, TX1, 9, rfl, by decide, in_X1, Or.inl (List.mem_filter.mpr ⟨List.mem_of_getElem? (i := 94) (by decide +kernel), by decide +kernel⟩), ⟨tyX1, tyX1_ok⟩, nmX1, rfl, by decide +kernel⟩
theorem fX1_28 : FL RX1 28 1 5 := ⟨RX1, TX1, 9, rfl, by decide, in_X1, Or.inl (List.mem_filter.mpr ⟨List.mem_of_getElem? (i := 97) (by decide +kernel), by decide +kernel⟩)⟩
theorem pX1_28 : FP RX1 28 1 5 .int := ⟨RX1, TX1, 9, rfl, by decide, in_X1, Or.inl (List.mem_filter.mpr ⟨List.mem_of_getElem? (i := 97) (by decide +kernel), by decide +kernel⟩), ⟨tyX1, tyX1_ok⟩, nmX1, rfl, by decide +kernel⟩
theorem fX1_31 : FL RX1 31 1 6 := ⟨RX1, TX1, 9, rfl, by decide, in_X1, Or.inl (List.mem_filter.mpr ⟨List.mem_of_getElem? (i := 101) (by decide +kernel), by decide +kernel⟩)⟩
theorem pX1_31 : FP RX1 31 1 6 .int := ⟨RX1, TX1, 9, rfl, by decide, in_X1, Or.inl (List.mem_filter.mpr ⟨List.mem_of_getElem? (i := 101) (by decide +kernel), by decide +kernel⟩), ⟨tyX1, tyX1_ok⟩, nmX1, rfl, by decide +kernel⟩
theorem fX1_37 : FL RX1 37 1 7 := ⟨RX1, TX1, 9, rfl, by decide, in_X1, Or.inl (List.mem_filter.mpr ⟨List.mem_of_getElem? (i := 104) (by decide +kernel), by decide +kernel⟩)⟩
theorem pX1_37 : FP RX1 37 1 7 .int := ⟨RX1, TX1, 9, rfl, by decide, in_X1, Or.inl (List.mem_filter.mpr ⟨List.mem_of_getElem? (i := 104) (by decide +kernel), by decide +kernel⟩), ⟨tyX1, tyX1_ok⟩, nmX1, rfl, by decide +kernel⟩
theorem fX1_34 : FL RX1 34 1 8 := ⟨RX1, TX1, 9, rfl, by decide, in_X1, Or.inl (List.mem_filter.mpr ⟨List.mem_of_getElem? (i := 105) (by decide +kernel), by decide +kernel⟩)⟩
theorem pX1_34 : FP RX1 34 1 8 .int := ⟨RX1, TX1, 9, rfl, by decide, in_X1, Or.inl (List.mem_filter.mpr ⟨List.mem_of_getElem? (i := 105) (by decide +kernel), by decide +kernel⟩), ⟨tyX1, tyX1_ok⟩, nmX1, rfl, by decide +kernel⟩
theorem fX4_18 : FL RX4 18 4 0 := ⟨RX4, TX4, 4, rfl, by decide, in_X4, Or.inl (List.mem_filter.mpr ⟨List.mem_of_getElem? (i := 131) (by decide +kernel), by decide +kernel⟩)⟩
theorem fX4_9 : FL RX4 9 4 1 := ⟨RX4, TX4, 4, rfl, by decide, in_X4, Or.inl (List.mem_filter.mpr ⟨List.mem_of_getElem? (i := 132) (by decide +kernel), by decide +kernel⟩)⟩
theorem fX4_15 : FL RX4 15 4 2 := ⟨RX4, TX4, 4, rfl, by decide, in_X4, Or.inl (List.mem_filter.mpr ⟨List.mem_of_getElem? (i := 134) (by decide +kernel), by decide +kernel⟩)⟩
theorem fX4_37 : FL RX4 37 4 3 := ⟨RX4, TX4, 4, rfl, by decide, in_X4, Or.inl (List.mem_filter.mpr ⟨List.mem_of_getElem? (i := 136) (by decide +kernel), by decide +kernel⟩)⟩
theorem pX4_37 : FP RX4 37 4 3 .int := ⟨RX4, TX4, 4, rfl, by decide, in_X4, Or.inl (List.mem_filter.mpr ⟨List.mem_of_getElem? (i := 136) (by decide +kernel), by decide +kernel⟩), ⟨tyX4, tyX4_ok⟩, nmX4, rfl, by decide +kernel⟩
theorem fX0_9 : FL RX0 9 0 0 := ⟨RX0, TX0, 4, rfl, by decide, in_X0, Or.inl (List.mem_filter.mpr ⟨List.mem_of_getElem? (i := 155) (by decide +kernel), by decide +kernel⟩)⟩
theorem fX0_15 : FL RX0 15 0 1 := ⟨RX0, TX0, 4, rfl, by decide, in_X0, Or.inl (List.mem_filter.mpr ⟨List.mem_of_getElem? (i := 156) (by decide +kernel), by decide +kernel⟩)⟩
theorem fX0_18 : FL RX0 18 0 2 := ⟨RX0, TX0, 4, rfl, by decide, in_X0, Or.inl (List.mem_filter.mpr ⟨List.mem_of_getElem? (i := 157) (by decide +kernel), by decide +kernel⟩)⟩
theorem fX0_21 : FL RX0 21 0 3 := ⟨RX0, TX0, 4, rfl, by decide, in_X0, Or.inl (List.mem_filter.mpr ⟨List.mem_of_getElem? (i := 158) (by decide +kernel), by decide +kernel⟩)⟩
theorem pX0_21 : FP RX0 21 0 3 .int := ⟨RX0, TX0, 4, rfl, by decide, in_X0, Or.inl (List.mem_filter.mpr ⟨List.mem_of_getElem? (i := 158) (by decide +kernel), by decide +kernel⟩), ⟨tyX0, tyX0_ok⟩, nmX0, rfl, by decide +kernel⟩
theorem fX5_18 : FL RX5 18 5 0 := ⟨RX5, TX5, 3, rfl, by decide, in_X5, Or.inl (List.mem_filter.mpr ⟨List.mem_of_getElem? (i := 176) (by decide +kernel), by decide +kernel⟩)⟩
theorem fX5_9 : FL RX5 9 5 1 := ⟨RX5, TX5, 3, rfl, by decide, in_X5, Or.inl (List.mem_filter.mpr ⟨List.mem_of_getElem? (i := 177) (by decide +kernel), by decide +kernel⟩)⟩
theorem fX5_15 : FL RX5 15 5 2 := ⟨RX5, TX5, 3, rfl, by decide, in_X5, Or.inl (List.mem_filter.mpr ⟨List.mem_of_getElem? (i := 178) (by decide +kernel), by decide +kernel⟩)⟩
theorem fX3_9 : FL RX3 9 3 0 := ⟨RX3, TX3, 3, rfl, by decide, in_X3, Or.inl (List.mem_filter.mpr ⟨List.mem_of_getElem? (i := 192) (by decide +kernel), by decide +kernel⟩)⟩
theorem fX3_15 : FL RX3 15 3 1 := ⟨RX3, TX3, 3, rfl, by decide, in_X3, Or.inl (List.mem_filter.mpr ⟨List.mem_of_getElem? (i := 193) (by decide +kernel), by decide +kernel⟩)⟩
theorem fX3_18 : FL RX3 18 3 2 := ⟨RX3, TX3, 3, rfl, by decide, in_X3, Or.inl (List.mem_filter.mpr ⟨List.mem_of_getElem? (i := 194) (by decide +kernel), by decide +kernel⟩)⟩
theorem pX3_18 : FP RX3 18 3 2 .int := ⟨RX3, TX3, 3, rfl, by decide, in_X3, Or.inl (List.mem_filter.mpr ⟨List.mem_of_getElem? (i := 194) (by decide +kernel), by decide +kernel⟩), ⟨tyX3, tyX3_ok⟩, nmX3, rfl, by decide +kernel⟩
theorem fX7_9 : FL RX7 9 7 0 := ⟨RX7, TX7, 3, rfl, by decide, in_X7, Or.inl (List.mem_filter.mpr ⟨List.mem_of_getElem? (i := 209) (by decide +kernel), by decide +kernel⟩)⟩
theorem fX7_21 : FL RX7 21 7 1 := ⟨RX7, TX7, 3, rfl, by decide, in_X7, Or.inl (List.mem_filter.mpr ⟨List.mem_of_getElem? (i := 211) (by decide +kernel), by decide +kernel⟩)⟩
theorem pX7_21 : FP RX7 21 7 1 .int := ⟨RX7, TX7, 3, rfl, by decide, in_X7, Or.inl (List.mem_filter.mpr ⟨List.mem_of_getElem? (i := 211) (by decide +kernel), by decide +kernel⟩), ⟨tyX7, tyX7_ok⟩, nmX7, rfl, by decide +kernel⟩
theorem fX7_31 : FL RX7 31 7 2 := ⟨RX7, TX7, 3, rfl, by decide, in_X7, Or.inl (List.mem_filter.mpr ⟨List.mem_of_getElem? (i := 212) (by decide +kernel), by decide +kernel⟩)⟩
theorem pX7_31 : FP RX7 31 7 2 .boolean := ⟨RX7, TX7, 3, rfl, by decide, in_X7, Or.inl (List.mem_filter.mpr ⟨List.mem_of_getElem? (i := 212) (by decide +kernel), by decide +kernel⟩), ⟨tyX7, tyX7_ok⟩, nmX7, rfl, by decide +kernel⟩
theorem fX2_9 : FL RX2 9 2 0 := ⟨RX2, TX2, 3, rfl, by decide, in_X2, Or.inl (List.mem_filter.mpr ⟨List.mem_of_getElem? (i := 227) (by decide +kernel), by decide +kernel⟩)⟩
theorem pX2_9 : FP RX2 9 2 0 .int := ⟨RX2, TX2, 3, rfl, by decide, in_X2, Or.inl (List.mem_filter.mpr ⟨List.mem_of_getElem? (i := 227) (by decide +kernel), by decide +kernel⟩), ⟨tyX2, tyX2_ok⟩, nmX2, rfl, by decide +kernel⟩
theorem fX2_15 : FL RX2 15 2 1 := ⟨RX2, TX2, 3, rfl, by decide, in_X2, Or.inl (List.mem_filter.mpr ⟨List.mem_of_getElem? (i := 229) (by decide +kernel), by decide +kernel⟩)⟩
theorem pX2_15 : FP RX2 15 2 1 .int := ⟨RX2, TX2, 3, rfl, by decide, in_X2, Or.inl (List.mem_filter.mpr ⟨List.mem_of_getElem? (i := 229) (by decide +kernel), by decide +kernel⟩), ⟨tyX2, tyX2_ok⟩, nmX2, rfl, by decide +kernel⟩
theorem fX2_18 : FL RX2 18 2 2 := ⟨RX2, TX2, 3, rfl, by decide, in_X2, Or.inl (List.mem_filter.mpr ⟨List.mem_of_getElem? (i := 231) (by decide +kernel), by decide +kernel⟩)⟩
theorem pX2_18 : FP RX2 18 2 2 .int := ⟨RX2, TX2, 3, rfl, by decide, in_X2, Or.inl (List.mem_filter.mpr ⟨List.mem_of_getElem? (i := 231) (by decide +kernel), by decide +kernel⟩), ⟨tyX2, tyX2_ok⟩, nmX2, rfl, by decide +kernel⟩
theorem fX8_12 : FL RX8 12 8 0 := ⟨RX8, TX8, 13, rfl, by decide, in_X8, Or.inl (List.mem_filter.mpr ⟨List.mem_of_getElem? (i := 240) (by decide +kernel), by decide +kernel⟩)⟩
theorem fX8_19 : FL RX8 19 8 1 := ⟨RX8, TX8, 13, rfl, by decide, in_X8, Or.inl (List.mem_filter.mpr ⟨List.mem_of_getElem? (i := 241) (by decide +kernel), by decide +kernel⟩)⟩
theorem fX8_23 : FL RX8 23 8 2 := ⟨RX8, TX8, 13, rfl, by decide, in_X8, Or.inl (List.mem_filter.mpr ⟨List.mem_of_getElem? (i := 242) (by decide +kernel), by decide +kernel⟩)⟩
theorem fX8_31 : FL RX8 31 8 3 := ⟨RX8, TX8, 13, rfl, by decide, in_X8, Or.inl (List.mem_filter.mpr ⟨List.mem_of_getElem? (i := 243) (by decide +kernel), by decide +kernel⟩)⟩
theorem fX8_35 : FL RX8 35 8 4 := ⟨RX8, TX8, 13, rfl, by decide, in_X8, Or.inl (List.mem_filter.mpr ⟨List.mem_of_getElem? (i := 244) (by decide +kernel), by decide +kernel⟩)⟩
theorem fX8_38 : FL RX8 38 8 5 := ⟨RX8, TX8, 13, rfl, by decide, in_X8, Or.inl (List.mem_filter.mpr ⟨List.mem_of_getElem? (i := 245) (by decide +kernel), by decide +kernel⟩)⟩
theorem fX8_42 : FL RX8 42 8 6 := ⟨RX8, TX8, 13, rfl, by decide, in_X8, Or.inl (List.mem_filter.mpr ⟨List.mem_of_getElem? (i := 246) (by decide +kernel), by decide +kernel⟩)⟩
theorem fX8_49 : FL RX8 49 8 7 := ⟨RX8, TX8, 13, rfl, by decide, in_X8, Or.inl (List.mem_filter.mpr ⟨List.mem_of_getElem? (i := 247) (by decide +kernel), by decide +kernel⟩)⟩
theorem fX8_56 : FL RX8 56 8 8 := ⟨RX8, TX8, 13, rfl, by decide, in_X8, Or.inl (List.mem_filter.mpr ⟨List.mem_of_getElem? (i := 248) (by decide +kernel), by decide +kernel⟩)⟩
theorem fX8_63 : FL RX8 63 8 9 := ⟨RX8, TX8, 13, rfl, by decide, in_X8, Or.inl (List.mem_filter.mpr ⟨List.mem_of_getElem? (i := 249) (by decide +kernel), by decide +kernel⟩)⟩
theorem fX8_70 : FL RX8 70 8 10 := ⟨RX8, TX8, 13, rfl, by decide, in_X8, Or.inl (List.mem_filter.mpr ⟨List.mem_of_getElem? (i := 250) (by decide +kernel), by decide +kernel⟩)⟩
theorem fX8_77 : FL RX8 77 8 11 := ⟨RX8, TX8, 13, rfl, by decide, in_X8, Or.inl (List.mem_filter.mpr ⟨List.mem_of_getElem? (i := 251) (by decide +kernel), by decide +kernel⟩)⟩
theorem fX8_81 : FL RX8 81 8 12 := ⟨RX8, TX8, 13, rfl, by decide, in_X8, Or.inl (List.mem_filter.mpr ⟨List.mem_of_getElem? (i := 252) (by decide +kernel), by decide +kernel⟩)⟩
theorem pX8_81 : FP RX8 81 8 12 .long := ⟨RX8, TX8, 13, rfl, by decide, in_X8, Or.inl (List.mem_filter.mpr ⟨List.mem_of_getElem? (i := 252) (by decide +kernel), by decide +kernel⟩), ⟨tyX8, tyX8_ok⟩, nmX8, rfl, by decide +kernel⟩
theorem fX8_263 : Cond.fieldLink RX8 263 "WireFamily" "FACTORIAL" "[I" ∈ tblG := List.mem_filter.mpr ⟨List.mem_of_getElem? (i := 610) (by decide +kernel), by decide +kernel⟩
theorem fX9_68 : FL RX9 68 9 0 := ⟨RX9, TX9, 35, rfl, by decide, in_X9, Or.inl (List.mem_filter.mpr ⟨List.mem_of_getElem? (i := 685) (by decide +kernel), by decide +kernel⟩)⟩
theorem pX9_68 : FP RX9 68 9 0 .int := ⟨RX9, TX9, 35, rfl, by decide, in_X9, Or.inl (List.mem_filter.mpr ⟨List.mem_of_getElem? (i := 685) (by decide +kernel), by decide +kernel⟩), ⟨tyX9, tyX9_ok⟩, nmX9, rfl, by decide +kernel⟩
theorem fX9_7 : FL RX9 7 9 1 := ⟨RX9, TX9, 35, rfl, by decide, in_X9, Or.inl (List.mem_filter.mpr ⟨List.mem_of_getElem? (i := 686) (by decide +kernel), by decide +kernel⟩)⟩
theorem fX9_78 : FL RX9 78 9 2 := ⟨RX9, TX9, 35, rfl, by decide, in_X9, Or.inl (List.mem_filter.mpr ⟨List.mem_of_getElem? (i := 687) (by decide +kernel), by decide +kernel⟩)⟩
theorem pX9_78 : FP RX9 78 9 2 .int := ⟨RX9, TX9, 35, rfl, by decide, in_X9, Or.inl (List.mem_filter.mpr ⟨List.mem_of_getElem? (i := 687) (by decide +kernel), by decide +kernel⟩), ⟨tyX9, tyX9_ok⟩, nmX9, rfl, by decide +kernel⟩
theorem fX9_81 : FL RX9 81 9 3 := ⟨RX9, TX9, 35, rfl, by decide, in_X9, Or.inl (List.mem_filter.mpr ⟨List.mem_of_getElem? (i := 688) (by decide +kernel), by decide +kernel⟩)⟩
theorem pX9_81 : FP RX9 81 9 3 .int := ⟨RX9, TX9, 35, rfl, by decide, in_X9, Or.inl (List.mem_filter.mpr ⟨List.mem_of_getElem? (i := 688) (by decide +kernel), by decide +kernel⟩), ⟨tyX9, tyX9_ok⟩, nmX9, rfl, by decide +kernel⟩
theorem fX9_114 : FL RX9 114 9 4 := ⟨RX9, TX9, 35, rfl, by decide, in_X9, Or.inl (List.mem_filter.mpr ⟨List.mem_of_getElem? (i := 689) (by decide +kernel), by decide +kernel⟩)⟩
theorem pX9_114 : FP RX9 114 9 4 .int := ⟨RX9, TX9, 35, rfl, by decide, in_X9, Or.inl (List.mem_filter.mpr ⟨List.mem_of_getElem? (i := 689) (by decide +kernel), by decide +kernel⟩), ⟨tyX9, tyX9_ok⟩, nmX9, rfl, by decide +kernel⟩
theorem fX9_117 : FL RX9 117 9 5 := ⟨RX9, TX9, 35, rfl, by decide, in_X9, Or.inl (List.mem_filter.mpr ⟨List.mem_of_getElem? (i := 690) (by decide +kernel), by decide +kernel⟩)⟩
theorem pX9_117 : FP RX9 117 9 5 .int := ⟨RX9, TX9, 35, rfl, by decide, in_X9, Or.inl (List.mem_filter.mpr ⟨List.mem_of_getElem? (i := 690) (by decide +kernel), by decide +kernel⟩), ⟨tyX9, tyX9_ok⟩, nmX9, rfl, by decide +kernel⟩
theorem fX9_13 : FL RX9 13 9 6 := ⟨RX9, TX9, 35, rfl, by decide, in_X9, Or.inl (List.mem_filter.mpr ⟨List.mem_of_getElem? (i := 691) (by decide +kernel), by decide +kernel⟩)⟩
theorem fX9_120 : FL RX9 120 9 7 := ⟨RX9, TX9, 35, rfl, by decide, in_X9, Or.inl (List.mem_filter.mpr ⟨List.mem_of_getElem? (i := 692) (by decide +kernel), by decide +kernel⟩)⟩
theorem pX9_120 : FP RX9 120 9 7 .int := ⟨RX9, TX9, 35, rfl, by decide, in_X9, Or.inl (List.mem_filter.mpr ⟨List.mem_of_getElem? (i := 692) (by decide +kernel), by decide +kernel⟩), ⟨tyX9, tyX9_ok⟩, nmX9, rfl, by decide +kernel⟩
theorem fX9_16 : FL RX9 16 9 8 := ⟨RX9, TX9, 35, rfl, by decide, in_X9, Or.inl (List.mem_filter.mpr ⟨List.mem_of_getElem? (i := 693) (by decide +kernel), by decide +kernel⟩)⟩
theorem fX9_19 : FL RX9 19 9 9 := ⟨RX9, TX9, 35, rfl, by decide, in_X9, Or.inl (List.mem_filter.mpr ⟨List.mem_of_getElem? (i := 694) (by decide +kernel), by decide +kernel⟩)⟩
theorem fX9_91 : FL RX9 91 9 10 := ⟨RX9, TX9, 35, rfl, by decide, in_X9, Or.inl (List.mem_filter.mpr ⟨List.mem_of_getElem? (i := 695) (by decide +kernel), by decide +kernel⟩)⟩
theorem pX9_91 : FP RX9 91 9 10 .int := ⟨RX9, TX9, 35, rfl, by decide, in_X9, Or.inl (List.mem_filter.mpr ⟨List.mem_of_getElem? (i := 695) (by decide +kernel), by decide +kernel⟩), ⟨tyX9, tyX9_ok⟩, nmX9, rfl, by decide +kernel⟩
theorem fX9_22 : FL RX9 22 9 11 := ⟨RX9, TX9, 35, rfl, by decide, in_X9, Or.inl (List.mem_filter.mpr ⟨List.mem_of_getElem? (i := 696) (by decide +kernel), by decide +kernel⟩)⟩
theorem fX9_88 : FL RX9 88 9 12 := ⟨RX9, TX9, 35, rfl, by decide, in_X9, Or.inl (List.mem_filter.mpr ⟨List.mem_of_getElem? (i := 697) (by decide +kernel), by decide +kernel⟩)⟩
theorem pX9_88 : FP RX9 88 9 12 .int := ⟨RX9, TX9, 35, rfl, by decide, in_X9, Or.inl (List.mem_filter.mpr ⟨List.mem_of_getElem? (i := 697) (by decide +kernel), by decide +kernel⟩), ⟨tyX9, tyX9_ok⟩, nmX9, rfl, by decide +kernel⟩
theorem fX9_25 : FL RX9 25 9 13 := ⟨RX9, TX9, 35, rfl, by decide, in_X9, Or.inl (List.mem_filter.mpr ⟨List.mem_of_getElem? (i := 698) (by decide +kernel), by decide +kernel⟩)⟩
theorem fX9_94 : FL RX9 94 9 14 := ⟨RX9, TX9, 35, rfl, by decide, in_X9, Or.inl (List.mem_filter.mpr ⟨List.mem_of_getElem? (i := 699) (by decide +kernel), by decide +kernel⟩)⟩
theorem pX9_94 : FP RX9 94 9 14 .int := ⟨RX9, TX9, 35, rfl, by decide, in_X9, Or.inl (List.mem_filter.mpr ⟨List.mem_of_getElem? (i := 699) (by decide +kernel), by decide +kernel⟩), ⟨tyX9, tyX9_ok⟩, nmX9, rfl, by decide +kernel⟩
theorem fX9_28 : FL RX9 28 9 15 := ⟨RX9, TX9, 35, rfl, by decide, in_X9, Or.inl (List.mem_filter.mpr ⟨List.mem_of_getElem? (i := 700) (by decide +kernel), by decide +kernel⟩)⟩
theorem fX9_31 : FL RX9 31 9 16 := ⟨RX9, TX9, 35, rfl, by decide, in_X9, Or.inl (List.mem_filter.mpr ⟨List.mem_of_getElem? (i := 701) (by decide +kernel), by decide +kernel⟩)⟩
theorem fX9_34 : FL RX9 34 9 17 := ⟨RX9, TX9, 35, rfl, by decide, in_X9, Or.inl (List.mem_filter.mpr ⟨List.mem_of_getElem? (i := 702) (by decide +kernel), by decide +kernel⟩)⟩
theorem fX9_37 : FL RX9 37 9 18 := ⟨RX9, TX9, 35, rfl, by decide, in_X9, Or.inl (List.mem_filter.mpr ⟨List.mem_of_getElem? (i := 703) (by decide +kernel), by decide +kernel⟩)⟩
theorem fX9_40 : FL RX9 40 9 19 := ⟨RX9, TX9, 35, rfl, by decide, in_X9, Or.inl (List.mem_filter.mpr ⟨List.mem_of_getElem? (i := 704) (by decide +kernel), by decide +kernel⟩)⟩
theorem fX9_127 : FL RX9 127 9 20 := ⟨RX9, TX9, 35, rfl, by decide, in_X9, Or.inl (List.mem_filter.mpr ⟨List.mem_of_getElem? (i := 705) (by decide +kernel), by decide +kernel⟩)⟩
theorem pX9_127 : FP RX9 127 9 20 .int := ⟨RX9, TX9, 35, rfl, by decide, in_X9, Or.inl (List.mem_filter.mpr ⟨List.mem_of_getElem? (i := 705) (by decide +kernel), by decide +kernel⟩), ⟨tyX9, tyX9_ok⟩, nmX9, rfl, by decide +kernel⟩
theorem fX9_43 : FL RX9 43 9 21 := ⟨RX9, TX9, 35, rfl, by decide, in_X9, Or.inl (List.mem_filter.mpr ⟨List.mem_of_getElem? (i := 706) (by decide +kernel), by decide +kernel⟩)⟩
theorem fX9_46 : FL RX9 46 9 22 := ⟨RX9, TX9, 35, rfl, by decide, in_X9, Or.inl (List.mem_filter.mpr ⟨List.mem_of_getElem? (i := 707) (by decide +kernel), by decide +kernel⟩)⟩
theorem fX9_169 : FL RX9 169 9 23 := ⟨RX9, TX9, 35, rfl, by decide, in_X9, Or.inl (List.mem_filter.mpr ⟨List.mem_of_getElem? (i := 708) (by decide +kernel), by decide +kernel⟩)⟩
theorem pX9_169 : FP RX9 169 9 23 .int := ⟨RX9, TX9, 35, rfl, by decide, in_X9, Or.inl (List.mem_filter.mpr ⟨List.mem_of_getElem? (i := 708) (by decide +kernel), by decide +kernel⟩), ⟨tyX9, tyX9_ok⟩, nmX9, rfl, by decide +kernel⟩
theorem fX9_50 : FL RX9 50 9 24 := ⟨RX9, TX9, 35, rfl, by decide, in_X9, Or.inl (List.mem_filter.mpr ⟨List.mem_of_getElem? (i := 709) (by decide +kernel), by decide +kernel⟩)⟩
theorem fX9_53 : FL RX9 53 9 25 := ⟨RX9, TX9, 35, rfl, by decide, in_X9, Or.inl (List.mem_filter.mpr ⟨List.mem_of_getElem? (i := 710) (by decide +kernel), by decide +kernel⟩)⟩
theorem fX9_242 : FL RX9 242 9 26 := ⟨RX9, TX9, 35, rfl, by decide, in_X9, Or.inl (List.mem_filter.mpr ⟨List.mem_of_getElem? (i := 711) (by decide +kernel), by decide +kernel⟩)⟩
theorem pX9_242 : FP RX9 242 9 26 .long := ⟨RX9, TX9, 35, rfl, by decide, in_X9, Or.inl (List.mem_filter.mpr ⟨List.mem_of_getElem? (i := 711) (by decide +kernel), by decide +kernel⟩), ⟨tyX9, tyX9_ok⟩, nmX9, rfl, by decide +kernel⟩
theorem fX9_56 : FL RX9 56 9 27 := ⟨RX9, TX9, 35, rfl, by decide, in_X9, Or.inl (List.mem_filter.mpr ⟨List.mem_of_getElem? (i := 712) (by decide +kernel), by decide +kernel⟩)⟩
theorem fX9_59 : FL RX9 59 9 28 := ⟨RX9, TX9, 35, rfl, by decide, in_X9, Or.inl (List.mem_filter.mpr ⟨List.mem_of_getElem? (i := 713) (by decide +kernel), by decide +kernel⟩)⟩
theorem fX9_62 : FL RX9 62 9 29 := ⟨RX9, TX9, 35, rfl, by decide, in_X9, Or.inl (List.mem_filter.mpr ⟨List.mem_of_getElem? (i := 714) (by decide +kernel), by decide +kernel⟩)⟩
theorem fX9_222 : FL RX9 222 9 30 := ⟨RX9, TX9, 35, rfl, by decide, in_X9, Or.inl (List.mem_filter.mpr ⟨List.mem_of_getElem? (i := 715) (by decide +kernel), by decide +kernel⟩)⟩
theorem pX9_222 : FP RX9 222 9 30 .int := ⟨RX9, TX9, 35, rfl, by decide, in_X9, Or.inl (List.mem_filter.mpr ⟨List.mem_of_getElem? (i := 715) (by decide +kernel), by decide +kernel⟩), ⟨tyX9, tyX9_ok⟩, nmX9, rfl, by decide +kernel⟩
theorem fX9_225 : FL RX9 225 9 31 := ⟨RX9, TX9, 35, rfl, by decide, in_X9, Or.inl (List.mem_filter.mpr ⟨List.mem_of_getElem? (i := 716) (by decide +kernel), by decide +kernel⟩)⟩
theorem pX9_225 : FP RX9 225 9 31 .int := ⟨RX9, TX9, 35, rfl, by decide, in_X9, Or.inl (List.mem_filter.mpr ⟨List.mem_of_getElem? (i := 716) (by decide +kernel), by decide +kernel⟩), ⟨tyX9, tyX9_ok⟩, nmX9, rfl, by decide +kernel⟩
theorem fX9_231 : FL RX9 231 9 32 := ⟨RX9, TX9, 35, rfl, by decide, in_X9, Or.inl (List.mem_filter.mpr ⟨List.mem_of_getElem? (i := 717) (by decide +kernel), by decide +kernel⟩)⟩
theorem pX9_231 : FP RX9 231 9 32 .int := ⟨RX9, TX9, 35, rfl, by decide, in_X9, Or.inl (List.mem_filter.mpr ⟨List.mem_of_getElem? (i := 717) (by decide +kernel), by decide +kernel⟩), ⟨tyX9, tyX9_ok⟩, nmX9, rfl, by decide +kernel⟩
theorem fX9_234 : FL RX9 234 9 33 := ⟨RX9, TX9, 35, rfl, by decide, in_X9, Or.inl (List.mem_filter.mpr ⟨List.mem_of_getElem? (i := 718) (by decide +kernel), by decide +kernel⟩)⟩
theorem pX9_234 : FP RX9 234 9 33 .int := ⟨RX9, TX9, 35, rfl, by decide, in_X9, Or.inl (List.mem_filter.mpr ⟨List.mem_of_getElem? (i := 718) (by decide +kernel), by decide +kernel⟩), ⟨tyX9, tyX9_ok⟩, nmX9, rfl, by decide +kernel⟩
theorem fX9_65 : FL RX9 65 9 34 := ⟨RX9, TX9, 35, rfl, by decide, in_X9, Or.inl (List.mem_filter.mpr ⟨List.mem_of_getElem? (i := 719) (by decide +kernel), by decide +kernel⟩)⟩
theorem fX8_89 : FL RX8 89 6 1 := ⟨RX6, TX6, 2, rfl, by decide, in_X6, Or.inr ⟨"WireFamily", List.mem_filter.mpr ⟨List.mem_of_getElem? (i := 31) (by decide +kernel), rfl⟩⟩⟩
theorem pX8_89 : FP RX8 89 6 1 .int := ⟨RX6, TX6, 2, rfl, by decide, in_X6, Or.inr ⟨"WireFamily", List.mem_filter.mpr ⟨List.mem_of_getElem? (i := 31) (by decide +kernel), rfl⟩⟩, ⟨tyX6, tyX6_ok⟩, nmX6, rfl, by decide +kernel⟩
theorem fX5_49 : FL RX5 49 1 0 := ⟨RX1, TX1, 9, rfl, by decide, in_X1, Or.inr ⟨"WireFamily", List.mem_filter.mpr ⟨List.mem_of_getElem? (i := 45) (by decide +kernel), rfl⟩⟩⟩
theorem fX8_163 : FL RX8 163 1 0 := ⟨RX1, TX1, 9, rfl, by decide, in_X1, Or.inr ⟨"WireFamily", List.mem_filter.mpr ⟨List.mem_of_getElem? (i := 46) (by decide +kernel), rfl⟩⟩⟩
theorem fX4_22 : FL RX4 22 1 1 := ⟨RX1, TX1, 9, rfl, by decide, in_X1, Or.inr ⟨"WireFamily", List.mem_filter.mpr ⟨List.mem_of_getElem? (i := 48) (by decide +kernel), rfl⟩⟩⟩
theorem fX5_74 : FL RX5 74 1 2 := ⟨RX1, TX1, 9, rfl, by decide, in_X1, Or.inr ⟨"WireFamily", List.mem_filter.mpr ⟨List.mem_of_getElem? (i := 50) (by decide +kernel), rfl⟩⟩⟩
theorem fX5_81 : FL RX5 81 1 3 := ⟨RX1, TX1, 9, rfl, by decide, in_X1, Or.inr ⟨"WireFamily", List.mem_filter.mpr ⟨List.mem_of_getElem? (i := 52) (by decide +kernel), rfl⟩⟩⟩
theorem fX8_106 : FL RX8 106 1 4 := ⟨RX1, TX1, 9, rfl, by decide, in_X1, Or.inr ⟨"WireFamily", List.mem_filter.mpr ⟨List.mem_of_getElem? (i := 54) (by decide +kernel), rfl⟩⟩⟩
theorem pX8_106 : FP RX8 106 1 4 .int := ⟨RX1, TX1, 9, rfl, by decide, in_X1, Or.inr ⟨"WireFamily", List.mem_filter.mpr ⟨List.mem_of_getElem? (i := 54) (by decide +kernel), rfl⟩⟩, ⟨tyX1, tyX1_ok⟩, nmX1, rfl, by decide +kernel⟩
theorem fX5_62 : FL RX5 62 1 4 := ⟨RX1, TX1, 9, rfl, by decide, in_X1, Or.inr ⟨"WireFamily", List.mem_filter.mpr ⟨List.mem_of_getElem? (i := 55) (by decide +kernel), rfl⟩⟩⟩
theorem pX5_62 : FP RX5 62 1 4 .int := ⟨RX1, TX1, 9, rfl, by decide, in_X1, Or.inr ⟨"WireFamily", List.mem_filter.mpr ⟨List.mem_of_getElem? (i := 55) (by decide +kernel), rfl⟩⟩, ⟨tyX1, tyX1_ok⟩, nmX1, rfl, by decide +kernel⟩
theorem fX5_32 : FL RX5 32 1 5 := ⟨RX1, TX1, 9, rfl, by decide, in_X1, Or.inr ⟨"WireFamily", List.mem_filter.mpr ⟨List.mem_of_getElem? (i := 57) (by decide +kernel), rfl⟩⟩⟩
theorem pX5_32 : FP RX5 32 1 5 .int := ⟨RX1, TX1, 9, rfl, by decide, in_X1, Or.inr ⟨"WireFamily", List.mem_filter.mpr ⟨List.mem_of_getElem? (i := 57) (by decide +kernel), rfl⟩⟩, ⟨tyX1, tyX1_ok⟩, nmX1, rfl, by decide +kernel⟩
theorem fX4_41 : FL RX4 41 1 5 := ⟨RX1, TX1, 9, rfl, by decide, in_X1, Or.inr ⟨"WireFamily", List.mem_filter.mpr ⟨List.mem_of_getElem? (i := 58) (by decide +kernel), rfl⟩⟩⟩
theorem pX4_41 : FP RX4 41 1 5 .int := ⟨RX1, TX1, 9, rfl, by decide, in_X1, Or.inr ⟨"WireFamily", List.mem_filter.mpr ⟨List.mem_of_getElem? (i := 58) (by decide +kernel), rfl⟩⟩, ⟨tyX1, tyX1_ok⟩, nmX1, rfl, by decide +kernel⟩
theorem fX8_103 : FL RX8 103 1 5 := ⟨RX1, TX1, 9, rfl, by decide, in_X1, Or.inr ⟨"WireFamily", List.mem_filter.mpr ⟨List.mem_of_getElem? (i := 59) (by decide +kernel), rfl⟩⟩⟩
theorem pX8_103 : FP RX8 103 1 5 .int := ⟨RX1, TX1, 9, rfl, by decide, in_X1, Or.inr ⟨"WireFamily", List.mem_filter.mpr ⟨List.mem_of_getElem? (i := 59) (by decide +kernel), rfl⟩⟩, ⟨tyX1, tyX1_ok⟩, nmX1, rfl, by decide +kernel⟩
theorem fX8_109 : FL RX8 109 1 6 := ⟨RX1, TX1, 9, rfl, by decide, in_X1, Or.inr ⟨"WireFamily", List.mem_filter.mpr ⟨List.mem_of_getElem? (i := 61) (by decide +kernel), rfl⟩⟩⟩
theorem pX8_109 : FP RX8 109 1 6 .int := ⟨RX1, TX1, 9, rfl, by decide, in_X1, Or.inr ⟨"WireFamily", List.mem_filter.mpr ⟨List.mem_of_getElem? (i := 61) (by decide +kernel), rfl⟩⟩, ⟨tyX1, tyX1_ok⟩, nmX1, rfl, by decide +kernel⟩
theorem fX5_84 : FL RX5 84 1 6 := ⟨RX1, TX1, 9, rfl, by decide, in_X1, Or.inr ⟨"WireFamily", List.mem_filter.mpr ⟨List.mem_of_getElem? (i := 62) (by decide +kernel), rfl⟩⟩⟩
theorem pX5_84 : FP RX5 84 1 6 .int := ⟨RX1, TX1, 9, rfl, by decide, in_X1, Or.inr ⟨"WireFamily", List.mem_filter.mpr ⟨List.mem_of_getElem? (i := 62) (by decide +kernel), rfl⟩⟩, ⟨tyX1, tyX1_ok⟩, nmX1, rfl, by decide +kernel⟩
theorem fX8_139 : FL RX8 139 4 1 := ⟨RX4, TX4, 4, rfl, by decide, in_X4, Or.inr ⟨"WireFamily", List.mem_filter.mpr ⟨List.mem_of_getElem? (i := 92) (by decide +kernel), rfl⟩⟩⟩
theorem fX8_143 : FL RX8 143 4 2 := ⟨RX4, TX4, 4, rfl, by decide, in_X4, Or.inr ⟨"WireFamily", List.mem_filter.mpr ⟨List.mem_of_getElem? (i := 94) (by decide +kernel), rfl⟩⟩⟩
theorem fX0_40 : FL RX0 40 4 3 := ⟨RX4, TX4, 4, rfl, by decide, in_X4, Or.inr ⟨"WireFamily", List.mem_filter.mpr ⟨List.mem_of_getElem? (i := 96) (by decide +kernel), rfl⟩⟩⟩
theorem pX0_40 : FP RX0 40 4 3 .int := ⟨RX4, TX4, 4, rfl, by decide, in_X4, Or.inr ⟨"WireFamily", List.mem_filter.mpr ⟨List.mem_of_getElem? (i := 96) (by decide +kernel), rfl⟩⟩, ⟨tyX4, tyX4_ok⟩, nmX4, rfl, by decide +kernel⟩
theorem fX8_112 : FL RX8 112 4 3 := ⟨RX4, TX4, 4, rfl, by decide, in_X4, Or.inr ⟨"WireFamily", List.mem_filter.mpr ⟨List.mem_of_getElem? (i := 97) (by decide +kernel), rfl⟩⟩⟩
theorem pX8_112 : FP RX8 112 4 3 .int := ⟨RX4, TX4, 4, rfl, by decide, in_X4, Or.inr ⟨"WireFamily", List.mem_filter.mpr ⟨List.mem_of_getElem? (i := 97) (by decide +kernel), rfl⟩⟩, ⟨tyX4, tyX4_ok⟩, nmX4, rfl, by decide +kernel⟩
theorem fX8_132 : FL RX8 132 0 3 := ⟨RX0, TX0, 4, rfl, by decide, in_X0, Or.inr ⟨"WireFamily", List.mem_filter.mpr ⟨List.mem_of_getElem? (i := 118) (by decide +kernel), rfl⟩⟩⟩
theorem pX8_132 : FP RX8 132 0 3 .int := ⟨RX0, TX0, 4, rfl, by decide, in_X0, Or.inr ⟨"WireFamily", List.mem_filter.mpr ⟨List.mem_of_getElem? (i := 118) (by decide +kernel), rfl⟩⟩, ⟨tyX0, tyX0_ok⟩, nmX0, rfl, by decide +kernel⟩
theorem fX8_135 : FL RX8 135 3 2 := ⟨RX3, TX3, 3, rfl, by decide, in_X3, Or.inr ⟨"WireFamily", List.mem_filter.mpr ⟨List.mem_of_getElem? (i := 154) (by decide +kernel), rfl⟩⟩⟩
theorem pX8_135 : FP RX8 135 3 2 .int := ⟨RX3, TX3, 3, rfl, by decide, in_X3, Or.inr ⟨"WireFamily", List.mem_filter.mpr ⟨List.mem_of_getElem? (i := 154) (by decide +kernel), rfl⟩⟩, ⟨tyX3, tyX3_ok⟩, nmX3, rfl, by decide +kernel⟩
theorem fX8_208 : FL RX8 208 7 0 := ⟨RX7, TX7, 3, rfl, by decide, in_X7, Or.inr ⟨"WireFamily", List.mem_filter.mpr ⟨List.mem_of_getElem? (i := 169) (by decide +kernel), rfl⟩⟩⟩
theorem fX8_204 : FL RX8 204 7 2 := ⟨RX7, TX7, 3, rfl, by decide, in_X7, Or.inr ⟨"WireFamily", List.mem_filter.mpr ⟨List.mem_of_getElem? (i := 172) (by decide +kernel), rfl⟩⟩⟩
theorem pX8_204 : FP RX8 204 7 2 .boolean := ⟨RX7, TX7, 3, rfl, by decide, in_X7, Or.inr ⟨"WireFamily", List.mem_filter.mpr ⟨List.mem_of_getElem? (i := 172) (by decide +kernel), rfl⟩⟩, ⟨tyX7, tyX7_ok⟩, nmX7, rfl, by decide +kernel⟩
theorem fX8_248 : FL RX8 248 2 0 := ⟨RX2, TX2, 3, rfl, by decide, in_X2, Or.inr ⟨"WireFamily", List.mem_filter.mpr ⟨List.mem_of_getElem? (i := 187) (by decide +kernel), rfl⟩⟩⟩
theorem pX8_248 : FP RX8 248 2 0 .int := ⟨RX2, TX2, 3, rfl, by decide, in_X2, Or.inr ⟨"WireFamily", List.mem_filter.mpr ⟨List.mem_of_getElem? (i := 187) (by decide +kernel), rfl⟩⟩, ⟨tyX2, tyX2_ok⟩, nmX2, rfl, by decide +kernel⟩
theorem fX8_232 : FL RX8 232 2 1 := ⟨RX2, TX2, 3, rfl, by decide, in_X2, Or.inr ⟨"WireFamily", List.mem_filter.mpr ⟨List.mem_of_getElem? (i := 189) (by decide +kernel), rfl⟩⟩⟩
theorem pX8_232 : FP RX8 232 2 1 .int := ⟨RX2, TX2, 3, rfl, by decide, in_X2, Or.inr ⟨"WireFamily", List.mem_filter.mpr ⟨List.mem_of_getElem? (i := 189) (by decide +kernel), rfl⟩⟩, ⟨tyX2, tyX2_ok⟩, nmX2, rfl, by decide +kernel⟩
theorem fX8_229 : FL RX8 229 2 2 := ⟨RX2, TX2, 3, rfl, by decide, in_X2, Or.inr ⟨"WireFamily", List.mem_filter.mpr ⟨List.mem_of_getElem? (i := 191) (by decide +kernel), rfl⟩⟩⟩
theorem pX8_229 : FP RX8 229 2 2 .int := ⟨RX2, TX2, 3, rfl, by decide, in_X2, Or.inr ⟨"WireFamily", List.mem_filter.mpr ⟨List.mem_of_getElem? (i := 191) (by decide +kernel), rfl⟩⟩, ⟨tyX2, tyX2_ok⟩, nmX2, rfl, by decide +kernel⟩
theorem qX8_284 : Cond.constantLong RX8 284 (6364136223846793005) ∈ tblG := List.mem_filter.mpr ⟨List.mem_of_getElem? (i := 668) (by decide +kernel), by decide +kernel⟩
theorem qX8_286 : Cond.constantLong RX8 286 (1442695040888963407) ∈ tblG := List.mem_filter.mpr ⟨List.mem_of_getElem? (i := 669) (by decide +kernel), by decide +kernel⟩
theorem qX8_288 : Cond.constantLong RX8 288 (16) ∈ tblG := List.mem_filter.mpr ⟨List.mem_of_getElem? (i := 670) (by decide +kernel), by decide +kernel⟩
theorem qX9_72 : Cond.constantLong RX9 72 (255) ∈ tblG := List.mem_filter.mpr ⟨List.mem_of_getElem? (i := 795) (by decide +kernel), by decide +kernel⟩
theorem qX9_146 : Cond.constantLong RX9 146 (-1) ∈ tblG := List.mem_filter.mpr ⟨List.mem_of_getElem? (i := 869) (by decide +kernel), by decide +kernel⟩
theorem qX9_172 : Cond.constantLong RX9 172 (4) ∈ tblG := List.mem_filter.mpr ⟨List.mem_of_getElem? (i := 874) (by decide +kernel), by decide +kernel⟩
theorem qX9_177 : Cond.constantLong RX9 177 (3) ∈ tblG := List.mem_filter.mpr ⟨List.mem_of_getElem? (i := 898) (by decide +kernel), by decide +kernel⟩
theorem qX9_182 : Cond.constantLong RX9 182 (5) ∈ tblG := List.mem_filter.mpr ⟨List.mem_of_getElem? (i := 915) (by decide +kernel), by decide +kernel⟩
theorem qX9_202 : Cond.constantLong RX9 202 (9999) ∈ tblG := List.mem_filter.mpr ⟨List.mem_of_getElem? (i := 954) (by decide +kernel), by decide +kernel⟩
theorem qX9_220 : Cond.constantLong RX9 220 (2) ∈ tblG := List.mem_filter.mpr ⟨List.mem_of_getElem? (i := 984) (by decide +kernel), by decide +kernel⟩
theorem qX9_240 : Cond.constantLong RX9 240 (10) ∈ tblG := List.mem_filter.mpr ⟨List.mem_of_getElem? (i := 1009) (by decide +kernel), by decide +kernel⟩
theorem qX9_246 : Cond.constantLong RX9 246 (30) ∈ tblG := List.mem_filter.mpr ⟨List.mem_of_getElem? (i := 1018) (by decide +kernel), by decide +kernel⟩
theorem qX9_248 : Cond.constantLong RX9 248 (6364136223846793005) ∈ tblG := List.mem_filter.mpr ⟨List.mem_of_getElem? (i := 1019) (by decide +kernel), by decide +kernel⟩
theorem qX9_250 : Cond.constantLong RX9 250 (1442695040888963407) ∈ tblG := List.mem_filter.mpr ⟨List.mem_of_getElem? (i := 1020) (by decide +kernel), by decide +kernel⟩
theorem qX9_252 : Cond.constantLong RX9 252 (16) ∈ tblG := List.mem_filter.mpr ⟨List.mem_of_getElem? (i := 1021) (by decide +kernel), by decide +kernel⟩
theorem qL_111 : Cond.constantLong RL 111 (4294967295) ∈ tblG := List.mem_filter.mpr ⟨List.mem_of_getElem? (i := 1030) (by decide +kernel), by decide +kernel⟩
theorem qJ6_265 : Cond.constant RJ6 265 (1431655765) ∈ tblG := List.mem_filter.mpr ⟨List.mem_of_getElem? (i := 549) (by decide +kernel), by decide +kernel⟩
theorem qJ6_266 : Cond.constant RJ6 266 (858993459) ∈ tblG := List.mem_filter.mpr ⟨List.mem_of_getElem? (i := 550) (by decide +kernel), by decide +kernel⟩
theorem qJ6_267 : Cond.constant RJ6 267 (252645135) ∈ tblG := List.mem_filter.mpr ⟨List.mem_of_getElem? (i := 551) (by decide +kernel), by decide +kernel⟩
