theorem inX0g : ∀ x ∈ u_ws RX0 TX0 2, x ∈ gt := by decide +kernel
theorem inX1g : ∀ x ∈ u_ws RX1 TX1 7, x ∈ gt := by decide +kernel
theorem inX2g : ∀ x ∈ u_ws RX2 TX2 2, x ∈ gt := by decide +kernel
theorem inX3g : ∀ x ∈ u_ws RX3 TX3 3, x ∈ gt := by decide +kernel
theorem inX4g : ∀ x ∈ u_ws RX4 TX4 12, x ∈ gt := by decide +kernel
theorem inX5g : ∀ x ∈ u_ws RX5 TX5 28, x ∈ gt := by decide +kernel
theorem lk_X4_12 : Cond.fieldLink RX4 12 RX4 (TX4 0).2.1 (TX4 0).2.2.1 ∈ gt := (gt_in (w := Cond.fieldLink RX4 12 RX4 "here" "LAlwaysYesterdays$Household;") 150 (by decide +kernel) (by decide +kernel))
theorem fl_X4_12 : FL RX4 12 4 0 := ⟨RX4, TX4, 12, rfl, by decide, inX4g, lk_X4_12⟩
theorem fs_X4_12 : FS RX4 12 4 0 := ⟨RX4, TX4, 12, rfl, rfl⟩
theorem lk_X4_16 : Cond.fieldLink RX4 16 RX4 (TX4 1).2.1 (TX4 1).2.2.1 ∈ gt := (gt_in (w := Cond.fieldLink RX4 16 RX4 "kept" "LAlwaysYesterdays$Household;") 151 (by decide +kernel) (by decide +kernel))
theorem fl_X4_16 : FL RX4 16 4 1 := ⟨RX4, TX4, 12, rfl, by decide, inX4g, lk_X4_16⟩
theorem fs_X4_16 : FS RX4 16 4 1 := ⟨RX4, TX4, 12, rfl, rfl⟩
theorem lk_X4_19 : Cond.fieldLink RX4 19 RX4 (TX4 2).2.1 (TX4 2).2.2.1 ∈ gt := (gt_in (w := Cond.fieldLink RX4 19 RX4 "mind" "LAlwaysYesterdays$Household;") 152 (by decide +kernel) (by decide +kernel))
theorem fl_X4_19 : FL RX4 19 4 2 := ⟨RX4, TX4, 12, rfl, by decide, inX4g, lk_X4_19⟩
theorem fs_X4_19 : FS RX4 19 4 2 := ⟨RX4, TX4, 12, rfl, rfl⟩
theorem lk_X4_25 : Cond.fieldLink RX4 25 RX4 (TX4 3).2.1 (TX4 3).2.2.1 ∈ gt := (gt_in (w := Cond.fieldLink RX4 25 RX4 "tally" "LAlwaysYesterdays$Tally;") 153 (by decide +kernel) (by decide +kernel))
theorem fl_X4_25 : FL RX4 25 4 3 := ⟨RX4, TX4, 12, rfl, by decide, inX4g, lk_X4_25⟩
theorem fs_X4_25 : FS RX4 25 4 3 := ⟨RX4, TX4, 12, rfl, rfl⟩
theorem lk_X4_32 : Cond.fieldLink RX4 32 RX4 (TX4 4).2.1 (TX4 4).2.2.1 ∈ gt := (gt_in (w := Cond.fieldLink RX4 32 RX4 "choice" "LAlwaysYesterdays$Choice;") 154 (by decide +kernel) (by decide +kernel))
theorem fl_X4_32 : FL RX4 32 4 4 := ⟨RX4, TX4, 12, rfl, by decide, inX4g, lk_X4_32⟩
theorem fs_X4_32 : FS RX4 32 4 4 := ⟨RX4, TX4, 12, rfl, rfl⟩
theorem lk_X4_39 : Cond.fieldLink RX4 39 RX4 (TX4 5).2.1 (TX4 5).2.2.1 ∈ gt := (gt_in (w := Cond.fieldLink RX4 39 RX4 "letters" "LAlwaysYesterdays$Letters;") 155 (by decide +kernel) (by decide +kernel))
theorem fl_X4_39 : FL RX4 39 4 5 := ⟨RX4, TX4, 12, rfl, by decide, inX4g, lk_X4_39⟩
theorem fs_X4_39 : FS RX4 39 4 5 := ⟨RX4, TX4, 12, rfl, rfl⟩
theorem lk_X4_43 : Cond.fieldLink RX4 43 RX4 (TX4 6).2.1 (TX4 6).2.2.1 ∈ gt := (gt_in (w := Cond.fieldLink RX4 43 RX4 "numbers" "[I") 156 (by decide +kernel) (by decide +kernel))
theorem fl_X4_43 : FL RX4 43 4 6 := ⟨RX4, TX4, 12, rfl, by decide, inX4g, lk_X4_43⟩
theorem fs_X4_43 : FS RX4 43 4 6 := ⟨RX4, TX4, 12, rfl, rfl⟩
theorem lk_X4_47 : Cond.fieldLink RX4 47 RX4 (TX4 7).2.1 (TX4 7).2.2.1 ∈ gt := (gt_in (w := Cond.fieldLink RX4 47 RX4 "refusals" "[I") 157 (by decide +kernel) (by decide +kernel))
theorem fl_X4_47 : FL RX4 47 4 7 := ⟨RX4, TX4, 12, rfl, by decide, inX4g, lk_X4_47⟩
theorem fs_X4_47 : FS RX4 47 4 7 := ⟨RX4, TX4, 12, rfl, rfl⟩
theorem lk_X4_50 : Cond.fieldLink RX4 50 RX4 (TX4 8).2.1 (TX4 8).2.2.1 ∈ gt := (gt_in (w := Cond.fieldLink RX4 50 RX4 "byShares" "[I") 158 (by decide +kernel) (by decide +kernel))
theorem fl_X4_50 : FL RX4 50 4 8 := ⟨RX4, TX4, 12, rfl, by decide, inX4g, lk_X4_50⟩
theorem fs_X4_50 : FS RX4 50 4 8 := ⟨RX4, TX4, 12, rfl, rfl⟩
theorem lk_X4_53 : Cond.fieldLink RX4 53 RX4 (TX4 9).2.1 (TX4 9).2.2.1 ∈ gt := (gt_in (w := Cond.fieldLink RX4 53 RX4 "byDays" "[I") 159 (by decide +kernel) (by decide +kernel))
theorem fl_X4_53 : FL RX4 53 4 9 := ⟨RX4, TX4, 12, rfl, by decide, inX4g, lk_X4_53⟩
theorem fs_X4_53 : FS RX4 53 4 9 := ⟨RX4, TX4, 12, rfl, rfl⟩
set_option maxRecDepth 100000 in
theorem cw_yX4_outside : Cond.code yX4_outside cX4_outside 3 (some .int) ∈ gt := (gt_in (w := Cond.code yX4_outside cX4_outside 3 (some .int)) 193 rfl (by decide +kernel))
theorem dk_yX4_outside : dOK yX4_outside 3 := ⟨by decide, by decide, by decide +kernel⟩
theorem ini_RX4 : Cond.initialized RX4 ∈ gt := (gt_in (w := Cond.initialized RX4) 39 (by decide +kernel) (by decide +kernel))
theorem ms_X4_56 : MS RX4 56 yX4_outside cX4_outside 3 (some .int) 3 := ⟨(gt_in (w := Cond.methodLink RX4 56 yX4_outside) 191 (by decide +kernel) (by decide +kernel)), (gt_in (w := Cond.static yX4_outside) 192 (by decide +kernel) (by decide +kernel)), ini_RX4, cw_yX4_outside, dk_yX4_outside, by decide⟩
theorem lk_X4_60 : Cond.fieldLink RX4 60 RX2 (TX2 1).2.1 (TX2 1).2.2.1 ∈ gt := (gt_in (w := Cond.fieldLink RX4 60 RX2 "many" "I") 143 (by decide +kernel) (by decide +kernel))
theorem fl_X4_60 : FL RX4 60 2 1 := ⟨RX2, TX2, 2, rfl, by decide, inX2g, lk_X4_60⟩
theorem fs_X4_60 : FS RX4 60 2 1 := ⟨RX2, TX2, 2, rfl, rfl⟩
set_option maxRecDepth 100000 in
theorem cw_yX4_refuse : Cond.code yX4_refuse cX4_refuse 2 (some .int) ∈ gt := (gt_in (w := Cond.code yX4_refuse cX4_refuse 2 (some .int)) 197 rfl (by decide +kernel))
theorem dk_yX4_refuse : dOK yX4_refuse 1 := ⟨by decide, by decide, by decide +kernel⟩
theorem mv_X4_64 : MV RX4 64 yX4_refuse cX4_refuse 2 (some .int) 1 4 := ⟨(gt_in (w := Cond.methodLink RX4 64 yX4_refuse) 194 (by decide +kernel) (by decide +kernel)), (gt_in (w := Cond.instanceMethod yX4_refuse) 196 (by decide +kernel) (by decide +kernel)), (gt_in (w := Cond.selects yX4_refuse.cls yX4_refuse yX4_refuse) 0 (by decide +kernel) (by decide +kernel)), ini_RX4, cw_yX4_refuse, dk_yX4_refuse, by decide, TX4, 12, rfl⟩
set_option maxRecDepth 100000 in
theorem cw_yX2_add : Cond.code yX2_add cX2_add 2 none ∈ gt := (gt_in (w := Cond.code yX2_add cX2_add 2 none) 204 rfl (by decide +kernel))
theorem dk_yX2_add : dOK yX2_add 1 := ⟨by decide, by decide, by decide +kernel⟩
theorem ini_RX2 : Cond.initialized RX2 ∈ gt := (gt_in (w := Cond.initialized RX2) 43 (by decide +kernel) (by decide +kernel))
theorem mv_X4_68 : MV RX4 68 yX2_add cX2_add 2 none 1 2 := ⟨(gt_in (w := Cond.methodLink RX4 68 yX2_add) 201 (by decide +kernel) (by decide +kernel)), (gt_in (w := Cond.instanceMethod yX2_add) 202 (by decide +kernel) (by decide +kernel)), (gt_in (w := Cond.selects yX2_add.cls yX2_add yX2_add) 203 (by decide +kernel) (by decide +kernel)), ini_RX2, cw_yX2_add, dk_yX2_add, by decide, TX2, 2, rfl⟩
set_option maxRecDepth 100000 in
theorem cw_yX2_wrongPlace : Cond.code yX2_wrongPlace cX2_wrongPlace 5 (some .int) ∈ gt := (gt_in (w := Cond.code yX2_wrongPlace cX2_wrongPlace 5 (some .int)) 212 rfl (by decide +kernel))
theorem dk_yX2_wrongPlace : dOK yX2_wrongPlace 0 := ⟨by decide, by decide, by decide +kernel⟩
theorem mv_X4_72 : MV RX4 72 yX2_wrongPlace cX2_wrongPlace 5 (some .int) 0 2 := ⟨(gt_in (w := Cond.methodLink RX4 72 yX2_wrongPlace) 209 (by decide +kernel) (by decide +kernel)), (gt_in (w := Cond.instanceMethod yX2_wrongPlace) 210 (by decide +kernel) (by decide +kernel)), (gt_in (w := Cond.selects yX2_wrongPlace.cls yX2_wrongPlace yX2_wrongPlace) 211 (by decide +kernel) (by decide +kernel)), ini_RX2, cw_yX2_wrongPlace, dk_yX2_wrongPlace, by decide, TX2, 2, rfl⟩
set_option maxRecDepth 100000 in
theorem cw_yX4_becomeHouse : Cond.code yX4_becomeHouse cX4_becomeHouse 4 (some .int) ∈ gt := (gt_in (w := Cond.code yX4_becomeHouse cX4_becomeHouse 4 (some .int)) 344 rfl (by decide +kernel))
theorem dk_yX4_becomeHouse : dOK yX4_becomeHouse 0 := ⟨by decide, by decide, by decide +kernel⟩
theorem mv_X4_76 : MV RX4 76 yX4_becomeHouse cX4_becomeHouse 4 (some .int) 0 4 := ⟨(gt_in (w := Cond.methodLink RX4 76 yX4_becomeHouse) 341 (by decide +kernel) (by decide +kernel)), (gt_in (w := Cond.instanceMethod yX4_becomeHouse) 343 (by decide +kernel) (by decide +kernel)), (gt_in (w := Cond.selects yX4_becomeHouse.cls yX4_becomeHouse yX4_becomeHouse) 1 (by decide +kernel) (by decide +kernel)), ini_RX4, cw_yX4_becomeHouse, dk_yX4_becomeHouse, by decide, TX4, 12, rfl⟩
theorem fp_X4_60 : FP RX4 60 2 1 .int := ⟨RX2, TX2, 2, tyX2, rfl, by decide, inX2g, lk_X4_60, tyX2_ok, nmX2, rfl, by decide +kernel, rfl⟩
set_option maxRecDepth 100000 in
theorem cw_yX1_has : Cond.code yX1_has cX1_has 2 (some .boolean) ∈ gt := (gt_in (w := Cond.code yX1_has cX1_has 2 (some .boolean)) 447 rfl (by decide +kernel))
theorem dk_yX1_has : dOK yX1_has 1 := ⟨by decide, by decide, by decide +kernel⟩
theorem ini_RX1 : Cond.initialized RX1 ∈ gt := (gt_in (w := Cond.initialized RX1) 40 (by decide +kernel) (by decide +kernel))
theorem mv_X4_79 : MV RX4 79 yX1_has cX1_has 2 (some .boolean) 1 1 := ⟨(gt_in (w := Cond.methodLink RX4 79 yX1_has) 444 (by decide +kernel) (by decide +kernel)), (gt_in (w := Cond.instanceMethod yX1_has) 445 (by decide +kernel) (by decide +kernel)), (gt_in (w := Cond.selects yX1_has.cls yX1_has yX1_has) 446 (by decide +kernel) (by decide +kernel)), ini_RX1, cw_yX1_has, dk_yX1_has, by decide, TX1, 7, rfl⟩
set_option maxRecDepth 100000 in
theorem cw_yX4_within : Cond.code yX4_within cX4_within 3 (some .boolean) ∈ gt := (gt_in (w := Cond.code yX4_within cX4_within 3 (some .boolean)) 200 rfl (by decide +kernel))
theorem dk_yX4_within : dOK yX4_within 3 := ⟨by decide, by decide, by decide +kernel⟩
theorem ms_X4_83 : MS RX4 83 yX4_within cX4_within 3 (some .boolean) 3 := ⟨(gt_in (w := Cond.methodLink RX4 83 yX4_within) 198 (by decide +kernel) (by decide +kernel)), (gt_in (w := Cond.static yX4_within) 199 (by decide +kernel) (by decide +kernel)), ini_RX4, cw_yX4_within, dk_yX4_within, by decide⟩
theorem lk_X4_87 : Cond.fieldLink RX4 87 RX1 (TX1 3).2.1 (TX1 3).2.2.1 ∈ gt := (gt_in (w := Cond.fieldLink RX4 87 RX1 "eaters" "[[I") 77 (by decide +kernel) (by decide +kernel))
theorem fl_X4_87 : FL RX4 87 1 3 := ⟨RX1, TX1, 7, rfl, by decide, inX1g, lk_X4_87⟩
theorem fs_X4_87 : FS RX4 87 1 3 := ⟨RX1, TX1, 7, rfl, rfl⟩
set_option maxRecDepth 100000 in
theorem cw_yX4_isAge : Cond.code yX4_isAge cX4_isAge 1 (some .boolean) ∈ gt := (gt_in (w := Cond.code yX4_isAge cX4_isAge 1 (some .boolean)) 383 rfl (by decide +kernel))
theorem dk_yX4_isAge : dOK yX4_isAge 1 := ⟨by decide, by decide, by decide +kernel⟩
theorem ms_X4_91 : MS RX4 91 yX4_isAge cX4_isAge 1 (some .boolean) 1 := ⟨(gt_in (w := Cond.methodLink RX4 91 yX4_isAge) 452 (by decide +kernel) (by decide +kernel)), (gt_in (w := Cond.static yX4_isAge) 382 (by decide +kernel) (by decide +kernel)), ini_RX4, cw_yX4_isAge, dk_yX4_isAge, by decide⟩
theorem lk_X4_94 : Cond.fieldLink RX4 94 RX1 (TX1 0).2.1 (TX1 0).2.2.1 ∈ gt := (gt_in (w := Cond.fieldLink RX4 94 RX1 "slices" "[I") 70 (by decide +kernel) (by decide +kernel))
theorem fl_X4_94 : FL RX4 94 1 0 := ⟨RX1, TX1, 7, rfl, by decide, inX1g, lk_X4_94⟩
theorem fs_X4_94 : FS RX4 94 1 0 := ⟨RX1, TX1, 7, rfl, rfl⟩
theorem lk_X4_97 : Cond.fieldLink RX4 97 RX1 (TX1 1).2.1 (TX1 1).2.2.1 ∈ gt := (gt_in (w := Cond.fieldLink RX4 97 RX1 "opens" "[I") 72 (by decide +kernel) (by decide +kernel))
theorem fl_X4_97 : FL RX4 97 1 1 := ⟨RX1, TX1, 7, rfl, by decide, inX1g, lk_X4_97⟩
theorem fs_X4_97 : FS RX4 97 1 1 := ⟨RX1, TX1, 7, rfl, rfl⟩
theorem gs_X4_100 : Cond.fieldLink RX4 100 RX4 "MOST_OF_SETTING" "[I" ∈ gt := (gt_in (w := Cond.fieldLink RX4 100 RX4 "MOST_OF_SETTING" "[I" ) 461 (by decide +kernel) (by decide +kernel))
theorem lk_X4_103 : Cond.fieldLink RX4 103 RX1 (TX1 2).2.1 (TX1 2).2.2.1 ∈ gt := (gt_in (w := Cond.fieldLink RX4 103 RX1 "settings" "[I") 75 (by decide +kernel) (by decide +kernel))
theorem fl_X4_103 : FL RX4 103 1 2 := ⟨RX1, TX1, 7, rfl, by decide, inX1g, lk_X4_103⟩
theorem fs_X4_103 : FS RX4 103 1 2 := ⟨RX1, TX1, 7, rfl, rfl⟩
set_option maxRecDepth 100000 in
theorem cw_yX1_worthTo : Cond.code yX1_worthTo cX1_worthTo 8 (some .int) ∈ gt := (gt_in (w := Cond.code yX1_worthTo cX1_worthTo 8 (some .int)) 422 rfl (by decide +kernel))
theorem dk_yX1_worthTo : dOK yX1_worthTo 2 := ⟨by decide, by decide, by decide +kernel⟩
theorem mv_X4_106 : MV RX4 106 yX1_worthTo cX1_worthTo 8 (some .int) 2 1 := ⟨(gt_in (w := Cond.methodLink RX4 106 yX1_worthTo) 466 (by decide +kernel) (by decide +kernel)), (gt_in (w := Cond.instanceMethod yX1_worthTo) 420 (by decide +kernel) (by decide +kernel)), (gt_in (w := Cond.selects yX1_worthTo.cls yX1_worthTo yX1_worthTo) 421 (by decide +kernel) (by decide +kernel)), ini_RX1, cw_yX1_worthTo, dk_yX1_worthTo, by decide, TX1, 7, rfl⟩
theorem lk_X4_110 : Cond.fieldLink RX4 110 RX1 (TX1 5).2.1 (TX1 5).2.2.1 ∈ gt := (gt_in (w := Cond.fieldLink RX4 110 RX1 "day" "I") 81 (by decide +kernel) (by decide +kernel))
theorem fl_X4_110 : FL RX4 110 1 5 := ⟨RX1, TX1, 7, rfl, by decide, inX1g, lk_X4_110⟩
theorem fs_X4_110 : FS RX4 110 1 5 := ⟨RX1, TX1, 7, rfl, rfl⟩
theorem cs_X4_113 : Cond.constant RX4 113 1000000000 ∈ gt := (gt_in (w := Cond.constant RX4 113 1000000000) 471 (by decide +kernel) (by decide +kernel))
set_option maxRecDepth 100000 in
theorem cw_yX3_clear : Cond.code yX3_clear cX3_clear 1 none ∈ gt := (gt_in (w := Cond.code yX3_clear cX3_clear 1 none) 475 rfl (by decide +kernel))
theorem dk_yX3_clear : dOK yX3_clear 0 := ⟨by decide, by decide, by decide +kernel⟩
theorem ini_RX3 : Cond.initialized RX3 ∈ gt := (gt_in (w := Cond.initialized RX3) 41 (by decide +kernel) (by decide +kernel))
theorem mv_X4_114 : MV RX4 114 yX3_clear cX3_clear 1 none 0 3 := ⟨(gt_in (w := Cond.methodLink RX4 114 yX3_clear) 472 (by decide +kernel) (by decide +kernel)), (gt_in (w := Cond.instanceMethod yX3_clear) 473 (by decide +kernel) (by decide +kernel)), (gt_in (w := Cond.selects yX3_clear.cls yX3_clear yX3_clear) 474 (by decide +kernel) (by decide +kernel)), ini_RX3, cw_yX3_clear, dk_yX3_clear, by decide, TX3, 3, rfl⟩
set_option maxRecDepth 100000 in
theorem cw_yX1_passDay : Cond.code yX1_passDay cX1_passDay 3 none ∈ gt := (gt_in (w := Cond.code yX1_passDay cX1_passDay 3 none) 393 rfl (by decide +kernel))
theorem dk_yX1_passDay : dOK yX1_passDay 1 := ⟨by decide, by decide, by decide +kernel⟩
theorem mv_X4_117 : MV RX4 117 yX1_passDay cX1_passDay 3 none 1 1 := ⟨(gt_in (w := Cond.methodLink RX4 117 yX1_passDay) 479 (by decide +kernel) (by decide +kernel)), (gt_in (w := Cond.instanceMethod yX1_passDay) 391 (by decide +kernel) (by decide +kernel)), (gt_in (w := Cond.selects yX1_passDay.cls yX1_passDay yX1_passDay) 392 (by decide +kernel) (by decide +kernel)), ini_RX1, cw_yX1_passDay, dk_yX1_passDay, by decide, TX1, 7, rfl⟩
theorem lk_X4_121 : Cond.fieldLink RX4 121 RX3 (TX3 0).2.1 (TX3 0).2.2.1 ∈ gt := (gt_in (w := Cond.fieldLink RX4 121 RX3 "counted" "[I") 108 (by decide +kernel) (by decide +kernel))
theorem fl_X4_121 : FL RX4 121 3 0 := ⟨RX3, TX3, 3, rfl, by decide, inX3g, lk_X4_121⟩
theorem fs_X4_121 : FS RX4 121 3 0 := ⟨RX3, TX3, 3, rfl, rfl⟩
set_option maxRecDepth 100000 in
theorem cw_yX4_think : Cond.code yX4_think cX4_think 1 none ∈ gt := (gt_in (w := Cond.code yX4_think cX4_think 1 none) 348 rfl (by decide +kernel))
theorem dk_yX4_think : dOK yX4_think 0 := ⟨by decide, by decide, by decide +kernel⟩
theorem mv_X4_124 : MV RX4 124 yX4_think cX4_think 1 none 0 4 := ⟨(gt_in (w := Cond.methodLink RX4 124 yX4_think) 345 (by decide +kernel) (by decide +kernel)), (gt_in (w := Cond.instanceMethod yX4_think) 347 (by decide +kernel) (by decide +kernel)), (gt_in (w := Cond.selects yX4_think.cls yX4_think yX4_think) 2 (by decide +kernel) (by decide +kernel)), ini_RX4, cw_yX4_think, dk_yX4_think, by decide, TX4, 12, rfl⟩
set_option maxRecDepth 100000 in
theorem cw_yX4_passInMind : Cond.code yX4_passInMind cX4_passInMind 3 (some .int) ∈ gt := (gt_in (w := Cond.code yX4_passInMind cX4_passInMind 3 (some .int)) 487 rfl (by decide +kernel))
theorem dk_yX4_passInMind : dOK yX4_passInMind 1 := ⟨by decide, by decide, by decide +kernel⟩
theorem mv_X4_127 : MV RX4 127 yX4_passInMind cX4_passInMind 3 (some .int) 1 4 := ⟨(gt_in (w := Cond.methodLink RX4 127 yX4_passInMind) 484 (by decide +kernel) (by decide +kernel)), (gt_in (w := Cond.instanceMethod yX4_passInMind) 486 (by decide +kernel) (by decide +kernel)), (gt_in (w := Cond.selects yX4_passInMind.cls yX4_passInMind yX4_passInMind) 11 (by decide +kernel) (by decide +kernel)), ini_RX4, cw_yX4_passInMind, dk_yX4_passInMind, by decide, TX4, 12, rfl⟩
set_option maxRecDepth 100000 in
theorem cw_yX1_allSlices : Cond.code yX1_allSlices cX1_allSlices 3 (some .int) ∈ gt := (gt_in (w := Cond.code yX1_allSlices cX1_allSlices 3 (some .int)) 503 rfl (by decide +kernel))
theorem dk_yX1_allSlices : dOK yX1_allSlices 0 := ⟨by decide, by decide, by decide +kernel⟩
theorem mv_X4_130 : MV RX4 130 yX1_allSlices cX1_allSlices 3 (some .int) 0 1 := ⟨(gt_in (w := Cond.methodLink RX4 130 yX1_allSlices) 500 (by decide +kernel) (by decide +kernel)), (gt_in (w := Cond.instanceMethod yX1_allSlices) 501 (by decide +kernel) (by decide +kernel)), (gt_in (w := Cond.selects yX1_allSlices.cls yX1_allSlices yX1_allSlices) 502 (by decide +kernel) (by decide +kernel)), ini_RX1, cw_yX1_allSlices, dk_yX1_allSlices, by decide, TX1, 7, rfl⟩
theorem ml_X4_133 : Cond.methodLink RX4 133 Lib.Math.min.name ∈ gt := (gt_in (w := Cond.methodLink RX4 133 Lib.Math.min.name) 504 (by decide +kernel) (by decide +kernel))
theorem st_Lib_Math_min : Cond.static Lib.Math.min.name ∈ gt := (gt_in (w := Cond.static Lib.Math.min.name) 300 (by decide +kernel) (by decide +kernel))
set_option maxRecDepth 100000 in
theorem co_Lib_Math_min : Cond.code Lib.Math.min.name Lib.Math.min.code 2 (some .int) ∈ gt := (gt_in (w := Cond.code Lib.Math.min.name Lib.Math.min.code 2 (some .int)) 301 rfl (by decide +kernel))
theorem ini_Math : Cond.initialized "java/lang/Math" ∈ gt := (gt_in (w := Cond.initialized "java/lang/Math") 49 (by decide +kernel) (by decide +kernel))
set_option maxRecDepth 100000 in
theorem cw_yX0_clear : Cond.code yX0_clear cX0_clear 1 none ∈ gt := (gt_in (w := Cond.code yX0_clear cX0_clear 1 none) 508 rfl (by decide +kernel))
theorem dk_yX0_clear : dOK yX0_clear 0 := ⟨by decide, by decide, by decide +kernel⟩
theorem ini_RX0 : Cond.initialized RX0 ∈ gt := (gt_in (w := Cond.initialized RX0) 42 (by decide +kernel) (by decide +kernel))
theorem mv_X4_138 : MV RX4 138 yX0_clear cX0_clear 1 none 0 0 := ⟨(gt_in (w := Cond.methodLink RX4 138 yX0_clear) 505 (by decide +kernel) (by decide +kernel)), (gt_in (w := Cond.instanceMethod yX0_clear) 506 (by decide +kernel) (by decide +kernel)), (gt_in (w := Cond.selects yX0_clear.cls yX0_clear yX0_clear) 507 (by decide +kernel) (by decide +kernel)), ini_RX0, cw_yX0_clear, dk_yX0_clear, by decide, TX0, 2, rfl⟩
set_option maxRecDepth 100000 in
theorem cw_yX1_loseOldest : Cond.code yX1_loseOldest cX1_loseOldest 5 none ∈ gt := (gt_in (w := Cond.code yX1_loseOldest cX1_loseOldest 5 none) 512 rfl (by decide +kernel))
theorem dk_yX1_loseOldest : dOK yX1_loseOldest 1 := ⟨by decide, by decide, by decide +kernel⟩
theorem mv_X4_139 : MV RX4 139 yX1_loseOldest cX1_loseOldest 5 none 1 1 := ⟨(gt_in (w := Cond.methodLink RX4 139 yX1_loseOldest) 509 (by decide +kernel) (by decide +kernel)), (gt_in (w := Cond.instanceMethod yX1_loseOldest) 510 (by decide +kernel) (by decide +kernel)), (gt_in (w := Cond.selects yX1_loseOldest.cls yX1_loseOldest yX1_loseOldest) 511 (by decide +kernel) (by decide +kernel)), ini_RX1, cw_yX1_loseOldest, dk_yX1_loseOldest, by decide, TX1, 7, rfl⟩
set_option maxRecDepth 100000 in
theorem cw_yX0_offer : Cond.code yX0_offer cX0_offer 3 none ∈ gt := (gt_in (w := Cond.code yX0_offer cX0_offer 3 none) 516 rfl (by decide +kernel))
theorem dk_yX0_offer : dOK yX0_offer 2 := ⟨by decide, by decide, by decide +kernel⟩
theorem mv_X4_143 : MV RX4 143 yX0_offer cX0_offer 3 none 2 0 := ⟨(gt_in (w := Cond.methodLink RX4 143 yX0_offer) 513 (by decide +kernel) (by decide +kernel)), (gt_in (w := Cond.instanceMethod yX0_offer) 514 (by decide +kernel) (by decide +kernel)), (gt_in (w := Cond.selects yX0_offer.cls yX0_offer yX0_offer) 515 (by decide +kernel) (by decide +kernel)), ini_RX0, cw_yX0_offer, dk_yX0_offer, by decide, TX0, 2, rfl⟩
theorem lk_X4_147 : Cond.fieldLink RX4 147 RX0 (TX0 0).2.1 (TX0 0).2.2.1 ∈ gt := (gt_in (w := Cond.fieldLink RX4 147 RX0 "best" "I") 127 (by decide +kernel) (by decide +kernel))
theorem fl_X4_147 : FL RX4 147 0 0 := ⟨RX0, TX0, 2, rfl, by decide, inX0g, lk_X4_147⟩
theorem fs_X4_147 : FS RX4 147 0 0 := ⟨RX0, TX0, 2, rfl, rfl⟩
set_option maxRecDepth 100000 in
theorem cw_yX1_openDays : Cond.code yX1_openDays cX1_openDays 3 (some .int) ∈ gt := (gt_in (w := Cond.code yX1_openDays cX1_openDays 3 (some .int)) 524 rfl (by decide +kernel))
theorem dk_yX1_openDays : dOK yX1_openDays 0 := ⟨by decide, by decide, by decide +kernel⟩
theorem mv_X4_150 : MV RX4 150 yX1_openDays cX1_openDays 3 (some .int) 0 1 := ⟨(gt_in (w := Cond.methodLink RX4 150 yX1_openDays) 521 (by decide +kernel) (by decide +kernel)), (gt_in (w := Cond.instanceMethod yX1_openDays) 522 (by decide +kernel) (by decide +kernel)), (gt_in (w := Cond.selects yX1_openDays.cls yX1_openDays yX1_openDays) 523 (by decide +kernel) (by decide +kernel)), ini_RX1, cw_yX1_openDays, dk_yX1_openDays, by decide, TX1, 7, rfl⟩
theorem lk_X4_153 : Cond.fieldLink RX4 153 RX1 (TX1 6).2.1 (TX1 6).2.2.1 ∈ gt := (gt_in (w := Cond.fieldLink RX4 153 RX1 "fewer" "I") 84 (by decide +kernel) (by decide +kernel))
theorem fl_X4_153 : FL RX4 153 1 6 := ⟨RX1, TX1, 7, rfl, by decide, inX1g, lk_X4_153⟩
theorem fs_X4_153 : FS RX4 153 1 6 := ⟨RX1, TX1, 7, rfl, rfl⟩
theorem fp_X4_153 : FP RX4 153 1 6 .int := ⟨RX1, TX1, 7, tyX1, rfl, by decide, inX1g, lk_X4_153, tyX1_ok, nmX1, rfl, by decide +kernel, rfl⟩
set_option maxRecDepth 100000 in
theorem cw_yX4_bestOfSetting : Cond.code yX4_bestOfSetting cX4_bestOfSetting 4 (some .int) ∈ gt := (gt_in (w := Cond.code yX4_bestOfSetting cX4_bestOfSetting 4 (some .int)) 532 rfl (by decide +kernel))
theorem dk_yX4_bestOfSetting : dOK yX4_bestOfSetting 2 := ⟨by decide, by decide, by decide +kernel⟩
theorem mv_X4_156 : MV RX4 156 yX4_bestOfSetting cX4_bestOfSetting 4 (some .int) 2 4 := ⟨(gt_in (w := Cond.methodLink RX4 156 yX4_bestOfSetting) 529 (by decide +kernel) (by decide +kernel)), (gt_in (w := Cond.instanceMethod yX4_bestOfSetting) 531 (by decide +kernel) (by decide +kernel)), (gt_in (w := Cond.selects yX4_bestOfSetting.cls yX4_bestOfSetting yX4_bestOfSetting) 12 (by decide +kernel) (by decide +kernel)), ini_RX4, cw_yX4_bestOfSetting, dk_yX4_bestOfSetting, by decide, TX4, 12, rfl⟩
theorem lk_X4_159 : Cond.fieldLink RX4 159 RX0 (TX0 1).2.1 (TX0 1).2.2.1 ∈ gt := (gt_in (w := Cond.fieldLink RX4 159 RX0 "bestValue" "I") 129 (by decide +kernel) (by decide +kernel))
theorem fl_X4_159 : FL RX4 159 0 1 := ⟨RX0, TX0, 2, rfl, by decide, inX0g, lk_X4_159⟩
theorem fs_X4_159 : FS RX4 159 0 1 := ⟨RX0, TX0, 2, rfl, rfl⟩
theorem cs_X4_162 : Cond.constantLong RX4 162 4000000000000000000 ∈ gt := (gt_in (w := Cond.constantLong RX4 162 4000000000000000000) 553 (by decide +kernel) (by decide +kernel))
theorem lk_X4_164 : Cond.fieldLink RX4 164 RX1 (TX1 4).2.1 (TX1 4).2.2.1 ∈ gt := (gt_in (w := Cond.fieldLink RX4 164 RX1 "eaterCount" "I") 79 (by decide +kernel) (by decide +kernel))
theorem fl_X4_164 : FL RX4 164 1 4 := ⟨RX1, TX1, 7, rfl, by decide, inX1g, lk_X4_164⟩
theorem fs_X4_164 : FS RX4 164 1 4 := ⟨RX1, TX1, 7, rfl, rfl⟩
theorem cs_X4_167 : Cond.constantLong RX4 167 10 ∈ gt := (gt_in (w := Cond.constantLong RX4 167 10) 554 (by decide +kernel) (by decide +kernel))
set_option maxRecDepth 100000 in
theorem cw_yX4_chanceOf : Cond.code yX4_chanceOf cX4_chanceOf 6 (some .long) ∈ gt := (gt_in (w := Cond.code yX4_chanceOf cX4_chanceOf 6 (some .long)) 558 rfl (by decide +kernel))
theorem dk_yX4_chanceOf : dOK yX4_chanceOf 1 := ⟨by decide, by decide, by decide +kernel⟩
theorem mv_X4_169 : MV RX4 169 yX4_chanceOf cX4_chanceOf 6 (some .long) 1 4 := ⟨(gt_in (w := Cond.methodLink RX4 169 yX4_chanceOf) 555 (by decide +kernel) (by decide +kernel)), (gt_in (w := Cond.instanceMethod yX4_chanceOf) 557 (by decide +kernel) (by decide +kernel)), (gt_in (w := Cond.selects yX4_chanceOf.cls yX4_chanceOf yX4_chanceOf) 13 (by decide +kernel) (by decide +kernel)), ini_RX4, cw_yX4_chanceOf, dk_yX4_chanceOf, by decide, TX4, 12, rfl⟩
set_option maxRecDepth 100000 in
theorem cw_yX4_valueIfThereCome : Cond.code yX4_valueIfThereCome cX4_valueIfThereCome 3 (some .int) ∈ gt := (gt_in (w := Cond.code yX4_valueIfThereCome cX4_valueIfThereCome 3 (some .int)) 562 rfl (by decide +kernel))
theorem dk_yX4_valueIfThereCome : dOK yX4_valueIfThereCome 1 := ⟨by decide, by decide, by decide +kernel⟩
theorem mv_X4_173 : MV RX4 173 yX4_valueIfThereCome cX4_valueIfThereCome 3 (some .int) 1 4 := ⟨(gt_in (w := Cond.methodLink RX4 173 yX4_valueIfThereCome) 559 (by decide +kernel) (by decide +kernel)), (gt_in (w := Cond.instanceMethod yX4_valueIfThereCome) 561 (by decide +kernel) (by decide +kernel)), (gt_in (w := Cond.selects yX4_valueIfThereCome.cls yX4_valueIfThereCome yX4_valueIfThereCome) 14 (by decide +kernel) (by decide +kernel)), ini_RX4, cw_yX4_valueIfThereCome, dk_yX4_valueIfThereCome, by decide, TX4, 12, rfl⟩
theorem ml_X4_176 : Cond.methodLink RX4 176 Lib.MathLoose.abs_long.x ∈ gt := (gt_in (w := Cond.methodLink RX4 176 Lib.MathLoose.abs_long.x) 563 (by decide +kernel) (by decide +kernel))
theorem st_Lib_MathLoose_abs_long : Cond.static Lib.MathLoose.abs_long.x ∈ gt := (gt_in (w := Cond.static Lib.MathLoose.abs_long.x) 564 (by decide +kernel) (by decide +kernel))
set_option maxRecDepth 100000 in
theorem co_Lib_MathLoose_abs_long : Cond.code Lib.MathLoose.abs_long.x Lib.MathLoose.abs_long.code 2 (some .long) ∈ gt := (gt_in (w := Cond.code Lib.MathLoose.abs_long.x Lib.MathLoose.abs_long.code 2 (some .long)) 565 rfl (by decide +kernel))
set_option maxRecDepth 100000 in
theorem cw_yX4_greatestDivisor : Cond.code yX4_greatestDivisor cX4_greatestDivisor 11 (some .long) ∈ gt := (gt_in (w := Cond.code yX4_greatestDivisor cX4_greatestDivisor 11 (some .long)) 568 rfl (by decide +kernel))
theorem dk_yX4_greatestDivisor : dOK yX4_greatestDivisor 2 := ⟨by decide, by decide, by decide +kernel⟩
theorem ms_X4_180 : MS RX4 180 yX4_greatestDivisor cX4_greatestDivisor 11 (some .long) 2 := ⟨(gt_in (w := Cond.methodLink RX4 180 yX4_greatestDivisor) 566 (by decide +kernel) (by decide +kernel)), (gt_in (w := Cond.static yX4_greatestDivisor) 567 (by decide +kernel) (by decide +kernel)), ini_RX4, cw_yX4_greatestDivisor, dk_yX4_greatestDivisor, by decide⟩
set_option maxRecDepth 100000 in
theorem cw_yJ7_fill_53178 : Cond.code yJ7_fill_53178 cJ7_fill_53178 4 none ∈ gt := (gt_in (w := Cond.code yJ7_fill_53178 cJ7_fill_53178 4 none) 478 rfl (by decide +kernel))
theorem dk_yJ7_fill_53178 : dOK yJ7_fill_53178 2 := ⟨by decide, by decide, by decide +kernel⟩
theorem ini_RJ7 : Cond.initialized RJ7 ∈ gt := (gt_in (w := Cond.initialized RJ7) 52 (by decide +kernel) (by decide +kernel))
theorem ms_X4_184 : MS RX4 184 yJ7_fill_53178 cJ7_fill_53178 4 none 2 := ⟨(gt_in (w := Cond.methodLink RX4 184 yJ7_fill_53178) 584 (by decide +kernel) (by decide +kernel)), (gt_in (w := Cond.static yJ7_fill_53178) 477 (by decide +kernel) (by decide +kernel)), ini_RJ7, cw_yJ7_fill_53178, dk_yJ7_fill_53178, by decide⟩
set_option maxRecDepth 100000 in
theorem cw_yX4_shareOne : Cond.code yX4_shareOne cX4_shareOne 7 none ∈ gt := (gt_in (w := Cond.code yX4_shareOne cX4_shareOne 7 none) 588 rfl (by decide +kernel))
theorem dk_yX4_shareOne : dOK yX4_shareOne 1 := ⟨by decide, by decide, by decide +kernel⟩
theorem mv_X4_190 : MV RX4 190 yX4_shareOne cX4_shareOne 7 none 1 4 := ⟨(gt_in (w := Cond.methodLink RX4 190 yX4_shareOne) 585 (by decide +kernel) (by decide +kernel)), (gt_in (w := Cond.instanceMethod yX4_shareOne) 587 (by decide +kernel) (by decide +kernel)), (gt_in (w := Cond.selects yX4_shareOne.cls yX4_shareOne yX4_shareOne) 15 (by decide +kernel) (by decide +kernel)), ini_RX4, cw_yX4_shareOne, dk_yX4_shareOne, by decide, TX4, 12, rfl⟩
set_option maxRecDepth 100000 in
theorem cw_yX4_greatest : Cond.code yX4_greatest cX4_greatest 3 (some .int) ∈ gt := (gt_in (w := Cond.code yX4_greatest cX4_greatest 3 (some .int)) 593 rfl (by decide +kernel))
theorem dk_yX4_greatest : dOK yX4_greatest 1 := ⟨by decide, by decide, by decide +kernel⟩
theorem ms_X4_193 : MS RX4 193 yX4_greatest cX4_greatest 3 (some .int) 1 := ⟨(gt_in (w := Cond.methodLink RX4 193 yX4_greatest) 591 (by decide +kernel) (by decide +kernel)), (gt_in (w := Cond.static yX4_greatest) 592 (by decide +kernel) (by decide +kernel)), ini_RX4, cw_yX4_greatest, dk_yX4_greatest, by decide⟩
theorem lk_X4_197 : Cond.fieldLink RX4 197 RX4 (TX4 10).2.1 (TX4 10).2.2.1 ∈ gt := (gt_in (w := Cond.fieldLink RX4 197 RX4 "numberCount" "I") 160 (by decide +kernel) (by decide +kernel))
theorem fl_X4_197 : FL RX4 197 4 10 := ⟨RX4, TX4, 12, rfl, by decide, inX4g, lk_X4_197⟩
theorem fs_X4_197 : FS RX4 197 4 10 := ⟨RX4, TX4, 12, rfl, rfl⟩
set_option maxRecDepth 100000 in
theorem cw_yX4_openBottle : Cond.code yX4_openBottle cX4_openBottle 8 none ∈ gt := (gt_in (w := Cond.code yX4_openBottle cX4_openBottle 8 none) 602 rfl (by decide +kernel))
theorem dk_yX4_openBottle : dOK yX4_openBottle 3 := ⟨by decide, by decide, by decide +kernel⟩
theorem mv_X4_200 : MV RX4 200 yX4_openBottle cX4_openBottle 8 none 3 4 := ⟨(gt_in (w := Cond.methodLink RX4 200 yX4_openBottle) 599 (by decide +kernel) (by decide +kernel)), (gt_in (w := Cond.instanceMethod yX4_openBottle) 601 (by decide +kernel) (by decide +kernel)), (gt_in (w := Cond.selects yX4_openBottle.cls yX4_openBottle yX4_openBottle) 16 (by decide +kernel) (by decide +kernel)), ini_RX4, cw_yX4_openBottle, dk_yX4_openBottle, by decide, TX4, 12, rfl⟩
theorem fp_X4_197 : FP RX4 197 4 10 .int := ⟨RX4, TX4, 12, tyX4, rfl, by decide, inX4g, lk_X4_197, tyX4_ok, nmX4, rfl, by decide +kernel, rfl⟩
set_option maxRecDepth 100000 in
theorem cw_yX4_throwsAsInRow : Cond.code yX4_throwsAsInRow cX4_throwsAsInRow 3 (some .boolean) ∈ gt := (gt_in (w := Cond.code yX4_throwsAsInRow cX4_throwsAsInRow 3 (some .boolean)) 614 rfl (by decide +kernel))
theorem dk_yX4_throwsAsInRow : dOK yX4_throwsAsInRow 1 := ⟨by decide, by decide, by decide +kernel⟩
theorem mv_X4_204 : MV RX4 204 yX4_throwsAsInRow cX4_throwsAsInRow 3 (some .boolean) 1 4 := ⟨(gt_in (w := Cond.methodLink RX4 204 yX4_throwsAsInRow) 611 (by decide +kernel) (by decide +kernel)), (gt_in (w := Cond.instanceMethod yX4_throwsAsInRow) 613 (by decide +kernel) (by decide +kernel)), (gt_in (w := Cond.selects yX4_throwsAsInRow.cls yX4_throwsAsInRow yX4_throwsAsInRow) 17 (by decide +kernel) (by decide +kernel)), ini_RX4, cw_yX4_throwsAsInRow, dk_yX4_throwsAsInRow, by decide, TX4, 12, rfl⟩
set_option maxRecDepth 100000 in
theorem cw_yX4_firstNotEatenToday : Cond.code yX4_firstNotEatenToday cX4_firstNotEatenToday 2 (some .int) ∈ gt := (gt_in (w := Cond.code yX4_firstNotEatenToday cX4_firstNotEatenToday 2 (some .int)) 622 rfl (by decide +kernel))
theorem dk_yX4_firstNotEatenToday : dOK yX4_firstNotEatenToday 0 := ⟨by decide, by decide, by decide +kernel⟩
theorem mv_X4_207 : MV RX4 207 yX4_firstNotEatenToday cX4_firstNotEatenToday 2 (some .int) 0 4 := ⟨(gt_in (w := Cond.methodLink RX4 207 yX4_firstNotEatenToday) 619 (by decide +kernel) (by decide +kernel)), (gt_in (w := Cond.instanceMethod yX4_firstNotEatenToday) 621 (by decide +kernel) (by decide +kernel)), (gt_in (w := Cond.selects yX4_firstNotEatenToday.cls yX4_firstNotEatenToday yX4_firstNotEatenToday) 18 (by decide +kernel) (by decide +kernel)), ini_RX4, cw_yX4_firstNotEatenToday, dk_yX4_firstNotEatenToday, by decide, TX4, 12, rfl⟩
theorem cs_X4_210 : Cond.constant RX4 210 1664525 ∈ gt := (gt_in (w := Cond.constant RX4 210 1664525) 627 (by decide +kernel) (by decide +kernel))
theorem cs_X4_211 : Cond.constant RX4 211 1013904223 ∈ gt := (gt_in (w := Cond.constant RX4 211 1013904223) 628 (by decide +kernel) (by decide +kernel))
set_option maxRecDepth 100000 in
theorem cw_yX4_draw : Cond.code yX4_draw cX4_draw 2 (some .int) ∈ gt := (gt_in (w := Cond.code yX4_draw cX4_draw 2 (some .int)) 631 rfl (by decide +kernel))
theorem dk_yX4_draw : dOK yX4_draw 2 := ⟨by decide, by decide, by decide +kernel⟩
theorem ms_X4_212 : MS RX4 212 yX4_draw cX4_draw 2 (some .int) 2 := ⟨(gt_in (w := Cond.methodLink RX4 212 yX4_draw) 629 (by decide +kernel) (by decide +kernel)), (gt_in (w := Cond.static yX4_draw) 630 (by decide +kernel) (by decide +kernel)), ini_RX4, cw_yX4_draw, dk_yX4_draw, by decide⟩
set_option maxRecDepth 100000 in
theorem cw_yX1_become : Cond.code yX1_become cX1_become 3 none ∈ gt := (gt_in (w := Cond.code yX1_become cX1_become 3 none) 352 rfl (by decide +kernel))
theorem dk_yX1_become : dOK yX1_become 1 := ⟨by decide, by decide, by decide +kernel⟩
theorem mv_X4_215 : MV RX4 215 yX1_become cX1_become 3 none 1 1 := ⟨(gt_in (w := Cond.methodLink RX4 215 yX1_become) 349 (by decide +kernel) (by decide +kernel)), (gt_in (w := Cond.instanceMethod yX1_become) 350 (by decide +kernel) (by decide +kernel)), (gt_in (w := Cond.selects yX1_become.cls yX1_become yX1_become) 351 (by decide +kernel) (by decide +kernel)), ini_RX1, cw_yX1_become, dk_yX1_become, by decide, TX1, 7, rfl⟩
theorem lk_X4_219 : Cond.fieldLink RX4 219 RX4 (TX4 11).2.1 (TX4 11).2.2.1 ∈ gt := (gt_in (w := Cond.fieldLink RX4 219 RX4 "imageTaken" "Z") 161 (by decide +kernel) (by decide +kernel))
theorem fl_X4_219 : FL RX4 219 4 11 := ⟨RX4, TX4, 12, rfl, by decide, inX4g, lk_X4_219⟩
theorem fs_X4_219 : FS RX4 219 4 11 := ⟨RX4, TX4, 12, rfl, rfl⟩
theorem fp_X4_219 : FP RX4 219 4 11 .boolean := ⟨RX4, TX4, 12, tyX4, rfl, by decide, inX4g, lk_X4_219, tyX4_ok, nmX4, rfl, by decide +kernel, rfl⟩
set_option maxRecDepth 100000 in
theorem cw_yX1_allHunger : Cond.code yX1_allHunger cX1_allHunger 3 (some .int) ∈ gt := (gt_in (w := Cond.code yX1_allHunger cX1_allHunger 3 (some .int)) 648 rfl (by decide +kernel))
theorem dk_yX1_allHunger : dOK yX1_allHunger 0 := ⟨by decide, by decide, by decide +kernel⟩
theorem mv_X4_223 : MV RX4 223 yX1_allHunger cX1_allHunger 3 (some .int) 0 1 := ⟨(gt_in (w := Cond.methodLink RX4 223 yX1_allHunger) 645 (by decide +kernel) (by decide +kernel)), (gt_in (w := Cond.instanceMethod yX1_allHunger) 646 (by decide +kernel) (by decide +kernel)), (gt_in (w := Cond.selects yX1_allHunger.cls yX1_allHunger yX1_allHunger) 647 (by decide +kernel) (by decide +kernel)), ini_RX1, cw_yX1_allHunger, dk_yX1_allHunger, by decide, TX1, 7, rfl⟩
set_option maxRecDepth 100000 in
theorem cw_yX2_tellStatement : Cond.code yX2_tellStatement cX2_tellStatement 6 (some .boolean) ∈ gt := (gt_in (w := Cond.code yX2_tellStatement cX2_tellStatement 6 (some .boolean)) 359 rfl (by decide +kernel))
theorem dk_yX2_tellStatement : dOK yX2_tellStatement 3 := ⟨by decide, by decide, by decide +kernel⟩
theorem mv_X4_226 : MV RX4 226 yX2_tellStatement cX2_tellStatement 6 (some .boolean) 3 2 := ⟨(gt_in (w := Cond.methodLink RX4 226 yX2_tellStatement) 356 (by decide +kernel) (by decide +kernel)), (gt_in (w := Cond.instanceMethod yX2_tellStatement) 357 (by decide +kernel) (by decide +kernel)), (gt_in (w := Cond.selects yX2_tellStatement.cls yX2_tellStatement yX2_tellStatement) 358 (by decide +kernel) (by decide +kernel)), ini_RX2, cw_yX2_tellStatement, dk_yX2_tellStatement, by decide, TX2, 2, rfl⟩
set_option maxRecDepth 100000 in
theorem cw_yX2_behindStatement : Cond.code yX2_behindStatement cX2_behindStatement 3 (some .int) ∈ gt := (gt_in (w := Cond.code yX2_behindStatement cX2_behindStatement 3 (some .int)) 438 rfl (by decide +kernel))
theorem dk_yX2_behindStatement : dOK yX2_behindStatement 1 := ⟨by decide, by decide, by decide +kernel⟩
theorem mv_X4_230 : MV RX4 230 yX2_behindStatement cX2_behindStatement 3 (some .int) 1 2 := ⟨(gt_in (w := Cond.methodLink RX4 230 yX2_behindStatement) 435 (by decide +kernel) (by decide +kernel)), (gt_in (w := Cond.instanceMethod yX2_behindStatement) 436 (by decide +kernel) (by decide +kernel)), (gt_in (w := Cond.selects yX2_behindStatement.cls yX2_behindStatement yX2_behindStatement) 437 (by decide +kernel) (by decide +kernel)), ini_RX2, cw_yX2_behindStatement, dk_yX2_behindStatement, by decide, TX2, 2, rfl⟩
theorem ml_X4_233 : Cond.methodLink RX4 233 Lib.MathLoose.max_long.x ∈ gt := (gt_in (w := Cond.methodLink RX4 233 Lib.MathLoose.max_long.x) 569 (by decide +kernel) (by decide +kernel))
theorem st_Lib_MathLoose_max_long : Cond.static Lib.MathLoose.max_long.x ∈ gt := (gt_in (w := Cond.static Lib.MathLoose.max_long.x) 570 (by decide +kernel) (by decide +kernel))
set_option maxRecDepth 100000 in
theorem co_Lib_MathLoose_max_long : Cond.code Lib.MathLoose.max_long.x Lib.MathLoose.max_long.code 4 (some .long) ∈ gt := (gt_in (w := Cond.code Lib.MathLoose.max_long.x Lib.MathLoose.max_long.code 4 (some .long)) 571 rfl (by decide +kernel))
theorem gs_X4_236 : Cond.fieldLink RX4 236 RX4 "THREES" "[I" ∈ gt := (gt_in (w := Cond.fieldLink RX4 236 RX4 "THREES" "[I" ) 589 (by decide +kernel) (by decide +kernel))
theorem ml_X4_239 : Cond.methodLink RX4 239 Lib.Math.max.name ∈ gt := (gt_in (w := Cond.methodLink RX4 239 Lib.Math.max.name) 594 (by decide +kernel) (by decide +kernel))
theorem st_Lib_Math_max : Cond.static Lib.Math.max.name ∈ gt := (gt_in (w := Cond.static Lib.Math.max.name) 297 (by decide +kernel) (by decide +kernel))
set_option maxRecDepth 100000 in
theorem co_Lib_Math_max : Cond.code Lib.Math.max.name Lib.Math.max.code 2 (some .int) ∈ gt := (gt_in (w := Cond.code Lib.Math.max.name Lib.Math.max.code 2 (some .int)) 298 rfl (by decide +kernel))
theorem lk_X4_241 : Cond.fieldLink RX4 241 RX3 (TX3 2).2.1 (TX3 2).2.2.1 ∈ gt := (gt_in (w := Cond.fieldLink RX4 241 RX3 "firstCount" "I") 112 (by decide +kernel) (by decide +kernel))
theorem fl_X4_241 : FL RX4 241 3 2 := ⟨RX3, TX3, 3, rfl, by decide, inX3g, lk_X4_241⟩
theorem fs_X4_241 : FS RX4 241 3 2 := ⟨RX3, TX3, 3, rfl, rfl⟩
theorem lk_X4_244 : Cond.fieldLink RX4 244 RX3 (TX3 1).2.1 (TX3 1).2.2.1 ∈ gt := (gt_in (w := Cond.fieldLink RX4 244 RX3 "firstAges" "[I") 110 (by decide +kernel) (by decide +kernel))
theorem fl_X4_244 : FL RX4 244 3 1 := ⟨RX3, TX3, 3, rfl, by decide, inX3g, lk_X4_244⟩
theorem fs_X4_244 : FS RX4 244 3 1 := ⟨RX3, TX3, 3, rfl, rfl⟩
theorem cs_X4_247 : Cond.constant RX4 247 2147483647 ∈ gt := (gt_in (w := Cond.constant RX4 247 2147483647) 632 (by decide +kernel) (by decide +kernel))
theorem lk_X5_1 : Cond.fieldLink RX5 1 RX5 (TX5 0).2.1 (TX5 0).2.2.1 ∈ gt := (gt_in (w := Cond.fieldLink RX5 1 RX5 "refused" "[I") 655 (by decide +kernel) (by decide +kernel))
theorem fl_X5_1 : FL RX5 1 5 0 := ⟨RX5, TX5, 28, rfl, by decide, inX5g, lk_X5_1⟩
theorem fs_X5_1 : FS RX5 1 5 0 := ⟨RX5, TX5, 28, rfl, rfl⟩
theorem lk_X5_13 : Cond.fieldLink RX5 13 RX5 (TX5 1).2.1 (TX5 1).2.2.1 ∈ gt := (gt_in (w := Cond.fieldLink RX5 13 RX5 "now" "[I") 656 (by decide +kernel) (by decide +kernel))
theorem fl_X5_13 : FL RX5 13 5 1 := ⟨RX5, TX5, 28, rfl, by decide, inX5g, lk_X5_13⟩
theorem fs_X5_13 : FS RX5 13 5 1 := ⟨RX5, TX5, 28, rfl, rfl⟩
theorem lk_X5_16 : Cond.fieldLink RX5 16 RX5 (TX5 2).2.1 (TX5 2).2.2.1 ∈ gt := (gt_in (w := Cond.fieldLink RX5 16 RX5 "mind" "[I") 657 (by decide +kernel) (by decide +kernel))
theorem fl_X5_16 : FL RX5 16 5 2 := ⟨RX5, TX5, 28, rfl, by decide, inX5g, lk_X5_16⟩
theorem fs_X5_16 : FS RX5 16 5 2 := ⟨RX5, TX5, 28, rfl, rfl⟩
theorem lk_X5_19 : Cond.fieldLink RX5 19 RX5 (TX5 3).2.1 (TX5 3).2.2.1 ∈ gt := (gt_in (w := Cond.fieldLink RX5 19 RX5 "then" "[I") 658 (by decide +kernel) (by decide +kernel))
theorem fl_X5_19 : FL RX5 19 5 3 := ⟨RX5, TX5, 28, rfl, by decide, inX5g, lk_X5_19⟩
theorem fs_X5_19 : FS RX5 19 5 3 := ⟨RX5, TX5, 28, rfl, rfl⟩
theorem lk_X5_22 : Cond.fieldLink RX5 22 RX5 (TX5 5).2.1 (TX5 5).2.2.1 ∈ gt := (gt_in (w := Cond.fieldLink RX5 22 RX5 "hungers" "[I") 660 (by decide +kernel) (by decide +kernel))
theorem fl_X5_22 : FL RX5 22 5 5 := ⟨RX5, TX5, 28, rfl, by decide, inX5g, lk_X5_22⟩
theorem fs_X5_22 : FS RX5 22 5 5 := ⟨RX5, TX5, 28, rfl, rfl⟩
theorem lk_X5_25 : Cond.fieldLink RX5 25 RX5 (TX5 6).2.1 (TX5 6).2.2.1 ∈ gt := (gt_in (w := Cond.fieldLink RX5 25 RX5 "eaten" "[I") 661 (by decide +kernel) (by decide +kernel))
theorem fl_X5_25 : FL RX5 25 5 6 := ⟨RX5, TX5, 28, rfl, by decide, inX5g, lk_X5_25⟩
theorem fs_X5_25 : FS RX5 25 5 6 := ⟨RX5, TX5, 28, rfl, rfl⟩
theorem lk_X5_28 : Cond.fieldLink RX5 28 RX5 (TX5 13).2.1 (TX5 13).2.2.1 ∈ gt := (gt_in (w := Cond.fieldLink RX5 28 RX5 "sums" "[I") 668 (by decide +kernel) (by decide +kernel))
theorem fl_X5_28 : FL RX5 28 5 13 := ⟨RX5, TX5, 28, rfl, by decide, inX5g, lk_X5_28⟩
theorem fs_X5_28 : FS RX5 28 5 13 := ⟨RX5, TX5, 28, rfl, rfl⟩
theorem lk_X5_31 : Cond.fieldLink RX5 31 RX5 (TX5 14).2.1 (TX5 14).2.2.1 ∈ gt := (gt_in (w := Cond.fieldLink RX5 31 RX5 "tape" "[I") 669 (by decide +kernel) (by decide +kernel))
theorem fl_X5_31 : FL RX5 31 5 14 := ⟨RX5, TX5, 28, rfl, by decide, inX5g, lk_X5_31⟩
theorem fs_X5_31 : FS RX5 31 5 14 := ⟨RX5, TX5, 28, rfl, rfl⟩
theorem lk_X5_34 : Cond.fieldLink RX5 34 RX5 (TX5 18).2.1 (TX5 18).2.2.1 ∈ gt := (gt_in (w := Cond.fieldLink RX5 34 RX5 "begins" "[C") 673 (by decide +kernel) (by decide +kernel))
theorem fl_X5_34 : FL RX5 34 5 18 := ⟨RX5, TX5, 28, rfl, by decide, inX5g, lk_X5_34⟩
theorem fs_X5_34 : FS RX5 34 5 18 := ⟨RX5, TX5, 28, rfl, rfl⟩
theorem lk_X5_38 : Cond.fieldLink RX5 38 RX5 (TX5 19).2.1 (TX5 19).2.2.1 ∈ gt := (gt_in (w := Cond.fieldLink RX5 38 RX5 "eaters" "[C") 674 (by decide +kernel) (by decide +kernel))
theorem fl_X5_38 : FL RX5 38 5 19 := ⟨RX5, TX5, 28, rfl, by decide, inX5g, lk_X5_38⟩
theorem fs_X5_38 : FS RX5 38 5 19 := ⟨RX5, TX5, 28, rfl, rfl⟩
theorem lk_X5_41 : Cond.fieldLink RX5 41 RX5 (TX5 20).2.1 (TX5 20).2.2.1 ∈ gt := (gt_in (w := Cond.fieldLink RX5 41 RX5 "houses" "[C") 675 (by decide +kernel) (by decide +kernel))
theorem fl_X5_41 : FL RX5 41 5 20 := ⟨RX5, TX5, 28, rfl, by decide, inX5g, lk_X5_41⟩
theorem fs_X5_41 : FS RX5 41 5 20 := ⟨RX5, TX5, 28, rfl, rfl⟩
theorem lk_X5_44 : Cond.fieldLink RX5 44 RX5 (TX5 21).2.1 (TX5 21).2.2.1 ∈ gt := (gt_in (w := Cond.fieldLink RX5 44 RX5 "opens" "[C") 676 (by decide +kernel) (by decide +kernel))
theorem fl_X5_44 : FL RX5 44 5 21 := ⟨RX5, TX5, 28, rfl, by decide, inX5g, lk_X5_44⟩
theorem fs_X5_44 : FS RX5 44 5 21 := ⟨RX5, TX5, 28, rfl, rfl⟩
theorem lk_X5_47 : Cond.fieldLink RX5 47 RX5 (TX5 23).2.1 (TX5 23).2.2.1 ∈ gt := (gt_in (w := Cond.fieldLink RX5 47 RX5 "field" "[I") 678 (by decide +kernel) (by decide +kernel))
theorem fl_X5_47 : FL RX5 47 5 23 := ⟨RX5, TX5, 28, rfl, by decide, inX5g, lk_X5_47⟩
theorem fs_X5_47 : FS RX5 47 5 23 := ⟨RX5, TX5, 28, rfl, rfl⟩
theorem lk_X5_50 : Cond.fieldLink RX5 50 RX5 (TX5 25).2.1 (TX5 25).2.2.1 ∈ gt := (gt_in (w := Cond.fieldLink RX5 50 RX5 "had" "[I") 680 (by decide +kernel) (by decide +kernel))
theorem fl_X5_50 : FL RX5 50 5 25 := ⟨RX5, TX5, 28, rfl, by decide, inX5g, lk_X5_50⟩
theorem fs_X5_50 : FS RX5 50 5 25 := ⟨RX5, TX5, 28, rfl, rfl⟩
theorem lk_X5_53 : Cond.fieldLink RX5 53 RX5 (TX5 26).2.1 (TX5 26).2.2.1 ∈ gt := (gt_in (w := Cond.fieldLink RX5 53 RX5 "line" "[I") 681 (by decide +kernel) (by decide +kernel))
theorem fl_X5_53 : FL RX5 53 5 26 := ⟨RX5, TX5, 28, rfl, by decide, inX5g, lk_X5_53⟩
theorem fs_X5_53 : FS RX5 53 5 26 := ⟨RX5, TX5, 28, rfl, rfl⟩
theorem lk_X5_56 : Cond.fieldLink RX5 56 RX5 (TX5 4).2.1 (TX5 4).2.2.1 ∈ gt := (gt_in (w := Cond.fieldLink RX5 56 RX5 "kept" "Z") 659 (by decide +kernel) (by decide +kernel))
theorem fl_X5_56 : FL RX5 56 5 4 := ⟨RX5, TX5, 28, rfl, by decide, inX5g, lk_X5_56⟩
theorem fs_X5_56 : FS RX5 56 5 4 := ⟨RX5, TX5, 28, rfl, rfl⟩
theorem fp_X5_56 : FP RX5 56 5 4 .boolean := ⟨RX5, TX5, 28, tyX5, rfl, by decide, inX5g, lk_X5_56, tyX5_ok, nmX5, rfl, by decide +kernel, rfl⟩
set_option maxRecDepth 100000 in
theorem cw_yX5_move : Cond.code yX5_move cX5_move 3 none ∈ gt := (gt_in (w := Cond.code yX5_move cX5_move 3 none) 746 rfl (by decide +kernel))
theorem dk_yX5_move : dOK yX5_move 2 := ⟨by decide, by decide, by decide +kernel⟩
theorem ini_RX5 : Cond.initialized RX5 ∈ gt := (gt_in (w := Cond.initialized RX5) 44 (by decide +kernel) (by decide +kernel))
theorem ms_X5_60 : MS RX5 60 yX5_move cX5_move 3 none 2 := ⟨(gt_in (w := Cond.methodLink RX5 60 yX5_move) 744 (by decide +kernel) (by decide +kernel)), (gt_in (w := Cond.static yX5_move) 745 (by decide +kernel) (by decide +kernel)), ini_RX5, cw_yX5_move, dk_yX5_move, by decide⟩
set_option maxRecDepth 100000 in
theorem cw_yX5_no : Cond.code yX5_no cX5_no 2 (some .int) ∈ gt := (gt_in (w := Cond.code yX5_no cX5_no 2 (some .int)) 754 rfl (by decide +kernel))
theorem dk_yX5_no : dOK yX5_no 1 := ⟨by decide, by decide, by decide +kernel⟩
theorem mv_X5_64 : MV RX5 64 yX5_no cX5_no 2 (some .int) 1 5 := ⟨(gt_in (w := Cond.methodLink RX5 64 yX5_no) 751 (by decide +kernel) (by decide +kernel)), (gt_in (w := Cond.instanceMethod yX5_no) 753 (by decide +kernel) (by decide +kernel)), (gt_in (w := Cond.selects yX5_no.cls yX5_no yX5_no) 19 (by decide +kernel) (by decide +kernel)), ini_RX5, cw_yX5_no, dk_yX5_no, by decide, TX5, 28, rfl⟩
theorem ml_X5_68 : Cond.methodLink RX5 68 Lib.Math.max.name ∈ gt := (gt_in (w := Cond.methodLink RX5 68 Lib.Math.max.name) 800 (by decide +kernel) (by decide +kernel))
set_option maxRecDepth 100000 in
theorem cw_yX5_worthOf : Cond.code yX5_worthOf cX5_worthOf 6 (some .int) ∈ gt := (gt_in (w := Cond.code yX5_worthOf cX5_worthOf 6 (some .int)) 806 rfl (by decide +kernel))
theorem dk_yX5_worthOf : dOK yX5_worthOf 3 := ⟨by decide, by decide, by decide +kernel⟩
theorem ms_X5_74 : MS RX5 74 yX5_worthOf cX5_worthOf 6 (some .int) 3 := ⟨(gt_in (w := Cond.methodLink RX5 74 yX5_worthOf) 804 (by decide +kernel) (by decide +kernel)), (gt_in (w := Cond.static yX5_worthOf) 805 (by decide +kernel) (by decide +kernel)), ini_RX5, cw_yX5_worthOf, dk_yX5_worthOf, by decide⟩
theorem ml_X5_78 : Cond.methodLink RX5 78 Lib.Math.min.name ∈ gt := (gt_in (w := Cond.methodLink RX5 78 Lib.Math.min.name) 799 (by decide +kernel) (by decide +kernel))
theorem lk_X5_81 : Cond.fieldLink RX5 81 RX5 (TX5 12).2.1 (TX5 12).2.2.1 ∈ gt := (gt_in (w := Cond.fieldLink RX5 81 RX5 "bought" "I") 667 (by decide +kernel) (by decide +kernel))
theorem fl_X5_81 : FL RX5 81 5 12 := ⟨RX5, TX5, 28, rfl, by decide, inX5g, lk_X5_81⟩
theorem fs_X5_81 : FS RX5 81 5 12 := ⟨RX5, TX5, 28, rfl, rfl⟩
theorem fp_X5_81 : FP RX5 81 5 12 .int := ⟨RX5, TX5, 28, tyX5, rfl, by decide, inX5g, lk_X5_81, tyX5_ok, nmX5, rfl, by decide +kernel, rfl⟩
theorem lk_X5_85 : Cond.fieldLink RX5 85 RX5 (TX5 8).2.1 (TX5 8).2.2.1 ∈ gt := (gt_in (w := Cond.fieldLink RX5 85 RX5 "value" "I") 663 (by decide +kernel) (by decide +kernel))
theorem fl_X5_85 : FL RX5 85 5 8 := ⟨RX5, TX5, 28, rfl, by decide, inX5g, lk_X5_85⟩
theorem fs_X5_85 : FS RX5 85 5 8 := ⟨RX5, TX5, 28, rfl, rfl⟩
theorem fp_X5_85 : FP RX5 85 5 8 .int := ⟨RX5, TX5, 28, tyX5, rfl, by decide, inX5g, lk_X5_85, tyX5_ok, nmX5, rfl, by decide +kernel, rfl⟩
theorem lk_X5_88 : Cond.fieldLink RX5 88 RX5 (TX5 9).2.1 (TX5 9).2.2.1 ∈ gt := (gt_in (w := Cond.fieldLink RX5 88 RX5 "fresh" "I") 664 (by decide +kernel) (by decide +kernel))
theorem fl_X5_88 : FL RX5 88 5 9 := ⟨RX5, TX5, 28, rfl, by decide, inX5g, lk_X5_88⟩
theorem fs_X5_88 : FS RX5 88 5 9 := ⟨RX5, TX5, 28, rfl, rfl⟩
theorem fp_X5_88 : FP RX5 88 5 9 .int := ⟨RX5, TX5, 28, tyX5, rfl, by decide, inX5g, lk_X5_88, tyX5_ok, nmX5, rfl, by decide +kernel, rfl⟩
theorem lk_X5_91 : Cond.fieldLink RX5 91 RX5 (TX5 11).2.1 (TX5 11).2.2.1 ∈ gt := (gt_in (w := Cond.fieldLink RX5 91 RX5 "lacked" "I") 666 (by decide +kernel) (by decide +kernel))
theorem fl_X5_91 : FL RX5 91 5 11 := ⟨RX5, TX5, 28, rfl, by decide, inX5g, lk_X5_91⟩
theorem fs_X5_91 : FS RX5 91 5 11 := ⟨RX5, TX5, 28, rfl, rfl⟩
theorem fp_X5_91 : FP RX5 91 5 11 .int := ⟨RX5, TX5, 28, tyX5, rfl, by decide, inX5g, lk_X5_91, tyX5_ok, nmX5, rfl, by decide +kernel, rfl⟩
theorem lk_X5_94 : Cond.fieldLink RX5 94 RX5 (TX5 7).2.1 (TX5 7).2.2.1 ∈ gt := (gt_in (w := Cond.fieldLink RX5 94 RX5 "eatenMany" "I") 662 (by decide +kernel) (by decide +kernel))
theorem fl_X5_94 : FL RX5 94 5 7 := ⟨RX5, TX5, 28, rfl, by decide, inX5g, lk_X5_94⟩
theorem fs_X5_94 : FS RX5 94 5 7 := ⟨RX5, TX5, 28, rfl, rfl⟩
theorem fp_X5_94 : FP RX5 94 5 7 .int := ⟨RX5, TX5, 28, tyX5, rfl, by decide, inX5g, lk_X5_94, tyX5_ok, nmX5, rfl, by decide +kernel, rfl⟩
set_option maxRecDepth 100000 in
theorem cw_yX5_come : Cond.code yX5_come cX5_come 5 (some .int) ∈ gt := (gt_in (w := Cond.code yX5_come cX5_come 5 (some .int)) 798 rfl (by decide +kernel))
theorem dk_yX5_come : dOK yX5_come 3 := ⟨by decide, by decide, by decide +kernel⟩
theorem mv_X5_97 : MV RX5 97 yX5_come cX5_come 5 (some .int) 3 5 := ⟨(gt_in (w := Cond.methodLink RX5 97 yX5_come) 795 (by decide +kernel) (by decide +kernel)), (gt_in (w := Cond.instanceMethod yX5_come) 797 (by decide +kernel) (by decide +kernel)), (gt_in (w := Cond.selects yX5_come.cls yX5_come yX5_come) 28 (by decide +kernel) (by decide +kernel)), ini_RX5, cw_yX5_come, dk_yX5_come, by decide, TX5, 28, rfl⟩
set_option maxRecDepth 100000 in
theorem cw_yX5_next : Cond.code yX5_next cX5_next 7 (some .int) ∈ gt := (gt_in (w := Cond.code yX5_next cX5_next 7 (some .int)) 803 rfl (by decide +kernel))
theorem dk_yX5_next : dOK yX5_next 2 := ⟨by decide, by decide, by decide +kernel⟩
theorem ms_X5_100 : MS RX5 100 yX5_next cX5_next 7 (some .int) 2 := ⟨(gt_in (w := Cond.methodLink RX5 100 yX5_next) 801 (by decide +kernel) (by decide +kernel)), (gt_in (w := Cond.static yX5_next) 802 (by decide +kernel) (by decide +kernel)), ini_RX5, cw_yX5_next, dk_yX5_next, by decide⟩
theorem lk_X5_104 : Cond.fieldLink RX5 104 RX5 (TX5 10).2.1 (TX5 10).2.2.1 ∈ gt := (gt_in (w := Cond.fieldLink RX5 104 RX5 "thrown" "I") 665 (by decide +kernel) (by decide +kernel))
theorem fl_X5_104 : FL RX5 104 5 10 := ⟨RX5, TX5, 28, rfl, by decide, inX5g, lk_X5_104⟩
theorem fs_X5_104 : FS RX5 104 5 10 := ⟨RX5, TX5, 28, rfl, rfl⟩
theorem fp_X5_104 : FP RX5 104 5 10 .int := ⟨RX5, TX5, 28, tyX5, rfl, by decide, inX5g, lk_X5_104, tyX5_ok, nmX5, rfl, by decide +kernel, rfl⟩
set_option maxRecDepth 100000 in
theorem cw_yX5_asTold : Cond.code yX5_asTold cX5_asTold 3 none ∈ gt := (gt_in (w := Cond.code yX5_asTold cX5_asTold 3 none) 790 rfl (by decide +kernel))
theorem dk_yX5_asTold : dOK yX5_asTold 1 := ⟨by decide, by decide, by decide +kernel⟩
theorem mv_X5_107 : MV RX5 107 yX5_asTold cX5_asTold 3 none 1 5 := ⟨(gt_in (w := Cond.methodLink RX5 107 yX5_asTold) 787 (by decide +kernel) (by decide +kernel)), (gt_in (w := Cond.instanceMethod yX5_asTold) 789 (by decide +kernel) (by decide +kernel)), (gt_in (w := Cond.selects yX5_asTold.cls yX5_asTold yX5_asTold) 26 (by decide +kernel) (by decide +kernel)), ini_RX5, cw_yX5_asTold, dk_yX5_asTold, by decide, TX5, 28, rfl⟩
set_option maxRecDepth 100000 in
theorem cw_yX5_day : Cond.code yX5_day cX5_day 7 none ∈ gt := (gt_in (w := Cond.code yX5_day cX5_day 7 none) 794 rfl (by decide +kernel))
theorem dk_yX5_day : dOK yX5_day 2 := ⟨by decide, by decide, by decide +kernel⟩
theorem mv_X5_111 : MV RX5 111 yX5_day cX5_day 7 none 2 5 := ⟨(gt_in (w := Cond.methodLink RX5 111 yX5_day) 791 (by decide +kernel) (by decide +kernel)), (gt_in (w := Cond.instanceMethod yX5_day) 793 (by decide +kernel) (by decide +kernel)), (gt_in (w := Cond.selects yX5_day.cls yX5_day yX5_day) 27 (by decide +kernel) (by decide +kernel)), ini_RX5, cw_yX5_day, dk_yX5_day, by decide, TX5, 28, rfl⟩
set_option maxRecDepth 100000 in
theorem cw_yX5_goOn : Cond.code yX5_goOn cX5_goOn 6 none ∈ gt := (gt_in (w := Cond.code yX5_goOn cX5_goOn 6 none) 854 rfl (by decide +kernel))
theorem dk_yX5_goOn : dOK yX5_goOn 2 := ⟨by decide, by decide, by decide +kernel⟩
theorem mv_X5_115 : MV RX5 115 yX5_goOn cX5_goOn 6 none 2 5 := ⟨(gt_in (w := Cond.methodLink RX5 115 yX5_goOn) 851 (by decide +kernel) (by decide +kernel)), (gt_in (w := Cond.instanceMethod yX5_goOn) 853 (by decide +kernel) (by decide +kernel)), (gt_in (w := Cond.selects yX5_goOn.cls yX5_goOn yX5_goOn) 32 (by decide +kernel) (by decide +kernel)), ini_RX5, cw_yX5_goOn, dk_yX5_goOn, by decide, TX5, 28, rfl⟩
theorem lk_X5_119 : Cond.fieldLink RX5 119 RX5 (TX5 15).2.1 (TX5 15).2.2.1 ∈ gt := (gt_in (w := Cond.fieldLink RX5 119 RX5 "taped" "I") 670 (by decide +kernel) (by decide +kernel))
theorem fl_X5_119 : FL RX5 119 5 15 := ⟨RX5, TX5, 28, rfl, by decide, inX5g, lk_X5_119⟩
theorem fs_X5_119 : FS RX5 119 5 15 := ⟨RX5, TX5, 28, rfl, rfl⟩
theorem fp_X5_119 : FP RX5 119 5 15 .int := ⟨RX5, TX5, 28, tyX5, rfl, by decide, inX5g, lk_X5_119, tyX5_ok, nmX5, rfl, by decide +kernel, rfl⟩
theorem lk_X5_122 : Cond.fieldLink RX5 122 RX5 (TX5 17).2.1 (TX5 17).2.2.1 ∈ gt := (gt_in (w := Cond.fieldLink RX5 122 RX5 "well" "Z") 672 (by decide +kernel) (by decide +kernel))
theorem fl_X5_122 : FL RX5 122 5 17 := ⟨RX5, TX5, 28, rfl, by decide, inX5g, lk_X5_122⟩
theorem fs_X5_122 : FS RX5 122 5 17 := ⟨RX5, TX5, 28, rfl, rfl⟩
theorem lk_X5_125 : Cond.fieldLink RX5 125 RX5 (TX5 16).2.1 (TX5 16).2.2.1 ∈ gt := (gt_in (w := Cond.fieldLink RX5 125 RX5 "at" "I") 671 (by decide +kernel) (by decide +kernel))
theorem fl_X5_125 : FL RX5 125 5 16 := ⟨RX5, TX5, 28, rfl, by decide, inX5g, lk_X5_125⟩
theorem fs_X5_125 : FS RX5 125 5 16 := ⟨RX5, TX5, 28, rfl, rfl⟩
theorem fp_X5_125 : FP RX5 125 5 16 .int := ⟨RX5, TX5, 28, tyX5, rfl, by decide, inX5g, lk_X5_125, tyX5_ok, nmX5, rfl, by decide +kernel, rfl⟩
theorem fp_X5_122 : FP RX5 122 5 17 .boolean := ⟨RX5, TX5, 28, tyX5, rfl, by decide, inX5g, lk_X5_122, tyX5_ok, nmX5, rfl, by decide +kernel, rfl⟩
set_option maxRecDepth 100000 in
theorem cw_yX5_oneOf : Cond.code yX5_oneOf cX5_oneOf 3 (some .int) ∈ gt := (gt_in (w := Cond.code yX5_oneOf cX5_oneOf 3 (some .int)) 774 rfl (by decide +kernel))
theorem dk_yX5_oneOf : dOK yX5_oneOf 1 := ⟨by decide, by decide, by decide +kernel⟩
theorem mv_X5_128 : MV RX5 128 yX5_oneOf cX5_oneOf 3 (some .int) 1 5 := ⟨(gt_in (w := Cond.methodLink RX5 128 yX5_oneOf) 771 (by decide +kernel) (by decide +kernel)), (gt_in (w := Cond.instanceMethod yX5_oneOf) 773 (by decide +kernel) (by decide +kernel)), (gt_in (w := Cond.selects yX5_oneOf.cls yX5_oneOf yX5_oneOf) 22 (by decide +kernel) (by decide +kernel)), ini_RX5, cw_yX5_oneOf, dk_yX5_oneOf, by decide, TX5, 28, rfl⟩
theorem lk_X5_132 : Cond.fieldLink RX5 132 RX5 (TX5 22).2.1 (TX5 22).2.2.1 ∈ gt := (gt_in (w := Cond.fieldLink RX5 132 RX5 "sort" "I") 677 (by decide +kernel) (by decide +kernel))
theorem fl_X5_132 : FL RX5 132 5 22 := ⟨RX5, TX5, 28, rfl, by decide, inX5g, lk_X5_132⟩
theorem fs_X5_132 : FS RX5 132 5 22 := ⟨RX5, TX5, 28, rfl, rfl⟩
theorem fp_X5_132 : FP RX5 132 5 22 .int := ⟨RX5, TX5, 28, tyX5, rfl, by decide, inX5g, lk_X5_132, tyX5_ok, nmX5, rfl, by decide +kernel, rfl⟩
set_option maxRecDepth 100000 in
theorem cw_yX5_figures : Cond.code yX5_figures cX5_figures 5 (some .int) ∈ gt := (gt_in (w := Cond.code yX5_figures cX5_figures 5 (some .int)) 778 rfl (by decide +kernel))
theorem dk_yX5_figures : dOK yX5_figures 2 := ⟨by decide, by decide, by decide +kernel⟩
theorem mv_X5_135 : MV RX5 135 yX5_figures cX5_figures 5 (some .int) 2 5 := ⟨(gt_in (w := Cond.methodLink RX5 135 yX5_figures) 775 (by decide +kernel) (by decide +kernel)), (gt_in (w := Cond.instanceMethod yX5_figures) 777 (by decide +kernel) (by decide +kernel)), (gt_in (w := Cond.selects yX5_figures.cls yX5_figures yX5_figures) 23 (by decide +kernel) (by decide +kernel)), ini_RX5, cw_yX5_figures, dk_yX5_figures, by decide, TX5, 28, rfl⟩
set_option maxRecDepth 100000 in
theorem cw_yX5_statement : Cond.code yX5_statement cX5_statement 2 none ∈ gt := (gt_in (w := Cond.code yX5_statement cX5_statement 2 none) 770 rfl (by decide +kernel))
theorem dk_yX5_statement : dOK yX5_statement 0 := ⟨by decide, by decide, by decide +kernel⟩
theorem mv_X5_138 : MV RX5 138 yX5_statement cX5_statement 2 none 0 5 := ⟨(gt_in (w := Cond.methodLink RX5 138 yX5_statement) 767 (by decide +kernel) (by decide +kernel)), (gt_in (w := Cond.instanceMethod yX5_statement) 769 (by decide +kernel) (by decide +kernel)), (gt_in (w := Cond.selects yX5_statement.cls yX5_statement yX5_statement) 21 (by decide +kernel) (by decide +kernel)), ini_RX5, cw_yX5_statement, dk_yX5_statement, by decide, TX5, 28, rfl⟩
set_option maxRecDepth 100000 in
theorem cw_yX5_isAsItMustBe : Cond.code yX5_isAsItMustBe cX5_isAsItMustBe 1 (some .boolean) ∈ gt := (gt_in (w := Cond.code yX5_isAsItMustBe cX5_isAsItMustBe 1 (some .boolean)) 782 rfl (by decide +kernel))
theorem dk_yX5_isAsItMustBe : dOK yX5_isAsItMustBe 0 := ⟨by decide, by decide, by decide +kernel⟩
theorem mv_X5_141 : MV RX5 141 yX5_isAsItMustBe cX5_isAsItMustBe 1 (some .boolean) 0 5 := ⟨(gt_in (w := Cond.methodLink RX5 141 yX5_isAsItMustBe) 779 (by decide +kernel) (by decide +kernel)), (gt_in (w := Cond.instanceMethod yX5_isAsItMustBe) 781 (by decide +kernel) (by decide +kernel)), (gt_in (w := Cond.selects yX5_isAsItMustBe.cls yX5_isAsItMustBe yX5_isAsItMustBe) 24 (by decide +kernel) (by decide +kernel)), ini_RX5, cw_yX5_isAsItMustBe, dk_yX5_isAsItMustBe, by decide, TX5, 28, rfl⟩
set_option maxRecDepth 100000 in
theorem cw_yX5_take : Cond.code yX5_take cX5_take 2 none ∈ gt := (gt_in (w := Cond.code yX5_take cX5_take 2 none) 786 rfl (by decide +kernel))
theorem dk_yX5_take : dOK yX5_take 0 := ⟨by decide, by decide, by decide +kernel⟩
theorem mv_X5_145 : MV RX5 145 yX5_take cX5_take 2 none 0 5 := ⟨(gt_in (w := Cond.methodLink RX5 145 yX5_take) 783 (by decide +kernel) (by decide +kernel)), (gt_in (w := Cond.instanceMethod yX5_take) 785 (by decide +kernel) (by decide +kernel)), (gt_in (w := Cond.selects yX5_take.cls yX5_take yX5_take) 25 (by decide +kernel) (by decide +kernel)), ini_RX5, cw_yX5_take, dk_yX5_take, by decide, TX5, 28, rfl⟩
set_option maxRecDepth 100000 in
theorem cw_yX5_read : Cond.code yX5_read cX5_read 4 (some .int) ∈ gt := (gt_in (w := Cond.code yX5_read cX5_read 4 (some .int)) 766 rfl (by decide +kernel))
theorem dk_yX5_read : dOK yX5_read 0 := ⟨by decide, by decide, by decide +kernel⟩
theorem mv_X5_148 : MV RX5 148 yX5_read cX5_read 4 (some .int) 0 5 := ⟨(gt_in (w := Cond.methodLink RX5 148 yX5_read) 763 (by decide +kernel) (by decide +kernel)), (gt_in (w := Cond.instanceMethod yX5_read) 765 (by decide +kernel) (by decide +kernel)), (gt_in (w := Cond.selects yX5_read.cls yX5_read yX5_read) 20 (by decide +kernel) (by decide +kernel)), ini_RX5, cw_yX5_read, dk_yX5_read, by decide, TX5, 28, rfl⟩
set_option maxRecDepth 100000 in
theorem cw_yX5_isNoEater : Cond.code yX5_isNoEater cX5_isNoEater 2 (some .boolean) ∈ gt := (gt_in (w := Cond.code yX5_isNoEater cX5_isNoEater 2 (some .boolean)) 814 rfl (by decide +kernel))
theorem dk_yX5_isNoEater : dOK yX5_isNoEater 1 := ⟨by decide, by decide, by decide +kernel⟩
theorem mv_X5_152 : MV RX5 152 yX5_isNoEater cX5_isNoEater 2 (some .boolean) 1 5 := ⟨(gt_in (w := Cond.methodLink RX5 152 yX5_isNoEater) 811 (by decide +kernel) (by decide +kernel)), (gt_in (w := Cond.instanceMethod yX5_isNoEater) 813 (by decide +kernel) (by decide +kernel)), (gt_in (w := Cond.selects yX5_isNoEater.cls yX5_isNoEater yX5_isNoEater) 29 (by decide +kernel) (by decide +kernel)), ini_RX5, cw_yX5_isNoEater, dk_yX5_isNoEater, by decide, TX5, 28, rfl⟩
set_option maxRecDepth 100000 in
theorem cw_yX5_isNoAge : Cond.code yX5_isNoAge cX5_isNoAge 1 (some .boolean) ∈ gt := (gt_in (w := Cond.code yX5_isNoAge cX5_isNoAge 1 (some .boolean)) 821 rfl (by decide +kernel))
theorem dk_yX5_isNoAge : dOK yX5_isNoAge 1 := ⟨by decide, by decide, by decide +kernel⟩
theorem ms_X5_156 : MS RX5 156 yX5_isNoAge cX5_isNoAge 1 (some .boolean) 1 := ⟨(gt_in (w := Cond.methodLink RX5 156 yX5_isNoAge) 819 (by decide +kernel) (by decide +kernel)), (gt_in (w := Cond.static yX5_isNoAge) 820 (by decide +kernel) (by decide +kernel)), ini_RX5, cw_yX5_isNoAge, dk_yX5_isNoAge, by decide⟩
set_option maxRecDepth 100000 in
theorem cw_yX5_change : Cond.code yX5_change cX5_change 5 (some .int) ∈ gt := (gt_in (w := Cond.code yX5_change cX5_change 5 (some .int)) 825 rfl (by decide +kernel))
theorem dk_yX5_change : dOK yX5_change 3 := ⟨by decide, by decide, by decide +kernel⟩
theorem mv_X5_159 : MV RX5 159 yX5_change cX5_change 5 (some .int) 3 5 := ⟨(gt_in (w := Cond.methodLink RX5 159 yX5_change) 822 (by decide +kernel) (by decide +kernel)), (gt_in (w := Cond.instanceMethod yX5_change) 824 (by decide +kernel) (by decide +kernel)), (gt_in (w := Cond.selects yX5_change.cls yX5_change yX5_change) 30 (by decide +kernel) (by decide +kernel)), ini_RX5, cw_yX5_change, dk_yX5_change, by decide, TX5, 28, rfl⟩
theorem cs_X5_163 : Cond.constant RX5 163 1000000000 ∈ gt := (gt_in (w := Cond.constant RX5 163 1000000000) 842 (by decide +kernel) (by decide +kernel))
set_option maxRecDepth 100000 in
theorem cw_yX5_isWrong : Cond.code yX5_isWrong cX5_isWrong 2 (some .int) ∈ gt := (gt_in (w := Cond.code yX5_isWrong cX5_isWrong 2 (some .int)) 850 rfl (by decide +kernel))
theorem dk_yX5_isWrong : dOK yX5_isWrong 1 := ⟨by decide, by decide, by decide +kernel⟩
theorem mv_X5_164 : MV RX5 164 yX5_isWrong cX5_isWrong 2 (some .int) 1 5 := ⟨(gt_in (w := Cond.methodLink RX5 164 yX5_isWrong) 847 (by decide +kernel) (by decide +kernel)), (gt_in (w := Cond.instanceMethod yX5_isWrong) 849 (by decide +kernel) (by decide +kernel)), (gt_in (w := Cond.selects yX5_isWrong.cls yX5_isWrong yX5_isWrong) 31 (by decide +kernel) (by decide +kernel)), ini_RX5, cw_yX5_isWrong, dk_yX5_isWrong, by decide, TX5, 28, rfl⟩
set_option maxRecDepth 100000 in
theorem cw_yX5_slices : Cond.code yX5_slices cX5_slices 3 (some .int) ∈ gt := (gt_in (w := Cond.code yX5_slices cX5_slices 3 (some .int)) 869 rfl (by decide +kernel))
theorem dk_yX5_slices : dOK yX5_slices 1 := ⟨by decide, by decide, by decide +kernel⟩
theorem ms_X5_167 : MS RX5 167 yX5_slices cX5_slices 3 (some .int) 1 := ⟨(gt_in (w := Cond.methodLink RX5 167 yX5_slices) 867 (by decide +kernel) (by decide +kernel)), (gt_in (w := Cond.static yX5_slices) 868 (by decide +kernel) (by decide +kernel)), ini_RX5, cw_yX5_slices, dk_yX5_slices, by decide⟩
set_option maxRecDepth 100000 in
theorem cw_yX5_valueOf : Cond.code yX5_valueOf cX5_valueOf 2 (some .int) ∈ gt := (gt_in (w := Cond.code yX5_valueOf cX5_valueOf 2 (some .int)) 873 rfl (by decide +kernel))
theorem dk_yX5_valueOf : dOK yX5_valueOf 1 := ⟨by decide, by decide, by decide +kernel⟩
theorem mv_X5_171 : MV RX5 171 yX5_valueOf cX5_valueOf 2 (some .int) 1 5 := ⟨(gt_in (w := Cond.methodLink RX5 171 yX5_valueOf) 870 (by decide +kernel) (by decide +kernel)), (gt_in (w := Cond.instanceMethod yX5_valueOf) 872 (by decide +kernel) (by decide +kernel)), (gt_in (w := Cond.selects yX5_valueOf.cls yX5_valueOf yX5_valueOf) 33 (by decide +kernel) (by decide +kernel)), ini_RX5, cw_yX5_valueOf, dk_yX5_valueOf, by decide, TX5, 28, rfl⟩
set_option maxRecDepth 100000 in
theorem cw_yX5_openDays : Cond.code yX5_openDays cX5_openDays 3 (some .int) ∈ gt := (gt_in (w := Cond.code yX5_openDays cX5_openDays 3 (some .int)) 881 rfl (by decide +kernel))
theorem dk_yX5_openDays : dOK yX5_openDays 0 := ⟨by decide, by decide, by decide +kernel⟩
theorem mv_X5_174 : MV RX5 174 yX5_openDays cX5_openDays 3 (some .int) 0 5 := ⟨(gt_in (w := Cond.methodLink RX5 174 yX5_openDays) 878 (by decide +kernel) (by decide +kernel)), (gt_in (w := Cond.instanceMethod yX5_openDays) 880 (by decide +kernel) (by decide +kernel)), (gt_in (w := Cond.selects yX5_openDays.cls yX5_openDays yX5_openDays) 34 (by decide +kernel) (by decide +kernel)), ini_RX5, cw_yX5_openDays, dk_yX5_openDays, by decide, TX5, 28, rfl⟩
theorem lk_X5_177 : Cond.fieldLink RX5 177 RX5 (TX5 24).2.1 (TX5 24).2.2.1 ∈ gt := (gt_in (w := Cond.fieldLink RX5 177 RX5 "brought" "I") 679 (by decide +kernel) (by decide +kernel))
theorem fl_X5_177 : FL RX5 177 5 24 := ⟨RX5, TX5, 28, rfl, by decide, inX5g, lk_X5_177⟩
theorem fs_X5_177 : FS RX5 177 5 24 := ⟨RX5, TX5, 28, rfl, rfl⟩
theorem fp_X5_177 : FP RX5 177 5 24 .int := ⟨RX5, TX5, 28, tyX5, rfl, by decide, inX5g, lk_X5_177, tyX5_ok, nmX5, rfl, by decide +kernel, rfl⟩
set_option maxRecDepth 100000 in
theorem cw_yX5_bestAt : Cond.code yX5_bestAt cX5_bestAt 7 (some .int) ∈ gt := (gt_in (w := Cond.code yX5_bestAt cX5_bestAt 7 (some .int)) 889 rfl (by decide +kernel))
theorem dk_yX5_bestAt : dOK yX5_bestAt 3 := ⟨by decide, by decide, by decide +kernel⟩
theorem mv_X5_180 : MV RX5 180 yX5_bestAt cX5_bestAt 7 (some .int) 3 5 := ⟨(gt_in (w := Cond.methodLink RX5 180 yX5_bestAt) 886 (by decide +kernel) (by decide +kernel)), (gt_in (w := Cond.instanceMethod yX5_bestAt) 888 (by decide +kernel) (by decide +kernel)), (gt_in (w := Cond.selects yX5_bestAt.cls yX5_bestAt yX5_bestAt) 35 (by decide +kernel) (by decide +kernel)), ini_RX5, cw_yX5_bestAt, dk_yX5_bestAt, by decide, TX5, 28, rfl⟩
theorem cs_X5_183 : Cond.constantLong RX5 183 4000000000000000000 ∈ gt := (gt_in (w := Cond.constantLong RX5 183 4000000000000000000) 910 (by decide +kernel) (by decide +kernel))
theorem cs_X5_185 : Cond.constantLong RX5 185 10 ∈ gt := (gt_in (w := Cond.constantLong RX5 185 10) 911 (by decide +kernel) (by decide +kernel))
theorem ml_X5_187 : Cond.methodLink RX5 187 Lib.MathLoose.abs_long.x ∈ gt := (gt_in (w := Cond.methodLink RX5 187 Lib.MathLoose.abs_long.x) 912 (by decide +kernel) (by decide +kernel))
set_option maxRecDepth 100000 in
theorem cw_yX5_shared : Cond.code yX5_shared cX5_shared 8 (some .int) ∈ gt := (gt_in (w := Cond.code yX5_shared cX5_shared 8 (some .int)) 928 rfl (by decide +kernel))
theorem dk_yX5_shared : dOK yX5_shared 2 := ⟨by decide, by decide, by decide +kernel⟩
theorem mv_X5_191 : MV RX5 191 yX5_shared cX5_shared 8 (some .int) 2 5 := ⟨(gt_in (w := Cond.methodLink RX5 191 yX5_shared) 925 (by decide +kernel) (by decide +kernel)), (gt_in (w := Cond.instanceMethod yX5_shared) 927 (by decide +kernel) (by decide +kernel)), (gt_in (w := Cond.selects yX5_shared.cls yX5_shared yX5_shared) 36 (by decide +kernel) (by decide +kernel)), ini_RX5, cw_yX5_shared, dk_yX5_shared, by decide, TX5, 28, rfl⟩
theorem lk_X5_194 : Cond.fieldLink RX5 194 RX5 (TX5 27).2.1 (TX5 27).2.2.1 ∈ gt := (gt_in (w := Cond.fieldLink RX5 194 RX5 "lined" "I") 682 (by decide +kernel) (by decide +kernel))
theorem fl_X5_194 : FL RX5 194 5 27 := ⟨RX5, TX5, 28, rfl, by decide, inX5g, lk_X5_194⟩
theorem fs_X5_194 : FS RX5 194 5 27 := ⟨RX5, TX5, 28, rfl, rfl⟩
set_option maxRecDepth 100000 in
theorem cw_yX5_opened : Cond.code yX5_opened cX5_opened 6 (some .int) ∈ gt := (gt_in (w := Cond.code yX5_opened cX5_opened 6 (some .int)) 936 rfl (by decide +kernel))
theorem dk_yX5_opened : dOK yX5_opened 3 := ⟨by decide, by decide, by decide +kernel⟩
theorem mv_X5_197 : MV RX5 197 yX5_opened cX5_opened 6 (some .int) 3 5 := ⟨(gt_in (w := Cond.methodLink RX5 197 yX5_opened) 933 (by decide +kernel) (by decide +kernel)), (gt_in (w := Cond.instanceMethod yX5_opened) 935 (by decide +kernel) (by decide +kernel)), (gt_in (w := Cond.selects yX5_opened.cls yX5_opened yX5_opened) 37 (by decide +kernel) (by decide +kernel)), ini_RX5, cw_yX5_opened, dk_yX5_opened, by decide, TX5, 28, rfl⟩
theorem fp_X5_194 : FP RX5 194 5 27 .int := ⟨RX5, TX5, 28, tyX5, rfl, by decide, inX5g, lk_X5_194, tyX5_ok, nmX5, rfl, by decide +kernel, rfl⟩
theorem cs_X5_200 : Cond.constant RX5 200 1664525 ∈ gt := (gt_in (w := Cond.constant RX5 200 1664525) 953 (by decide +kernel) (by decide +kernel))
theorem cs_X5_201 : Cond.constant RX5 201 1013904223 ∈ gt := (gt_in (w := Cond.constant RX5 201 1013904223) 954 (by decide +kernel) (by decide +kernel))
theorem cs_X5_202 : Cond.constant RX5 202 2147483647 ∈ gt := (gt_in (w := Cond.constant RX5 202 2147483647) 955 (by decide +kernel) (by decide +kernel))
theorem lk_X0_9 : Cond.fieldLink RX0 9 RX0 (TX0 0).2.1 (TX0 0).2.2.1 ∈ gt := (gt_in (w := Cond.fieldLink RX0 9 RX0 "best" "I") 126 (by decide +kernel) (by decide +kernel))
theorem fl_X0_9 : FL RX0 9 0 0 := ⟨RX0, TX0, 2, rfl, by decide, inX0g, lk_X0_9⟩
theorem fs_X0_9 : FS RX0 9 0 0 := ⟨RX0, TX0, 2, rfl, rfl⟩
theorem fp_X0_9 : FP RX0 9 0 0 .int := ⟨RX0, TX0, 2, tyX0, rfl, by decide, inX0g, lk_X0_9, tyX0_ok, nmX0, rfl, by decide +kernel, rfl⟩
theorem lk_X0_15 : Cond.fieldLink RX0 15 RX0 (TX0 1).2.1 (TX0 1).2.2.1 ∈ gt := (gt_in (w := Cond.fieldLink RX0 15 RX0 "bestValue" "I") 128 (by decide +kernel) (by decide +kernel))
theorem fl_X0_15 : FL RX0 15 0 1 := ⟨RX0, TX0, 2, rfl, by decide, inX0g, lk_X0_15⟩
theorem fs_X0_15 : FS RX0 15 0 1 := ⟨RX0, TX0, 2, rfl, rfl⟩
theorem fp_X0_15 : FP RX0 15 0 1 .int := ⟨RX0, TX0, 2, tyX0, rfl, by decide, inX0g, lk_X0_15, tyX0_ok, nmX0, rfl, by decide +kernel, rfl⟩
theorem lk_X1_9 : Cond.fieldLink RX1 9 RX1 (TX1 0).2.1 (TX1 0).2.2.1 ∈ gt := (gt_in (w := Cond.fieldLink RX1 9 RX1 "slices" "[I") 69 (by decide +kernel) (by decide +kernel))
theorem fl_X1_9 : FL RX1 9 1 0 := ⟨RX1, TX1, 7, rfl, by decide, inX1g, lk_X1_9⟩
theorem fs_X1_9 : FS RX1 9 1 0 := ⟨RX1, TX1, 7, rfl, rfl⟩
theorem lk_X1_15 : Cond.fieldLink RX1 15 RX1 (TX1 1).2.1 (TX1 1).2.2.1 ∈ gt := (gt_in (w := Cond.fieldLink RX1 15 RX1 "opens" "[I") 71 (by decide +kernel) (by decide +kernel))
theorem fl_X1_15 : FL RX1 15 1 1 := ⟨RX1, TX1, 7, rfl, by decide, inX1g, lk_X1_15⟩
theorem fs_X1_15 : FS RX1 15 1 1 := ⟨RX1, TX1, 7, rfl, rfl⟩
theorem lk_X1_18 : Cond.fieldLink RX1 18 RX1 (TX1 2).2.1 (TX1 2).2.2.1 ∈ gt := (gt_in (w := Cond.fieldLink RX1 18 RX1 "settings" "[I") 74 (by decide +kernel) (by decide +kernel))
theorem fl_X1_18 : FL RX1 18 1 2 := ⟨RX1, TX1, 7, rfl, by decide, inX1g, lk_X1_18⟩
theorem fs_X1_18 : FS RX1 18 1 2 := ⟨RX1, TX1, 7, rfl, rfl⟩
theorem lk_X1_23 : Cond.fieldLink RX1 23 RX1 (TX1 3).2.1 (TX1 3).2.2.1 ∈ gt := (gt_in (w := Cond.fieldLink RX1 23 RX1 "eaters" "[[I") 76 (by decide +kernel) (by decide +kernel))
theorem fl_X1_23 : FL RX1 23 1 3 := ⟨RX1, TX1, 7, rfl, by decide, inX1g, lk_X1_23⟩
theorem fs_X1_23 : FS RX1 23 1 3 := ⟨RX1, TX1, 7, rfl, rfl⟩
theorem ml_X1_26 : Cond.methodLink RX1 26 arraycopyName ∈ gt := (gt_in (w := Cond.methodLink RX1 26 arraycopyName) 353 (by decide +kernel) (by decide +kernel))
theorem st_arraycopy : Cond.static arraycopyName ∈ gt := (gt_in (w := Cond.static arraycopyName) 354 (by decide +kernel) (by decide +kernel))
theorem na_arraycopy : Cond.native arraycopyName ∈ gt := (gt_in (w := Cond.native arraycopyName) 355 (by decide +kernel) (by decide +kernel))
theorem ini_System : Cond.initialized "java/lang/System" ∈ gt := (gt_in (w := Cond.initialized "java/lang/System") 51 (by decide +kernel) (by decide +kernel))
theorem lk_X1_32 : Cond.fieldLink RX1 32 RX1 (TX1 4).2.1 (TX1 4).2.2.1 ∈ gt := (gt_in (w := Cond.fieldLink RX1 32 RX1 "eaterCount" "I") 78 (by decide +kernel) (by decide +kernel))
theorem fl_X1_32 : FL RX1 32 1 4 := ⟨RX1, TX1, 7, rfl, by decide, inX1g, lk_X1_32⟩
theorem fs_X1_32 : FS RX1 32 1 4 := ⟨RX1, TX1, 7, rfl, rfl⟩
theorem fp_X1_32 : FP RX1 32 1 4 .int := ⟨RX1, TX1, 7, tyX1, rfl, by decide, inX1g, lk_X1_32, tyX1_ok, nmX1, rfl, by decide +kernel, rfl⟩
theorem lk_X1_36 : Cond.fieldLink RX1 36 RX1 (TX1 5).2.1 (TX1 5).2.2.1 ∈ gt := (gt_in (w := Cond.fieldLink RX1 36 RX1 "day" "I") 80 (by decide +kernel) (by decide +kernel))
theorem fl_X1_36 : FL RX1 36 1 5 := ⟨RX1, TX1, 7, rfl, by decide, inX1g, lk_X1_36⟩
theorem fs_X1_36 : FS RX1 36 1 5 := ⟨RX1, TX1, 7, rfl, rfl⟩
theorem fp_X1_36 : FP RX1 36 1 5 .int := ⟨RX1, TX1, 7, tyX1, rfl, by decide, inX1g, lk_X1_36, tyX1_ok, nmX1, rfl, by decide +kernel, rfl⟩
theorem lk_X1_39 : Cond.fieldLink RX1 39 RX1 (TX1 6).2.1 (TX1 6).2.2.1 ∈ gt := (gt_in (w := Cond.fieldLink RX1 39 RX1 "fewer" "I") 83 (by decide +kernel) (by decide +kernel))
theorem fl_X1_39 : FL RX1 39 1 6 := ⟨RX1, TX1, 7, rfl, by decide, inX1g, lk_X1_39⟩
theorem fs_X1_39 : FS RX1 39 1 6 := ⟨RX1, TX1, 7, rfl, rfl⟩
theorem fp_X1_39 : FP RX1 39 1 6 .int := ⟨RX1, TX1, 7, tyX1, rfl, by decide, inX1g, lk_X1_39, tyX1_ok, nmX1, rfl, by decide +kernel, rfl⟩
theorem mn_X1_42 : MN yX4_within cX4_within 3 (some .boolean) 3 := ⟨(gt_in (w := Cond.static yX4_within) 199 (by decide +kernel) (by decide +kernel)), ini_RX4, cw_yX4_within, dk_yX4_within, by decide⟩
theorem mn_X1_46 : MN yX4_isAge cX4_isAge 1 (some .boolean) 1 := ⟨(gt_in (w := Cond.static yX4_isAge) 382 (by decide +kernel) (by decide +kernel)), ini_RX4, cw_yX4_isAge, dk_yX4_isAge, by decide⟩
theorem ml_X1_53 : Cond.methodLink RX1 53 Lib.Math.min.name ∈ gt := (gt_in (w := Cond.methodLink RX1 53 Lib.Math.min.name) 402 (by decide +kernel) (by decide +kernel))
set_option maxRecDepth 100000 in
theorem cw_yX1_shop : Cond.code yX1_shop cX1_shop 2 none ∈ gt := (gt_in (w := Cond.code yX1_shop cX1_shop 2 none) 397 rfl (by decide +kernel))
theorem dk_yX1_shop : dOK yX1_shop 1 := ⟨by decide, by decide, by decide +kernel⟩
theorem mv_X1_59 : MV RX1 59 yX1_shop cX1_shop 2 none 1 1 := ⟨(gt_in (w := Cond.methodLink RX1 59 yX1_shop) 394 (by decide +kernel) (by decide +kernel)), (gt_in (w := Cond.instanceMethod yX1_shop) 396 (by decide +kernel) (by decide +kernel)), (gt_in (w := Cond.selects yX1_shop.cls yX1_shop yX1_shop) 6 (by decide +kernel) (by decide +kernel)), ini_RX1, cw_yX1_shop, dk_yX1_shop, by decide, TX1, 7, rfl⟩
set_option maxRecDepth 100000 in
theorem cw_yX1_feed : Cond.code yX1_feed cX1_feed 9 none ∈ gt := (gt_in (w := Cond.code yX1_feed cX1_feed 9 none) 410 rfl (by decide +kernel))
theorem dk_yX1_feed : dOK yX1_feed 2 := ⟨by decide, by decide, by decide +kernel⟩
theorem mv_X1_63 : MV RX1 63 yX1_feed cX1_feed 9 none 2 1 := ⟨(gt_in (w := Cond.methodLink RX1 63 yX1_feed) 407 (by decide +kernel) (by decide +kernel)), (gt_in (w := Cond.instanceMethod yX1_feed) 409 (by decide +kernel) (by decide +kernel)), (gt_in (w := Cond.selects yX1_feed.cls yX1_feed yX1_feed) 8 (by decide +kernel) (by decide +kernel)), ini_RX1, cw_yX1_feed, dk_yX1_feed, by decide, TX1, 7, rfl⟩
set_option maxRecDepth 100000 in
theorem cw_yX3_addThrown : Cond.code yX3_addThrown cX3_addThrown 3 none ∈ gt := (gt_in (w := Cond.code yX3_addThrown cX3_addThrown 3 none) 434 rfl (by decide +kernel))
theorem dk_yX3_addThrown : dOK yX3_addThrown 2 := ⟨by decide, by decide, by decide +kernel⟩
theorem mv_X1_67 : MV RX1 67 yX3_addThrown cX3_addThrown 3 none 2 3 := ⟨(gt_in (w := Cond.methodLink RX1 67 yX3_addThrown) 431 (by decide +kernel) (by decide +kernel)), (gt_in (w := Cond.instanceMethod yX3_addThrown) 432 (by decide +kernel) (by decide +kernel)), (gt_in (w := Cond.selects yX3_addThrown.cls yX3_addThrown yX3_addThrown) 433 (by decide +kernel) (by decide +kernel)), ini_RX3, cw_yX3_addThrown, dk_yX3_addThrown, by decide, TX3, 3, rfl⟩
set_option maxRecDepth 100000 in
theorem cw_yX1_bring : Cond.code yX1_bring cX1_bring 4 (some .int) ∈ gt := (gt_in (w := Cond.code yX1_bring cX1_bring 4 (some .int)) 401 rfl (by decide +kernel))
theorem dk_yX1_bring : dOK yX1_bring 2 := ⟨by decide, by decide, by decide +kernel⟩
theorem mv_X1_73 : MV RX1 73 yX1_bring cX1_bring 4 (some .int) 2 1 := ⟨(gt_in (w := Cond.methodLink RX1 73 yX1_bring) 398 (by decide +kernel) (by decide +kernel)), (gt_in (w := Cond.instanceMethod yX1_bring) 400 (by decide +kernel) (by decide +kernel)), (gt_in (w := Cond.selects yX1_bring.cls yX1_bring yX1_bring) 7 (by decide +kernel) (by decide +kernel)), ini_RX1, cw_yX1_bring, dk_yX1_bring, by decide, TX1, 7, rfl⟩
set_option maxRecDepth 100000 in
theorem cw_yX3_addBought : Cond.code yX3_addBought cX3_addBought 3 none ∈ gt := (gt_in (w := Cond.code yX3_addBought cX3_addBought 3 none) 406 rfl (by decide +kernel))
theorem dk_yX3_addBought : dOK yX3_addBought 2 := ⟨by decide, by decide, by decide +kernel⟩
theorem mv_X1_76 : MV RX1 76 yX3_addBought cX3_addBought 3 none 2 3 := ⟨(gt_in (w := Cond.methodLink RX1 76 yX3_addBought) 403 (by decide +kernel) (by decide +kernel)), (gt_in (w := Cond.instanceMethod yX3_addBought) 404 (by decide +kernel) (by decide +kernel)), (gt_in (w := Cond.selects yX3_addBought.cls yX3_addBought yX3_addBought) 405 (by decide +kernel) (by decide +kernel)), ini_RX3, cw_yX3_addBought, dk_yX3_addBought, by decide, TX3, 3, rfl⟩
set_option maxRecDepth 100000 in
theorem cw_yX1_nextAge : Cond.code yX1_nextAge cX1_nextAge 7 (some .int) ∈ gt := (gt_in (w := Cond.code yX1_nextAge cX1_nextAge 7 (some .int)) 414 rfl (by decide +kernel))
theorem dk_yX1_nextAge : dOK yX1_nextAge 1 := ⟨by decide, by decide, by decide +kernel⟩
theorem mv_X1_79 : MV RX1 79 yX1_nextAge cX1_nextAge 7 (some .int) 1 1 := ⟨(gt_in (w := Cond.methodLink RX1 79 yX1_nextAge) 411 (by decide +kernel) (by decide +kernel)), (gt_in (w := Cond.instanceMethod yX1_nextAge) 413 (by decide +kernel) (by decide +kernel)), (gt_in (w := Cond.selects yX1_nextAge.cls yX1_nextAge yX1_nextAge) 9 (by decide +kernel) (by decide +kernel)), ini_RX1, cw_yX1_nextAge, dk_yX1_nextAge, by decide, TX1, 7, rfl⟩
set_option maxRecDepth 100000 in
theorem cw_yX1_inReach : Cond.code yX1_inReach cX1_inReach 4 (some .int) ∈ gt := (gt_in (w := Cond.code yX1_inReach cX1_inReach 4 (some .int)) 418 rfl (by decide +kernel))
theorem dk_yX1_inReach : dOK yX1_inReach 1 := ⟨by decide, by decide, by decide +kernel⟩
theorem mv_X1_83 : MV RX1 83 yX1_inReach cX1_inReach 4 (some .int) 1 1 := ⟨(gt_in (w := Cond.methodLink RX1 83 yX1_inReach) 415 (by decide +kernel) (by decide +kernel)), (gt_in (w := Cond.instanceMethod yX1_inReach) 417 (by decide +kernel) (by decide +kernel)), (gt_in (w := Cond.selects yX1_inReach.cls yX1_inReach yX1_inReach) 10 (by decide +kernel) (by decide +kernel)), ini_RX1, cw_yX1_inReach, dk_yX1_inReach, by decide, TX1, 7, rfl⟩
theorem mv_X1_86 : MV RX1 86 yX1_worthTo cX1_worthTo 8 (some .int) 2 1 := ⟨(gt_in (w := Cond.methodLink RX1 86 yX1_worthTo) 419 (by decide +kernel) (by decide +kernel)), (gt_in (w := Cond.instanceMethod yX1_worthTo) 420 (by decide +kernel) (by decide +kernel)), (gt_in (w := Cond.selects yX1_worthTo.cls yX1_worthTo yX1_worthTo) 421 (by decide +kernel) (by decide +kernel)), ini_RX1, cw_yX1_worthTo, dk_yX1_worthTo, by decide, TX1, 7, rfl⟩
set_option maxRecDepth 100000 in
theorem cw_yX3_addEaten : Cond.code yX3_addEaten cX3_addEaten 5 none ∈ gt := (gt_in (w := Cond.code yX3_addEaten cX3_addEaten 5 none) 426 rfl (by decide +kernel))
theorem dk_yX3_addEaten : dOK yX3_addEaten 3 := ⟨by decide, by decide, by decide +kernel⟩
theorem mv_X1_89 : MV RX1 89 yX3_addEaten cX3_addEaten 5 none 3 3 := ⟨(gt_in (w := Cond.methodLink RX1 89 yX3_addEaten) 423 (by decide +kernel) (by decide +kernel)), (gt_in (w := Cond.instanceMethod yX3_addEaten) 424 (by decide +kernel) (by decide +kernel)), (gt_in (w := Cond.selects yX3_addEaten.cls yX3_addEaten yX3_addEaten) 425 (by decide +kernel) (by decide +kernel)), ini_RX3, cw_yX3_addEaten, dk_yX3_addEaten, by decide, TX3, 3, rfl⟩
set_option maxRecDepth 100000 in
theorem cw_yX3_addLacked : Cond.code yX3_addLacked cX3_addLacked 3 none ∈ gt := (gt_in (w := Cond.code yX3_addLacked cX3_addLacked 3 none) 430 rfl (by decide +kernel))
theorem dk_yX3_addLacked : dOK yX3_addLacked 2 := ⟨by decide, by decide, by decide +kernel⟩
theorem mv_X1_93 : MV RX1 93 yX3_addLacked cX3_addLacked 3 none 2 3 := ⟨(gt_in (w := Cond.methodLink RX1 93 yX3_addLacked) 427 (by decide +kernel) (by decide +kernel)), (gt_in (w := Cond.instanceMethod yX3_addLacked) 428 (by decide +kernel) (by decide +kernel)), (gt_in (w := Cond.selects yX3_addLacked.cls yX3_addLacked yX3_addLacked) 429 (by decide +kernel) (by decide +kernel)), ini_RX3, cw_yX3_addLacked, dk_yX3_addLacked, by decide, TX3, 3, rfl⟩
theorem lk_X2_9 : Cond.fieldLink RX2 9 RX2 (TX2 0).2.1 (TX2 0).2.2.1 ∈ gt := (gt_in (w := Cond.fieldLink RX2 9 RX2 "signs" "[C") 141 (by decide +kernel) (by decide +kernel))
theorem fl_X2_9 : FL RX2 9 2 0 := ⟨RX2, TX2, 2, rfl, by decide, inX2g, lk_X2_9⟩
theorem fs_X2_9 : FS RX2 9 2 0 := ⟨RX2, TX2, 2, rfl, rfl⟩
theorem lk_X2_15 : Cond.fieldLink RX2 15 RX2 (TX2 1).2.1 (TX2 1).2.2.1 ∈ gt := (gt_in (w := Cond.fieldLink RX2 15 RX2 "many" "I") 142 (by decide +kernel) (by decide +kernel))
theorem fl_X2_15 : FL RX2 15 2 1 := ⟨RX2, TX2, 2, rfl, by decide, inX2g, lk_X2_15⟩
theorem fs_X2_15 : FS RX2 15 2 1 := ⟨RX2, TX2, 2, rfl, rfl⟩
theorem fp_X2_15 : FP RX2 15 2 1 .int := ⟨RX2, TX2, 2, tyX2, rfl, by decide, inX2g, lk_X2_15, tyX2_ok, nmX2, rfl, by decide +kernel, rfl⟩
set_option maxRecDepth 100000 in
theorem cw_yX2_sign : Cond.code yX2_sign cX2_sign 2 (some .char) ∈ gt := (gt_in (w := Cond.code yX2_sign cX2_sign 2 (some .char)) 363 rfl (by decide +kernel))
theorem dk_yX2_sign : dOK yX2_sign 1 := ⟨by decide, by decide, by decide +kernel⟩
theorem mv_X2_19 : MV RX2 19 yX2_sign cX2_sign 2 (some .char) 1 2 := ⟨(gt_in (w := Cond.methodLink RX2 19 yX2_sign) 360 (by decide +kernel) (by decide +kernel)), (gt_in (w := Cond.instanceMethod yX2_sign) 362 (by decide +kernel) (by decide +kernel)), (gt_in (w := Cond.selects yX2_sign.cls yX2_sign yX2_sign) 3 (by decide +kernel) (by decide +kernel)), ini_RX2, cw_yX2_sign, dk_yX2_sign, by decide, TX2, 2, rfl⟩
set_option maxRecDepth 100000 in
theorem cw_yX2_digit : Cond.code yX2_digit cX2_digit 2 (some .int) ∈ gt := (gt_in (w := Cond.code yX2_digit cX2_digit 2 (some .int)) 367 rfl (by decide +kernel))
theorem dk_yX2_digit : dOK yX2_digit 1 := ⟨by decide, by decide, by decide +kernel⟩
theorem mv_X2_23 : MV RX2 23 yX2_digit cX2_digit 2 (some .int) 1 2 := ⟨(gt_in (w := Cond.methodLink RX2 23 yX2_digit) 364 (by decide +kernel) (by decide +kernel)), (gt_in (w := Cond.instanceMethod yX2_digit) 366 (by decide +kernel) (by decide +kernel)), (gt_in (w := Cond.selects yX2_digit.cls yX2_digit yX2_digit) 4 (by decide +kernel) (by decide +kernel)), ini_RX2, cw_yX2_digit, dk_yX2_digit, by decide, TX2, 2, rfl⟩
set_option maxRecDepth 100000 in
theorem cw_yJ0_length_8abf5 : Cond.code yJ0_length_8abf5 cJ0_length_8abf5 1 (some .int) ∈ gt := (gt_in (w := Cond.code yJ0_length_8abf5 cJ0_length_8abf5 1 (some .int)) 217 rfl (by decide +kernel))
theorem dk_yJ0_length_8abf5 : dOK yJ0_length_8abf5 0 := ⟨by decide, by decide, by decide +kernel⟩
theorem ini_RJ0 : Cond.initialized RJ0 ∈ gt := (gt_in (w := Cond.initialized RJ0) 45 (by decide +kernel) (by decide +kernel))
set_option maxRecDepth 100000 in
theorem cw_yX2_formBehind : Cond.code yX2_formBehind cX2_formBehind 1 (some (.object "java/lang/String")) ∈ gt := (gt_in (w := Cond.code yX2_formBehind cX2_formBehind 1 (some (.object "java/lang/String"))) 226 rfl (by decide +kernel))
theorem dk_yX2_formBehind : dOK yX2_formBehind 1 := ⟨by decide, by decide, by decide +kernel⟩
theorem ms_X2_35 : MS RX2 35 yX2_formBehind cX2_formBehind 1 (some (.object "java/lang/String")) 1 := ⟨(gt_in (w := Cond.methodLink RX2 35 yX2_formBehind) 224 (by decide +kernel) (by decide +kernel)), (gt_in (w := Cond.static yX2_formBehind) 225 (by decide +kernel) (by decide +kernel)), ini_RX2, cw_yX2_formBehind, dk_yX2_formBehind, by decide⟩
set_option maxRecDepth 100000 in
theorem cw_yJ0_isEmpty_aae02 : Cond.code yJ0_isEmpty_aae02 cJ0_isEmpty_aae02 1 (some .boolean) ∈ gt := (gt_in (w := Cond.code yJ0_isEmpty_aae02 cJ0_isEmpty_aae02 1 (some .boolean)) 235 rfl (by decide +kernel))
theorem dk_yJ0_isEmpty_aae02 : dOK yJ0_isEmpty_aae02 0 := ⟨by decide, by decide, by decide +kernel⟩
set_option maxRecDepth 100000 in
theorem cw_yJ0_charAt_5068e : Cond.code yJ0_charAt_5068e cJ0_charAt_5068e 2 (some .char) ∈ gt := (gt_in (w := Cond.code yJ0_charAt_5068e cJ0_charAt_5068e 2 (some .char)) 239 rfl (by decide +kernel))
theorem dk_yJ0_charAt_5068e : dOK yJ0_charAt_5068e 1 := ⟨by decide, by decide, by decide +kernel⟩
set_option maxRecDepth 100000 in
theorem cw_yX2_isDigit : Cond.code yX2_isDigit cX2_isDigit 1 (some .boolean) ∈ gt := (gt_in (w := Cond.code yX2_isDigit cX2_isDigit 1 (some .boolean)) 276 rfl (by decide +kernel))
theorem dk_yX2_isDigit : dOK yX2_isDigit 1 := ⟨by decide, by decide, by decide +kernel⟩
theorem ms_X2_46 : MS RX2 46 yX2_isDigit cX2_isDigit 1 (some .boolean) 1 := ⟨(gt_in (w := Cond.methodLink RX2 46 yX2_isDigit) 274 (by decide +kernel) (by decide +kernel)), (gt_in (w := Cond.static yX2_isDigit) 275 (by decide +kernel) (by decide +kernel)), ini_RX2, cw_yX2_isDigit, dk_yX2_isDigit, by decide⟩
set_option maxRecDepth 100000 in
theorem cw_yX2_goesOn : Cond.code yX2_goesOn cX2_goesOn 2 (some .boolean) ∈ gt := (gt_in (w := Cond.code yX2_goesOn cX2_goesOn 2 (some .boolean)) 279 rfl (by decide +kernel))
theorem dk_yX2_goesOn : dOK yX2_goesOn 2 := ⟨by decide, by decide, by decide +kernel⟩
theorem ms_X2_50 : MS RX2 50 yX2_goesOn cX2_goesOn 2 (some .boolean) 2 := ⟨(gt_in (w := Cond.methodLink RX2 50 yX2_goesOn) 277 (by decide +kernel) (by decide +kernel)), (gt_in (w := Cond.static yX2_goesOn) 278 (by decide +kernel) (by decide +kernel)), ini_RX2, cw_yX2_goesOn, dk_yX2_goesOn, by decide⟩
set_option maxRecDepth 100000 in
theorem cw_yJ0_indexOf_0f7a4 : Cond.code yJ0_indexOf_0f7a4 cJ0_indexOf_0f7a4 2 (some .int) ∈ gt := (gt_in (w := Cond.code yJ0_indexOf_0f7a4 cJ0_indexOf_0f7a4 2 (some .int)) 284 rfl (by decide +kernel))
theorem dk_yJ0_indexOf_0f7a4 : dOK yJ0_indexOf_0f7a4 1 := ⟨by decide, by decide, by decide +kernel⟩
set_option maxRecDepth 100000 in
theorem cw_yX2_twoDigits : Cond.code yX2_twoDigits cX2_twoDigits 2 (some .int) ∈ gt := (gt_in (w := Cond.code yX2_twoDigits cX2_twoDigits 2 (some .int)) 371 rfl (by decide +kernel))
theorem dk_yX2_twoDigits : dOK yX2_twoDigits 1 := ⟨by decide, by decide, by decide +kernel⟩
theorem mv_X2_71 : MV RX2 71 yX2_twoDigits cX2_twoDigits 2 (some .int) 1 2 := ⟨(gt_in (w := Cond.methodLink RX2 71 yX2_twoDigits) 368 (by decide +kernel) (by decide +kernel)), (gt_in (w := Cond.instanceMethod yX2_twoDigits) 370 (by decide +kernel) (by decide +kernel)), (gt_in (w := Cond.selects yX2_twoDigits.cls yX2_twoDigits yX2_twoDigits) 5 (by decide +kernel) (by decide +kernel)), ini_RX2, cw_yX2_twoDigits, dk_yX2_twoDigits, by decide, TX2, 2, rfl⟩
set_option maxRecDepth 100000 in
theorem cw_yX1_takeIn : Cond.code yX1_takeIn cX1_takeIn 6 (some .boolean) ∈ gt := (gt_in (w := Cond.code yX1_takeIn cX1_takeIn 6 (some .boolean)) 375 rfl (by decide +kernel))
theorem dk_yX1_takeIn : dOK yX1_takeIn 4 := ⟨by decide, by decide, by decide +kernel⟩
theorem mv_X2_74 : MV RX2 74 yX1_takeIn cX1_takeIn 6 (some .boolean) 4 1 := ⟨(gt_in (w := Cond.methodLink RX2 74 yX1_takeIn) 372 (by decide +kernel) (by decide +kernel)), (gt_in (w := Cond.instanceMethod yX1_takeIn) 373 (by decide +kernel) (by decide +kernel)), (gt_in (w := Cond.selects yX1_takeIn.cls yX1_takeIn yX1_takeIn) 374 (by decide +kernel) (by decide +kernel)), ini_RX1, cw_yX1_takeIn, dk_yX1_takeIn, by decide, TX1, 7, rfl⟩
set_option maxRecDepth 100000 in
theorem cw_yX1_putSlices : Cond.code yX1_putSlices cX1_putSlices 3 (some .boolean) ∈ gt := (gt_in (w := Cond.code yX1_putSlices cX1_putSlices 3 (some .boolean)) 380 rfl (by decide +kernel))
theorem dk_yX1_putSlices : dOK yX1_putSlices 2 := ⟨by decide, by decide, by decide +kernel⟩
theorem mv_X2_80 : MV RX2 80 yX1_putSlices cX1_putSlices 3 (some .boolean) 2 1 := ⟨(gt_in (w := Cond.methodLink RX2 80 yX1_putSlices) 377 (by decide +kernel) (by decide +kernel)), (gt_in (w := Cond.instanceMethod yX1_putSlices) 378 (by decide +kernel) (by decide +kernel)), (gt_in (w := Cond.selects yX1_putSlices.cls yX1_putSlices yX1_putSlices) 379 (by decide +kernel) (by decide +kernel)), ini_RX1, cw_yX1_putSlices, dk_yX1_putSlices, by decide, TX1, 7, rfl⟩
theorem lk_X2_84 : Cond.fieldLink RX2 84 RX1 (TX1 1).2.1 (TX1 1).2.2.1 ∈ gt := (gt_in (w := Cond.fieldLink RX2 84 RX1 "opens" "[I") 73 (by decide +kernel) (by decide +kernel))
theorem fl_X2_84 : FL RX2 84 1 1 := ⟨RX1, TX1, 7, rfl, by decide, inX1g, lk_X2_84⟩
theorem fs_X2_84 : FS RX2 84 1 1 := ⟨RX1, TX1, 7, rfl, rfl⟩
set_option maxRecDepth 100000 in
theorem cw_yX1_change : Cond.code yX1_change cX1_change 3 (some .boolean) ∈ gt := (gt_in (w := Cond.code yX1_change cX1_change 3 (some .boolean)) 387 rfl (by decide +kernel))
theorem dk_yX1_change : dOK yX1_change 2 := ⟨by decide, by decide, by decide +kernel⟩
theorem mv_X2_88 : MV RX2 88 yX1_change cX1_change 3 (some .boolean) 2 1 := ⟨(gt_in (w := Cond.methodLink RX2 88 yX1_change) 384 (by decide +kernel) (by decide +kernel)), (gt_in (w := Cond.instanceMethod yX1_change) 385 (by decide +kernel) (by decide +kernel)), (gt_in (w := Cond.selects yX1_change.cls yX1_change yX1_change) 386 (by decide +kernel) (by decide +kernel)), ini_RX1, cw_yX1_change, dk_yX1_change, by decide, TX1, 7, rfl⟩
theorem lk_X2_91 : Cond.fieldLink RX2 91 RX1 (TX1 5).2.1 (TX1 5).2.2.1 ∈ gt := (gt_in (w := Cond.fieldLink RX2 91 RX1 "day" "I") 82 (by decide +kernel) (by decide +kernel))
theorem fl_X2_91 : FL RX2 91 1 5 := ⟨RX1, TX1, 7, rfl, by decide, inX1g, lk_X2_91⟩
theorem fs_X2_91 : FS RX2 91 1 5 := ⟨RX1, TX1, 7, rfl, rfl⟩
theorem mv_X2_94 : MV RX2 94 yX1_passDay cX1_passDay 3 none 1 1 := ⟨(gt_in (w := Cond.methodLink RX2 94 yX1_passDay) 390 (by decide +kernel) (by decide +kernel)), (gt_in (w := Cond.instanceMethod yX1_passDay) 391 (by decide +kernel) (by decide +kernel)), (gt_in (w := Cond.selects yX1_passDay.cls yX1_passDay yX1_passDay) 392 (by decide +kernel) (by decide +kernel)), ini_RX1, cw_yX1_passDay, dk_yX1_passDay, by decide, TX1, 7, rfl⟩
theorem lk_X3_9 : Cond.fieldLink RX3 9 RX3 (TX3 0).2.1 (TX3 0).2.2.1 ∈ gt := (gt_in (w := Cond.fieldLink RX3 9 RX3 "counted" "[I") 107 (by decide +kernel) (by decide +kernel))
theorem fl_X3_9 : FL RX3 9 3 0 := ⟨RX3, TX3, 3, rfl, by decide, inX3g, lk_X3_9⟩
theorem fs_X3_9 : FS RX3 9 3 0 := ⟨RX3, TX3, 3, rfl, rfl⟩
theorem lk_X3_15 : Cond.fieldLink RX3 15 RX3 (TX3 1).2.1 (TX3 1).2.2.1 ∈ gt := (gt_in (w := Cond.fieldLink RX3 15 RX3 "firstAges" "[I") 109 (by decide +kernel) (by decide +kernel))
theorem fl_X3_15 : FL RX3 15 3 1 := ⟨RX3, TX3, 3, rfl, by decide, inX3g, lk_X3_15⟩
theorem fs_X3_15 : FS RX3 15 3 1 := ⟨RX3, TX3, 3, rfl, rfl⟩
theorem ms_X3_18 : MS RX3 18 yJ7_fill_53178 cJ7_fill_53178 4 none 2 := ⟨(gt_in (w := Cond.methodLink RX3 18 yJ7_fill_53178) 476 (by decide +kernel) (by decide +kernel)), (gt_in (w := Cond.static yJ7_fill_53178) 477 (by decide +kernel) (by decide +kernel)), ini_RJ7, cw_yJ7_fill_53178, dk_yJ7_fill_53178, by decide⟩
theorem lk_X3_24 : Cond.fieldLink RX3 24 RX3 (TX3 2).2.1 (TX3 2).2.2.1 ∈ gt := (gt_in (w := Cond.fieldLink RX3 24 RX3 "firstCount" "I") 111 (by decide +kernel) (by decide +kernel))
theorem fl_X3_24 : FL RX3 24 3 2 := ⟨RX3, TX3, 3, rfl, by decide, inX3g, lk_X3_24⟩
theorem fs_X3_24 : FS RX3 24 3 2 := ⟨RX3, TX3, 3, rfl, rfl⟩
theorem fp_X3_24 : FP RX3 24 3 2 .int := ⟨RX3, TX3, 3, tyX3, rfl, by decide, inX3g, lk_X3_24, tyX3_ok, nmX3, rfl, by decide +kernel, rfl⟩
set_option maxRecDepth 100000 in
theorem cw_yX4_letter : Cond.code yX4_letter cX4_letter 3 (some .int) ∈ gt := (gt_in (w := Cond.code yX4_letter cX4_letter 3 (some .int)) 190 rfl (by decide +kernel))
theorem dk_yX4_letter : dOK yX4_letter 1 := ⟨by decide, by decide, by decide +kernel⟩
theorem mv_L_13 : MV RL 13 yX4_letter cX4_letter 3 (some .int) 1 4 := ⟨(gt_in (w := Cond.methodLink RL 13 yX4_letter) 187 (by decide +kernel) (by decide +kernel)), (gt_in (w := Cond.instanceMethod yX4_letter) 188 (by decide +kernel) (by decide +kernel)), (gt_in (w := Cond.selects yX4_letter.cls yX4_letter yX4_letter) 189 (by decide +kernel) (by decide +kernel)), ini_RX4, cw_yX4_letter, dk_yX4_letter, by decide, TX4, 12, rfl⟩
set_option maxRecDepth 100000 in
theorem cw_yX5_letter : Cond.code yX5_letter cX5_letter 2 (some .int) ∈ gt := (gt_in (w := Cond.code yX5_letter cX5_letter 2 (some .int)) 758 rfl (by decide +kernel))
theorem dk_yX5_letter : dOK yX5_letter 1 := ⟨by decide, by decide, by decide +kernel⟩
theorem mv_L_17 : MV RL 17 yX5_letter cX5_letter 2 (some .int) 1 5 := ⟨(gt_in (w := Cond.methodLink RL 17 yX5_letter) 755 (by decide +kernel) (by decide +kernel)), (gt_in (w := Cond.instanceMethod yX5_letter) 756 (by decide +kernel) (by decide +kernel)), (gt_in (w := Cond.selects yX5_letter.cls yX5_letter yX5_letter) 757 (by decide +kernel) (by decide +kernel)), ini_RX5, cw_yX5_letter, dk_yX5_letter, by decide, TX5, 28, rfl⟩
set_option maxRecDepth 100000 in
theorem cw_yX4_house : Cond.code yX4_house cX4_house 3 (some .int) ∈ gt := (gt_in (w := Cond.code yX4_house cX4_house 3 (some .int)) 208 rfl (by decide +kernel))
theorem dk_yX4_house : dOK yX4_house 0 := ⟨by decide, by decide, by decide +kernel⟩
theorem mv_L_18 : MV RL 18 yX4_house cX4_house 3 (some .int) 0 4 := ⟨(gt_in (w := Cond.methodLink RL 18 yX4_house) 205 (by decide +kernel) (by decide +kernel)), (gt_in (w := Cond.instanceMethod yX4_house) 206 (by decide +kernel) (by decide +kernel)), (gt_in (w := Cond.selects yX4_house.cls yX4_house yX4_house) 207 (by decide +kernel) (by decide +kernel)), ini_RX4, cw_yX4_house, dk_yX4_house, by decide, TX4, 12, rfl⟩
set_option maxRecDepth 100000 in
theorem cw_yX5_house : Cond.code yX5_house cX5_house 2 (some .int) ∈ gt := (gt_in (w := Cond.code yX5_house cX5_house 2 (some .int)) 762 rfl (by decide +kernel))
theorem dk_yX5_house : dOK yX5_house 0 := ⟨by decide, by decide, by decide +kernel⟩
theorem mv_L_22 : MV RL 22 yX5_house cX5_house 2 (some .int) 0 5 := ⟨(gt_in (w := Cond.methodLink RL 22 yX5_house) 759 (by decide +kernel) (by decide +kernel)), (gt_in (w := Cond.instanceMethod yX5_house) 760 (by decide +kernel) (by decide +kernel)), (gt_in (w := Cond.selects yX5_house.cls yX5_house yX5_house) 761 (by decide +kernel) (by decide +kernel)), ini_RX5, cw_yX5_house, dk_yX5_house, by decide, TX5, 28, rfl⟩
set_option maxRecDepth 100000 in
theorem cw_yX4_eater : Cond.code yX4_eater cX4_eater 3 (some .int) ∈ gt := (gt_in (w := Cond.code yX4_eater cX4_eater 3 (some .int)) 443 rfl (by decide +kernel))
theorem dk_yX4_eater : dOK yX4_eater 2 := ⟨by decide, by decide, by decide +kernel⟩
theorem mv_L_23 : MV RL 23 yX4_eater cX4_eater 3 (some .int) 2 4 := ⟨(gt_in (w := Cond.methodLink RL 23 yX4_eater) 440 (by decide +kernel) (by decide +kernel)), (gt_in (w := Cond.instanceMethod yX4_eater) 441 (by decide +kernel) (by decide +kernel)), (gt_in (w := Cond.selects yX4_eater.cls yX4_eater yX4_eater) 442 (by decide +kernel) (by decide +kernel)), ini_RX4, cw_yX4_eater, dk_yX4_eater, by decide, TX4, 12, rfl⟩
set_option maxRecDepth 100000 in
theorem cw_yX5_eater : Cond.code yX5_eater cX5_eater 3 (some .int) ∈ gt := (gt_in (w := Cond.code yX5_eater cX5_eater 3 (some .int)) 810 rfl (by decide +kernel))
theorem dk_yX5_eater : dOK yX5_eater 2 := ⟨by decide, by decide, by decide +kernel⟩
theorem mv_L_27 : MV RL 27 yX5_eater cX5_eater 3 (some .int) 2 5 := ⟨(gt_in (w := Cond.methodLink RL 27 yX5_eater) 807 (by decide +kernel) (by decide +kernel)), (gt_in (w := Cond.instanceMethod yX5_eater) 808 (by decide +kernel) (by decide +kernel)), (gt_in (w := Cond.selects yX5_eater.cls yX5_eater yX5_eater) 809 (by decide +kernel) (by decide +kernel)), ini_RX5, cw_yX5_eater, dk_yX5_eater, by decide, TX5, 28, rfl⟩
set_option maxRecDepth 100000 in
theorem cw_yX4_stock : Cond.code yX4_stock cX4_stock 5 (some .int) ∈ gt := (gt_in (w := Cond.code yX4_stock cX4_stock 5 (some .int)) 451 rfl (by decide +kernel))
theorem dk_yX4_stock : dOK yX4_stock 2 := ⟨by decide, by decide, by decide +kernel⟩
theorem mv_L_28 : MV RL 28 yX4_stock cX4_stock 5 (some .int) 2 4 := ⟨(gt_in (w := Cond.methodLink RL 28 yX4_stock) 448 (by decide +kernel) (by decide +kernel)), (gt_in (w := Cond.instanceMethod yX4_stock) 449 (by decide +kernel) (by decide +kernel)), (gt_in (w := Cond.selects yX4_stock.cls yX4_stock yX4_stock) 450 (by decide +kernel) (by decide +kernel)), ini_RX4, cw_yX4_stock, dk_yX4_stock, by decide, TX4, 12, rfl⟩
set_option maxRecDepth 100000 in
theorem cw_yX5_stock : Cond.code yX5_stock cX5_stock 3 (some .int) ∈ gt := (gt_in (w := Cond.code yX5_stock cX5_stock 3 (some .int)) 818 rfl (by decide +kernel))
theorem dk_yX5_stock : dOK yX5_stock 2 := ⟨by decide, by decide, by decide +kernel⟩
theorem mv_L_31 : MV RL 31 yX5_stock cX5_stock 3 (some .int) 2 5 := ⟨(gt_in (w := Cond.methodLink RL 31 yX5_stock) 815 (by decide +kernel) (by decide +kernel)), (gt_in (w := Cond.instanceMethod yX5_stock) 816 (by decide +kernel) (by decide +kernel)), (gt_in (w := Cond.selects yX5_stock.cls yX5_stock yX5_stock) 817 (by decide +kernel) (by decide +kernel)), ini_RX5, cw_yX5_stock, dk_yX5_stock, by decide, TX5, 28, rfl⟩
set_option maxRecDepth 100000 in
theorem cw_yX4_open : Cond.code yX4_open cX4_open 4 (some .int) ∈ gt := (gt_in (w := Cond.code yX4_open cX4_open 4 (some .int)) 456 rfl (by decide +kernel))
theorem dk_yX4_open : dOK yX4_open 2 := ⟨by decide, by decide, by decide +kernel⟩
theorem mv_L_32 : MV RL 32 yX4_open cX4_open 4 (some .int) 2 4 := ⟨(gt_in (w := Cond.methodLink RL 32 yX4_open) 453 (by decide +kernel) (by decide +kernel)), (gt_in (w := Cond.instanceMethod yX4_open) 454 (by decide +kernel) (by decide +kernel)), (gt_in (w := Cond.selects yX4_open.cls yX4_open yX4_open) 455 (by decide +kernel) (by decide +kernel)), ini_RX4, cw_yX4_open, dk_yX4_open, by decide, TX4, 12, rfl⟩
set_option maxRecDepth 100000 in
theorem cw_yX5_open : Cond.code yX5_open cX5_open 3 (some .int) ∈ gt := (gt_in (w := Cond.code yX5_open cX5_open 3 (some .int)) 829 rfl (by decide +kernel))
theorem dk_yX5_open : dOK yX5_open 2 := ⟨by decide, by decide, by decide +kernel⟩
theorem mv_L_35 : MV RL 35 yX5_open cX5_open 3 (some .int) 2 5 := ⟨(gt_in (w := Cond.methodLink RL 35 yX5_open) 826 (by decide +kernel) (by decide +kernel)), (gt_in (w := Cond.instanceMethod yX5_open) 827 (by decide +kernel) (by decide +kernel)), (gt_in (w := Cond.selects yX5_open.cls yX5_open yX5_open) 828 (by decide +kernel) (by decide +kernel)), ini_RX5, cw_yX5_open, dk_yX5_open, by decide, TX5, 28, rfl⟩
set_option maxRecDepth 100000 in
theorem cw_yX4_set : Cond.code yX4_set cX4_set 5 (some .int) ∈ gt := (gt_in (w := Cond.code yX4_set cX4_set 5 (some .int)) 460 rfl (by decide +kernel))
theorem dk_yX4_set : dOK yX4_set 2 := ⟨by decide, by decide, by decide +kernel⟩
theorem mv_L_36 : MV RL 36 yX4_set cX4_set 5 (some .int) 2 4 := ⟨(gt_in (w := Cond.methodLink RL 36 yX4_set) 457 (by decide +kernel) (by decide +kernel)), (gt_in (w := Cond.instanceMethod yX4_set) 458 (by decide +kernel) (by decide +kernel)), (gt_in (w := Cond.selects yX4_set.cls yX4_set yX4_set) 459 (by decide +kernel) (by decide +kernel)), ini_RX4, cw_yX4_set, dk_yX4_set, by decide, TX4, 12, rfl⟩
set_option maxRecDepth 100000 in
theorem cw_yX5_set : Cond.code yX5_set cX5_set 3 (some .int) ∈ gt := (gt_in (w := Cond.code yX5_set cX5_set 3 (some .int)) 833 rfl (by decide +kernel))
theorem dk_yX5_set : dOK yX5_set 2 := ⟨by decide, by decide, by decide +kernel⟩
theorem mv_L_39 : MV RL 39 yX5_set cX5_set 3 (some .int) 2 5 := ⟨(gt_in (w := Cond.methodLink RL 39 yX5_set) 830 (by decide +kernel) (by decide +kernel)), (gt_in (w := Cond.instanceMethod yX5_set) 831 (by decide +kernel) (by decide +kernel)), (gt_in (w := Cond.selects yX5_set.cls yX5_set yX5_set) 832 (by decide +kernel) (by decide +kernel)), ini_RX5, cw_yX5_set, dk_yX5_set, by decide, TX5, 28, rfl⟩
set_option maxRecDepth 100000 in
theorem cw_yX4_worth : Cond.code yX4_worth cX4_worth 4 (some .int) ∈ gt := (gt_in (w := Cond.code yX4_worth cX4_worth 4 (some .int)) 465 rfl (by decide +kernel))
theorem dk_yX4_worth : dOK yX4_worth 2 := ⟨by decide, by decide, by decide +kernel⟩
theorem mv_L_40 : MV RL 40 yX4_worth cX4_worth 4 (some .int) 2 4 := ⟨(gt_in (w := Cond.methodLink RL 40 yX4_worth) 462 (by decide +kernel) (by decide +kernel)), (gt_in (w := Cond.instanceMethod yX4_worth) 463 (by decide +kernel) (by decide +kernel)), (gt_in (w := Cond.selects yX4_worth.cls yX4_worth yX4_worth) 464 (by decide +kernel) (by decide +kernel)), ini_RX4, cw_yX4_worth, dk_yX4_worth, by decide, TX4, 12, rfl⟩
set_option maxRecDepth 100000 in
theorem cw_yX5_worth : Cond.code yX5_worth cX5_worth 4 (some .int) ∈ gt := (gt_in (w := Cond.code yX5_worth cX5_worth 4 (some .int)) 837 rfl (by decide +kernel))
theorem dk_yX5_worth : dOK yX5_worth 2 := ⟨by decide, by decide, by decide +kernel⟩
theorem mv_L_43 : MV RL 43 yX5_worth cX5_worth 4 (some .int) 2 5 := ⟨(gt_in (w := Cond.methodLink RL 43 yX5_worth) 834 (by decide +kernel) (by decide +kernel)), (gt_in (w := Cond.instanceMethod yX5_worth) 835 (by decide +kernel) (by decide +kernel)), (gt_in (w := Cond.selects yX5_worth.cls yX5_worth yX5_worth) 836 (by decide +kernel) (by decide +kernel)), ini_RX5, cw_yX5_worth, dk_yX5_worth, by decide, TX5, 28, rfl⟩
set_option maxRecDepth 100000 in
theorem cw_yX4_dayOn : Cond.code yX4_dayOn cX4_dayOn 1 (some .int) ∈ gt := (gt_in (w := Cond.code yX4_dayOn cX4_dayOn 1 (some .int)) 470 rfl (by decide +kernel))
theorem dk_yX4_dayOn : dOK yX4_dayOn 0 := ⟨by decide, by decide, by decide +kernel⟩
theorem mv_L_44 : MV RL 44 yX4_dayOn cX4_dayOn 1 (some .int) 0 4 := ⟨(gt_in (w := Cond.methodLink RL 44 yX4_dayOn) 467 (by decide +kernel) (by decide +kernel)), (gt_in (w := Cond.instanceMethod yX4_dayOn) 468 (by decide +kernel) (by decide +kernel)), (gt_in (w := Cond.selects yX4_dayOn.cls yX4_dayOn yX4_dayOn) 469 (by decide +kernel) (by decide +kernel)), ini_RX4, cw_yX4_dayOn, dk_yX4_dayOn, by decide, TX4, 12, rfl⟩
set_option maxRecDepth 100000 in
theorem cw_yX5_dayOn : Cond.code yX5_dayOn cX5_dayOn 1 (some .int) ∈ gt := (gt_in (w := Cond.code yX5_dayOn cX5_dayOn 1 (some .int)) 841 rfl (by decide +kernel))
theorem dk_yX5_dayOn : dOK yX5_dayOn 0 := ⟨by decide, by decide, by decide +kernel⟩
theorem mv_L_47 : MV RL 47 yX5_dayOn cX5_dayOn 1 (some .int) 0 5 := ⟨(gt_in (w := Cond.methodLink RL 47 yX5_dayOn) 838 (by decide +kernel) (by decide +kernel)), (gt_in (w := Cond.instanceMethod yX5_dayOn) 839 (by decide +kernel) (by decide +kernel)), (gt_in (w := Cond.selects yX5_dayOn.cls yX5_dayOn yX5_dayOn) 840 (by decide +kernel) (by decide +kernel)), ini_RX5, cw_yX5_dayOn, dk_yX5_dayOn, by decide, TX5, 28, rfl⟩
set_option maxRecDepth 100000 in
theorem cw_yX4_total : Cond.code yX4_total cX4_total 4 (some .int) ∈ gt := (gt_in (w := Cond.code yX4_total cX4_total 4 (some .int)) 483 rfl (by decide +kernel))
theorem dk_yX4_total : dOK yX4_total 2 := ⟨by decide, by decide, by decide +kernel⟩
theorem mv_L_48 : MV RL 48 yX4_total cX4_total 4 (some .int) 2 4 := ⟨(gt_in (w := Cond.methodLink RL 48 yX4_total) 480 (by decide +kernel) (by decide +kernel)), (gt_in (w := Cond.instanceMethod yX4_total) 481 (by decide +kernel) (by decide +kernel)), (gt_in (w := Cond.selects yX4_total.cls yX4_total yX4_total) 482 (by decide +kernel) (by decide +kernel)), ini_RX4, cw_yX4_total, dk_yX4_total, by decide, TX4, 12, rfl⟩
set_option maxRecDepth 100000 in
theorem cw_yX5_total : Cond.code yX5_total cX5_total 3 (some .int) ∈ gt := (gt_in (w := Cond.code yX5_total cX5_total 3 (some .int)) 846 rfl (by decide +kernel))
theorem dk_yX5_total : dOK yX5_total 2 := ⟨by decide, by decide, by decide +kernel⟩
theorem mv_L_51 : MV RL 51 yX5_total cX5_total 3 (some .int) 2 5 := ⟨(gt_in (w := Cond.methodLink RL 51 yX5_total) 843 (by decide +kernel) (by decide +kernel)), (gt_in (w := Cond.instanceMethod yX5_total) 844 (by decide +kernel) (by decide +kernel)), (gt_in (w := Cond.selects yX5_total.cls yX5_total yX5_total) 845 (by decide +kernel) (by decide +kernel)), ini_RX5, cw_yX5_total, dk_yX5_total, by decide, TX5, 28, rfl⟩
set_option maxRecDepth 100000 in
theorem cw_yX4_left : Cond.code yX4_left cX4_left 4 (some .int) ∈ gt := (gt_in (w := Cond.code yX4_left cX4_left 4 (some .int)) 491 rfl (by decide +kernel))
theorem dk_yX4_left : dOK yX4_left 2 := ⟨by decide, by decide, by decide +kernel⟩
theorem mv_L_52 : MV RL 52 yX4_left cX4_left 4 (some .int) 2 4 := ⟨(gt_in (w := Cond.methodLink RL 52 yX4_left) 488 (by decide +kernel) (by decide +kernel)), (gt_in (w := Cond.instanceMethod yX4_left) 489 (by decide +kernel) (by decide +kernel)), (gt_in (w := Cond.selects yX4_left.cls yX4_left yX4_left) 490 (by decide +kernel) (by decide +kernel)), ini_RX4, cw_yX4_left, dk_yX4_left, by decide, TX4, 12, rfl⟩
set_option maxRecDepth 100000 in
theorem cw_yX5_left : Cond.code yX5_left cX5_left 3 (some .int) ∈ gt := (gt_in (w := Cond.code yX5_left cX5_left 3 (some .int)) 858 rfl (by decide +kernel))
theorem dk_yX5_left : dOK yX5_left 2 := ⟨by decide, by decide, by decide +kernel⟩
theorem mv_L_55 : MV RL 55 yX5_left cX5_left 3 (some .int) 2 5 := ⟨(gt_in (w := Cond.methodLink RL 55 yX5_left) 855 (by decide +kernel) (by decide +kernel)), (gt_in (w := Cond.instanceMethod yX5_left) 856 (by decide +kernel) (by decide +kernel)), (gt_in (w := Cond.selects yX5_left.cls yX5_left yX5_left) 857 (by decide +kernel) (by decide +kernel)), ini_RX5, cw_yX5_left, dk_yX5_left, by decide, TX5, 28, rfl⟩
set_option maxRecDepth 100000 in
theorem cw_yX4_never : Cond.code yX4_never cX4_never 2 (some .int) ∈ gt := (gt_in (w := Cond.code yX4_never cX4_never 2 (some .int)) 495 rfl (by decide +kernel))
theorem dk_yX4_never : dOK yX4_never 0 := ⟨by decide, by decide, by decide +kernel⟩
theorem mv_L_56 : MV RL 56 yX4_never cX4_never 2 (some .int) 0 4 := ⟨(gt_in (w := Cond.methodLink RL 56 yX4_never) 492 (by decide +kernel) (by decide +kernel)), (gt_in (w := Cond.instanceMethod yX4_never) 493 (by decide +kernel) (by decide +kernel)), (gt_in (w := Cond.selects yX4_never.cls yX4_never yX4_never) 494 (by decide +kernel) (by decide +kernel)), ini_RX4, cw_yX4_never, dk_yX4_never, by decide, TX4, 12, rfl⟩
set_option maxRecDepth 100000 in
theorem cw_yX5_never : Cond.code yX5_never cX5_never 2 (some .int) ∈ gt := (gt_in (w := Cond.code yX5_never cX5_never 2 (some .int)) 862 rfl (by decide +kernel))
theorem dk_yX5_never : dOK yX5_never 0 := ⟨by decide, by decide, by decide +kernel⟩
theorem mv_L_59 : MV RL 59 yX5_never cX5_never 2 (some .int) 0 5 := ⟨(gt_in (w := Cond.methodLink RL 59 yX5_never) 859 (by decide +kernel) (by decide +kernel)), (gt_in (w := Cond.instanceMethod yX5_never) 860 (by decide +kernel) (by decide +kernel)), (gt_in (w := Cond.selects yX5_never.cls yX5_never yX5_never) 861 (by decide +kernel) (by decide +kernel)), ini_RX5, cw_yX5_never, dk_yX5_never, by decide, TX5, 28, rfl⟩
set_option maxRecDepth 100000 in
theorem cw_yX4_out : Cond.code yX4_out cX4_out 5 (some .int) ∈ gt := (gt_in (w := Cond.code yX4_out cX4_out 5 (some .int)) 499 rfl (by decide +kernel))
theorem dk_yX4_out : dOK yX4_out 1 := ⟨by decide, by decide, by decide +kernel⟩
theorem mv_L_60 : MV RL 60 yX4_out cX4_out 5 (some .int) 1 4 := ⟨(gt_in (w := Cond.methodLink RL 60 yX4_out) 496 (by decide +kernel) (by decide +kernel)), (gt_in (w := Cond.instanceMethod yX4_out) 497 (by decide +kernel) (by decide +kernel)), (gt_in (w := Cond.selects yX4_out.cls yX4_out yX4_out) 498 (by decide +kernel) (by decide +kernel)), ini_RX4, cw_yX4_out, dk_yX4_out, by decide, TX4, 12, rfl⟩
set_option maxRecDepth 100000 in
theorem cw_yX5_out : Cond.code yX5_out cX5_out 7 (some .int) ∈ gt := (gt_in (w := Cond.code yX5_out cX5_out 7 (some .int)) 866 rfl (by decide +kernel))
theorem dk_yX5_out : dOK yX5_out 1 := ⟨by decide, by decide, by decide +kernel⟩
theorem mv_L_63 : MV RL 63 yX5_out cX5_out 7 (some .int) 1 5 := ⟨(gt_in (w := Cond.methodLink RL 63 yX5_out) 863 (by decide +kernel) (by decide +kernel)), (gt_in (w := Cond.instanceMethod yX5_out) 864 (by decide +kernel) (by decide +kernel)), (gt_in (w := Cond.selects yX5_out.cls yX5_out yX5_out) 865 (by decide +kernel) (by decide +kernel)), ini_RX5, cw_yX5_out, dk_yX5_out, by decide, TX5, 28, rfl⟩
set_option maxRecDepth 100000 in
theorem cw_yX4_less : Cond.code yX4_less cX4_less 4 (some .int) ∈ gt := (gt_in (w := Cond.code yX4_less cX4_less 4 (some .int)) 520 rfl (by decide +kernel))
theorem dk_yX4_less : dOK yX4_less 1 := ⟨by decide, by decide, by decide +kernel⟩
theorem mv_L_64 : MV RL 64 yX4_less cX4_less 4 (some .int) 1 4 := ⟨(gt_in (w := Cond.methodLink RL 64 yX4_less) 517 (by decide +kernel) (by decide +kernel)), (gt_in (w := Cond.instanceMethod yX4_less) 518 (by decide +kernel) (by decide +kernel)), (gt_in (w := Cond.selects yX4_less.cls yX4_less yX4_less) 519 (by decide +kernel) (by decide +kernel)), ini_RX4, cw_yX4_less, dk_yX4_less, by decide, TX4, 12, rfl⟩
set_option maxRecDepth 100000 in
theorem cw_yX5_less : Cond.code yX5_less cX5_less 5 (some .int) ∈ gt := (gt_in (w := Cond.code yX5_less cX5_less 5 (some .int)) 877 rfl (by decide +kernel))
theorem dk_yX5_less : dOK yX5_less 1 := ⟨by decide, by decide, by decide +kernel⟩
theorem mv_L_67 : MV RL 67 yX5_less cX5_less 5 (some .int) 1 5 := ⟨(gt_in (w := Cond.methodLink RL 67 yX5_less) 874 (by decide +kernel) (by decide +kernel)), (gt_in (w := Cond.instanceMethod yX5_less) 875 (by decide +kernel) (by decide +kernel)), (gt_in (w := Cond.selects yX5_less.cls yX5_less yX5_less) 876 (by decide +kernel) (by decide +kernel)), ini_RX5, cw_yX5_less, dk_yX5_less, by decide, TX5, 28, rfl⟩
set_option maxRecDepth 100000 in
theorem cw_yX4_best : Cond.code yX4_best cX4_best 3 (some .int) ∈ gt := (gt_in (w := Cond.code yX4_best cX4_best 3 (some .int)) 528 rfl (by decide +kernel))
theorem dk_yX4_best : dOK yX4_best 1 := ⟨by decide, by decide, by decide +kernel⟩
theorem mv_L_68 : MV RL 68 yX4_best cX4_best 3 (some .int) 1 4 := ⟨(gt_in (w := Cond.methodLink RL 68 yX4_best) 525 (by decide +kernel) (by decide +kernel)), (gt_in (w := Cond.instanceMethod yX4_best) 526 (by decide +kernel) (by decide +kernel)), (gt_in (w := Cond.selects yX4_best.cls yX4_best yX4_best) 527 (by decide +kernel) (by decide +kernel)), ini_RX4, cw_yX4_best, dk_yX4_best, by decide, TX4, 12, rfl⟩
set_option maxRecDepth 100000 in
theorem cw_yX5_best : Cond.code yX5_best cX5_best 2 (some .int) ∈ gt := (gt_in (w := Cond.code yX5_best cX5_best 2 (some .int)) 885 rfl (by decide +kernel))
theorem dk_yX5_best : dOK yX5_best 1 := ⟨by decide, by decide, by decide +kernel⟩
theorem mv_L_71 : MV RL 71 yX5_best cX5_best 2 (some .int) 1 5 := ⟨(gt_in (w := Cond.methodLink RL 71 yX5_best) 882 (by decide +kernel) (by decide +kernel)), (gt_in (w := Cond.instanceMethod yX5_best) 883 (by decide +kernel) (by decide +kernel)), (gt_in (w := Cond.selects yX5_best.cls yX5_best yX5_best) 884 (by decide +kernel) (by decide +kernel)), ini_RX5, cw_yX5_best, dk_yX5_best, by decide, TX5, 28, rfl⟩
set_option maxRecDepth 100000 in
theorem cw_yX4_buying : Cond.code yX4_buying cX4_buying 3 (some .int) ∈ gt := (gt_in (w := Cond.code yX4_buying cX4_buying 3 (some .int)) 536 rfl (by decide +kernel))
theorem dk_yX4_buying : dOK yX4_buying 1 := ⟨by decide, by decide, by decide +kernel⟩
theorem mv_L_72 : MV RL 72 yX4_buying cX4_buying 3 (some .int) 1 4 := ⟨(gt_in (w := Cond.methodLink RL 72 yX4_buying) 533 (by decide +kernel) (by decide +kernel)), (gt_in (w := Cond.instanceMethod yX4_buying) 534 (by decide +kernel) (by decide +kernel)), (gt_in (w := Cond.selects yX4_buying.cls yX4_buying yX4_buying) 535 (by decide +kernel) (by decide +kernel)), ini_RX4, cw_yX4_buying, dk_yX4_buying, by decide, TX4, 12, rfl⟩
set_option maxRecDepth 100000 in
theorem cw_yX5_buying : Cond.code yX5_buying cX5_buying 2 (some .int) ∈ gt := (gt_in (w := Cond.code yX5_buying cX5_buying 2 (some .int)) 893 rfl (by decide +kernel))
theorem dk_yX5_buying : dOK yX5_buying 1 := ⟨by decide, by decide, by decide +kernel⟩
theorem mv_L_75 : MV RL 75 yX5_buying cX5_buying 2 (some .int) 1 5 := ⟨(gt_in (w := Cond.methodLink RL 75 yX5_buying) 890 (by decide +kernel) (by decide +kernel)), (gt_in (w := Cond.instanceMethod yX5_buying) 891 (by decide +kernel) (by decide +kernel)), (gt_in (w := Cond.selects yX5_buying.cls yX5_buying yX5_buying) 892 (by decide +kernel) (by decide +kernel)), ini_RX5, cw_yX5_buying, dk_yX5_buying, by decide, TX5, 28, rfl⟩
set_option maxRecDepth 100000 in
theorem cw_yX4_close : Cond.code yX4_close cX4_close 2 (some .int) ∈ gt := (gt_in (w := Cond.code yX4_close cX4_close 2 (some .int)) 540 rfl (by decide +kernel))
theorem dk_yX4_close : dOK yX4_close 0 := ⟨by decide, by decide, by decide +kernel⟩
theorem mv_L_76 : MV RL 76 yX4_close cX4_close 2 (some .int) 0 4 := ⟨(gt_in (w := Cond.methodLink RL 76 yX4_close) 537 (by decide +kernel) (by decide +kernel)), (gt_in (w := Cond.instanceMethod yX4_close) 538 (by decide +kernel) (by decide +kernel)), (gt_in (w := Cond.selects yX4_close.cls yX4_close yX4_close) 539 (by decide +kernel) (by decide +kernel)), ini_RX4, cw_yX4_close, dk_yX4_close, by decide, TX4, 12, rfl⟩
set_option maxRecDepth 100000 in
theorem cw_yX5_close : Cond.code yX5_close cX5_close 5 (some .int) ∈ gt := (gt_in (w := Cond.code yX5_close cX5_close 5 (some .int)) 905 rfl (by decide +kernel))
theorem dk_yX5_close : dOK yX5_close 0 := ⟨by decide, by decide, by decide +kernel⟩
theorem mv_L_79 : MV RL 79 yX5_close cX5_close 5 (some .int) 0 5 := ⟨(gt_in (w := Cond.methodLink RL 79 yX5_close) 902 (by decide +kernel) (by decide +kernel)), (gt_in (w := Cond.instanceMethod yX5_close) 903 (by decide +kernel) (by decide +kernel)), (gt_in (w := Cond.selects yX5_close.cls yX5_close yX5_close) 904 (by decide +kernel) (by decide +kernel)), ini_RX5, cw_yX5_close, dk_yX5_close, by decide, TX5, 28, rfl⟩
set_option maxRecDepth 100000 in
theorem cw_yX4_half : Cond.code yX4_half cX4_half 3 (some .int) ∈ gt := (gt_in (w := Cond.code yX4_half cX4_half 3 (some .int)) 544 rfl (by decide +kernel))
theorem dk_yX4_half : dOK yX4_half 1 := ⟨by decide, by decide, by decide +kernel⟩
theorem mv_L_80 : MV RL 80 yX4_half cX4_half 3 (some .int) 1 4 := ⟨(gt_in (w := Cond.methodLink RL 80 yX4_half) 541 (by decide +kernel) (by decide +kernel)), (gt_in (w := Cond.instanceMethod yX4_half) 542 (by decide +kernel) (by decide +kernel)), (gt_in (w := Cond.selects yX4_half.cls yX4_half yX4_half) 543 (by decide +kernel) (by decide +kernel)), ini_RX4, cw_yX4_half, dk_yX4_half, by decide, TX4, 12, rfl⟩
set_option maxRecDepth 100000 in
theorem cw_yX5_half : Cond.code yX5_half cX5_half 2 (some .int) ∈ gt := (gt_in (w := Cond.code yX5_half cX5_half 2 (some .int)) 897 rfl (by decide +kernel))
theorem dk_yX5_half : dOK yX5_half 1 := ⟨by decide, by decide, by decide +kernel⟩
theorem mv_L_83 : MV RL 83 yX5_half cX5_half 2 (some .int) 1 5 := ⟨(gt_in (w := Cond.methodLink RL 83 yX5_half) 894 (by decide +kernel) (by decide +kernel)), (gt_in (w := Cond.instanceMethod yX5_half) 895 (by decide +kernel) (by decide +kernel)), (gt_in (w := Cond.selects yX5_half.cls yX5_half yX5_half) 896 (by decide +kernel) (by decide +kernel)), ini_RX5, cw_yX5_half, dk_yX5_half, by decide, TX5, 28, rfl⟩
set_option maxRecDepth 100000 in
theorem cw_yX4_pays : Cond.code yX4_pays cX4_pays 3 (some .int) ∈ gt := (gt_in (w := Cond.code yX4_pays cX4_pays 3 (some .int)) 548 rfl (by decide +kernel))
theorem dk_yX4_pays : dOK yX4_pays 1 := ⟨by decide, by decide, by decide +kernel⟩
theorem mv_L_84 : MV RL 84 yX4_pays cX4_pays 3 (some .int) 1 4 := ⟨(gt_in (w := Cond.methodLink RL 84 yX4_pays) 545 (by decide +kernel) (by decide +kernel)), (gt_in (w := Cond.instanceMethod yX4_pays) 546 (by decide +kernel) (by decide +kernel)), (gt_in (w := Cond.selects yX4_pays.cls yX4_pays yX4_pays) 547 (by decide +kernel) (by decide +kernel)), ini_RX4, cw_yX4_pays, dk_yX4_pays, by decide, TX4, 12, rfl⟩
set_option maxRecDepth 100000 in
theorem cw_yX5_pays : Cond.code yX5_pays cX5_pays 3 (some .int) ∈ gt := (gt_in (w := Cond.code yX5_pays cX5_pays 3 (some .int)) 901 rfl (by decide +kernel))
theorem dk_yX5_pays : dOK yX5_pays 1 := ⟨by decide, by decide, by decide +kernel⟩
theorem mv_L_87 : MV RL 87 yX5_pays cX5_pays 3 (some .int) 1 5 := ⟨(gt_in (w := Cond.methodLink RL 87 yX5_pays) 898 (by decide +kernel) (by decide +kernel)), (gt_in (w := Cond.instanceMethod yX5_pays) 899 (by decide +kernel) (by decide +kernel)), (gt_in (w := Cond.selects yX5_pays.cls yX5_pays yX5_pays) 900 (by decide +kernel) (by decide +kernel)), ini_RX5, cw_yX5_pays, dk_yX5_pays, by decide, TX5, 28, rfl⟩
set_option maxRecDepth 100000 in
theorem cw_yX4_mean : Cond.code yX4_mean cX4_mean 8 (some .long) ∈ gt := (gt_in (w := Cond.code yX4_mean cX4_mean 8 (some .long)) 552 rfl (by decide +kernel))
theorem dk_yX4_mean : dOK yX4_mean 1 := ⟨by decide, by decide, by decide +kernel⟩
theorem mv_L_88 : MV RL 88 yX4_mean cX4_mean 8 (some .long) 1 4 := ⟨(gt_in (w := Cond.methodLink RL 88 yX4_mean) 549 (by decide +kernel) (by decide +kernel)), (gt_in (w := Cond.instanceMethod yX4_mean) 550 (by decide +kernel) (by decide +kernel)), (gt_in (w := Cond.selects yX4_mean.cls yX4_mean yX4_mean) 551 (by decide +kernel) (by decide +kernel)), ini_RX4, cw_yX4_mean, dk_yX4_mean, by decide, TX4, 12, rfl⟩
set_option maxRecDepth 100000 in
theorem cw_yX5_mean : Cond.code yX5_mean cX5_mean 12 (some .long) ∈ gt := (gt_in (w := Cond.code yX5_mean cX5_mean 12 (some .long)) 909 rfl (by decide +kernel))
theorem dk_yX5_mean : dOK yX5_mean 1 := ⟨by decide, by decide, by decide +kernel⟩
theorem mv_L_92 : MV RL 92 yX5_mean cX5_mean 12 (some .long) 1 5 := ⟨(gt_in (w := Cond.methodLink RL 92 yX5_mean) 906 (by decide +kernel) (by decide +kernel)), (gt_in (w := Cond.instanceMethod yX5_mean) 907 (by decide +kernel) (by decide +kernel)), (gt_in (w := Cond.selects yX5_mean.cls yX5_mean yX5_mean) 908 (by decide +kernel) (by decide +kernel)), ini_RX5, cw_yX5_mean, dk_yX5_mean, by decide, TX5, 28, rfl⟩
set_option maxRecDepth 100000 in
theorem cw_yX4_likes : Cond.code yX4_likes cX4_likes 4 (some .int) ∈ gt := (gt_in (w := Cond.code yX4_likes cX4_likes 4 (some .int)) 575 rfl (by decide +kernel))
theorem dk_yX4_likes : dOK yX4_likes 1 := ⟨by decide, by decide, by decide +kernel⟩
theorem mv_L_93 : MV RL 93 yX4_likes cX4_likes 4 (some .int) 1 4 := ⟨(gt_in (w := Cond.methodLink RL 93 yX4_likes) 572 (by decide +kernel) (by decide +kernel)), (gt_in (w := Cond.instanceMethod yX4_likes) 573 (by decide +kernel) (by decide +kernel)), (gt_in (w := Cond.selects yX4_likes.cls yX4_likes yX4_likes) 574 (by decide +kernel) (by decide +kernel)), ini_RX4, cw_yX4_likes, dk_yX4_likes, by decide, TX4, 12, rfl⟩
set_option maxRecDepth 100000 in
theorem cw_yX5_likes : Cond.code yX5_likes cX5_likes 5 (some .int) ∈ gt := (gt_in (w := Cond.code yX5_likes cX5_likes 5 (some .int)) 916 rfl (by decide +kernel))
theorem dk_yX5_likes : dOK yX5_likes 1 := ⟨by decide, by decide, by decide +kernel⟩
theorem mv_L_96 : MV RL 96 yX5_likes cX5_likes 5 (some .int) 1 5 := ⟨(gt_in (w := Cond.methodLink RL 96 yX5_likes) 913 (by decide +kernel) (by decide +kernel)), (gt_in (w := Cond.instanceMethod yX5_likes) 914 (by decide +kernel) (by decide +kernel)), (gt_in (w := Cond.selects yX5_likes.cls yX5_likes yX5_likes) 915 (by decide +kernel) (by decide +kernel)), ini_RX5, cw_yX5_likes, dk_yX5_likes, by decide, TX5, 28, rfl⟩
set_option maxRecDepth 100000 in
theorem cw_yX4_whose : Cond.code yX4_whose cX4_whose 4 (some .int) ∈ gt := (gt_in (w := Cond.code yX4_whose cX4_whose 4 (some .int)) 579 rfl (by decide +kernel))
theorem dk_yX4_whose : dOK yX4_whose 1 := ⟨by decide, by decide, by decide +kernel⟩
theorem mv_L_97 : MV RL 97 yX4_whose cX4_whose 4 (some .int) 1 4 := ⟨(gt_in (w := Cond.methodLink RL 97 yX4_whose) 576 (by decide +kernel) (by decide +kernel)), (gt_in (w := Cond.instanceMethod yX4_whose) 577 (by decide +kernel) (by decide +kernel)), (gt_in (w := Cond.selects yX4_whose.cls yX4_whose yX4_whose) 578 (by decide +kernel) (by decide +kernel)), ini_RX4, cw_yX4_whose, dk_yX4_whose, by decide, TX4, 12, rfl⟩
set_option maxRecDepth 100000 in
theorem cw_yX5_whose : Cond.code yX5_whose cX5_whose 5 (some .int) ∈ gt := (gt_in (w := Cond.code yX5_whose cX5_whose 5 (some .int)) 920 rfl (by decide +kernel))
theorem dk_yX5_whose : dOK yX5_whose 1 := ⟨by decide, by decide, by decide +kernel⟩
theorem mv_L_100 : MV RL 100 yX5_whose cX5_whose 5 (some .int) 1 5 := ⟨(gt_in (w := Cond.methodLink RL 100 yX5_whose) 917 (by decide +kernel) (by decide +kernel)), (gt_in (w := Cond.instanceMethod yX5_whose) 918 (by decide +kernel) (by decide +kernel)), (gt_in (w := Cond.selects yX5_whose.cls yX5_whose yX5_whose) 919 (by decide +kernel) (by decide +kernel)), ini_RX5, cw_yX5_whose, dk_yX5_whose, by decide, TX5, 28, rfl⟩
set_option maxRecDepth 100000 in
theorem cw_yX4_share : Cond.code yX4_share cX4_share 5 (some .int) ∈ gt := (gt_in (w := Cond.code yX4_share cX4_share 5 (some .int)) 583 rfl (by decide +kernel))
theorem dk_yX4_share : dOK yX4_share 0 := ⟨by decide, by decide, by decide +kernel⟩
theorem mv_L_101 : MV RL 101 yX4_share cX4_share 5 (some .int) 0 4 := ⟨(gt_in (w := Cond.methodLink RL 101 yX4_share) 580 (by decide +kernel) (by decide +kernel)), (gt_in (w := Cond.instanceMethod yX4_share) 581 (by decide +kernel) (by decide +kernel)), (gt_in (w := Cond.selects yX4_share.cls yX4_share yX4_share) 582 (by decide +kernel) (by decide +kernel)), ini_RX4, cw_yX4_share, dk_yX4_share, by decide, TX4, 12, rfl⟩
set_option maxRecDepth 100000 in
theorem cw_yX5_share : Cond.code yX5_share cX5_share 1 (some .int) ∈ gt := (gt_in (w := Cond.code yX5_share cX5_share 1 (some .int)) 924 rfl (by decide +kernel))
theorem dk_yX5_share : dOK yX5_share 0 := ⟨by decide, by decide, by decide +kernel⟩
theorem mv_L_104 : MV RL 104 yX5_share cX5_share 1 (some .int) 0 5 := ⟨(gt_in (w := Cond.methodLink RL 104 yX5_share) 921 (by decide +kernel) (by decide +kernel)), (gt_in (w := Cond.instanceMethod yX5_share) 922 (by decide +kernel) (by decide +kernel)), (gt_in (w := Cond.selects yX5_share.cls yX5_share yX5_share) 923 (by decide +kernel) (by decide +kernel)), ini_RX5, cw_yX5_share, dk_yX5_share, by decide, TX5, 28, rfl⟩
set_option maxRecDepth 100000 in
theorem cw_yX4_bottles : Cond.code yX4_bottles cX4_bottles 4 (some .int) ∈ gt := (gt_in (w := Cond.code yX4_bottles cX4_bottles 4 (some .int)) 598 rfl (by decide +kernel))
theorem dk_yX4_bottles : dOK yX4_bottles 1 := ⟨by decide, by decide, by decide +kernel⟩
theorem mv_L_105 : MV RL 105 yX4_bottles cX4_bottles 4 (some .int) 1 4 := ⟨(gt_in (w := Cond.methodLink RL 105 yX4_bottles) 595 (by decide +kernel) (by decide +kernel)), (gt_in (w := Cond.instanceMethod yX4_bottles) 596 (by decide +kernel) (by decide +kernel)), (gt_in (w := Cond.selects yX4_bottles.cls yX4_bottles yX4_bottles) 597 (by decide +kernel) (by decide +kernel)), ini_RX4, cw_yX4_bottles, dk_yX4_bottles, by decide, TX4, 12, rfl⟩
set_option maxRecDepth 100000 in
theorem cw_yX5_bottles : Cond.code yX5_bottles cX5_bottles 2 (some .int) ∈ gt := (gt_in (w := Cond.code yX5_bottles cX5_bottles 2 (some .int)) 932 rfl (by decide +kernel))
theorem dk_yX5_bottles : dOK yX5_bottles 1 := ⟨by decide, by decide, by decide +kernel⟩
theorem mv_L_108 : MV RL 108 yX5_bottles cX5_bottles 2 (some .int) 1 5 := ⟨(gt_in (w := Cond.methodLink RL 108 yX5_bottles) 929 (by decide +kernel) (by decide +kernel)), (gt_in (w := Cond.instanceMethod yX5_bottles) 930 (by decide +kernel) (by decide +kernel)), (gt_in (w := Cond.selects yX5_bottles.cls yX5_bottles yX5_bottles) 931 (by decide +kernel) (by decide +kernel)), ini_RX5, cw_yX5_bottles, dk_yX5_bottles, by decide, TX5, 28, rfl⟩
set_option maxRecDepth 100000 in
theorem cw_yX4_row : Cond.code yX4_row cX4_row 3 (some .int) ∈ gt := (gt_in (w := Cond.code yX4_row cX4_row 3 (some .int)) 606 rfl (by decide +kernel))
theorem dk_yX4_row : dOK yX4_row 1 := ⟨by decide, by decide, by decide +kernel⟩
theorem mv_L_109 : MV RL 109 yX4_row cX4_row 3 (some .int) 1 4 := ⟨(gt_in (w := Cond.methodLink RL 109 yX4_row) 603 (by decide +kernel) (by decide +kernel)), (gt_in (w := Cond.instanceMethod yX4_row) 604 (by decide +kernel) (by decide +kernel)), (gt_in (w := Cond.selects yX4_row.cls yX4_row yX4_row) 605 (by decide +kernel) (by decide +kernel)), ini_RX4, cw_yX4_row, dk_yX4_row, by decide, TX4, 12, rfl⟩
set_option maxRecDepth 100000 in
theorem cw_yX5_row : Cond.code yX5_row cX5_row 2 (some .int) ∈ gt := (gt_in (w := Cond.code yX5_row cX5_row 2 (some .int)) 940 rfl (by decide +kernel))
theorem dk_yX5_row : dOK yX5_row 1 := ⟨by decide, by decide, by decide +kernel⟩
theorem mv_L_112 : MV RL 112 yX5_row cX5_row 2 (some .int) 1 5 := ⟨(gt_in (w := Cond.methodLink RL 112 yX5_row) 937 (by decide +kernel) (by decide +kernel)), (gt_in (w := Cond.instanceMethod yX5_row) 938 (by decide +kernel) (by decide +kernel)), (gt_in (w := Cond.selects yX5_row.cls yX5_row yX5_row) 939 (by decide +kernel) (by decide +kernel)), ini_RX5, cw_yX5_row, dk_yX5_row, by decide, TX5, 28, rfl⟩
set_option maxRecDepth 100000 in
theorem cw_yX4_fits : Cond.code yX4_fits cX4_fits 3 (some .int) ∈ gt := (gt_in (w := Cond.code yX4_fits cX4_fits 3 (some .int)) 610 rfl (by decide +kernel))
theorem dk_yX4_fits : dOK yX4_fits 0 := ⟨by decide, by decide, by decide +kernel⟩
theorem mv_L_113 : MV RL 113 yX4_fits cX4_fits 3 (some .int) 0 4 := ⟨(gt_in (w := Cond.methodLink RL 113 yX4_fits) 607 (by decide +kernel) (by decide +kernel)), (gt_in (w := Cond.instanceMethod yX4_fits) 608 (by decide +kernel) (by decide +kernel)), (gt_in (w := Cond.selects yX4_fits.cls yX4_fits yX4_fits) 609 (by decide +kernel) (by decide +kernel)), ini_RX4, cw_yX4_fits, dk_yX4_fits, by decide, TX4, 12, rfl⟩
set_option maxRecDepth 100000 in
theorem cw_yX5_fits : Cond.code yX5_fits cX5_fits 5 (some .int) ∈ gt := (gt_in (w := Cond.code yX5_fits cX5_fits 5 (some .int)) 944 rfl (by decide +kernel))
theorem dk_yX5_fits : dOK yX5_fits 0 := ⟨by decide, by decide, by decide +kernel⟩
theorem mv_L_116 : MV RL 116 yX5_fits cX5_fits 5 (some .int) 0 5 := ⟨(gt_in (w := Cond.methodLink RL 116 yX5_fits) 941 (by decide +kernel) (by decide +kernel)), (gt_in (w := Cond.instanceMethod yX5_fits) 942 (by decide +kernel) (by decide +kernel)), (gt_in (w := Cond.selects yX5_fits.cls yX5_fits yX5_fits) 943 (by decide +kernel) (by decide +kernel)), ini_RX5, cw_yX5_fits, dk_yX5_fits, by decide, TX5, 28, rfl⟩
set_option maxRecDepth 100000 in
theorem cw_yX4_judge : Cond.code yX4_judge cX4_judge 2 (some .int) ∈ gt := (gt_in (w := Cond.code yX4_judge cX4_judge 2 (some .int)) 618 rfl (by decide +kernel))
theorem dk_yX4_judge : dOK yX4_judge 0 := ⟨by decide, by decide, by decide +kernel⟩
theorem mv_L_117 : MV RL 117 yX4_judge cX4_judge 2 (some .int) 0 4 := ⟨(gt_in (w := Cond.methodLink RL 117 yX4_judge) 615 (by decide +kernel) (by decide +kernel)), (gt_in (w := Cond.instanceMethod yX4_judge) 616 (by decide +kernel) (by decide +kernel)), (gt_in (w := Cond.selects yX4_judge.cls yX4_judge yX4_judge) 617 (by decide +kernel) (by decide +kernel)), ini_RX4, cw_yX4_judge, dk_yX4_judge, by decide, TX4, 12, rfl⟩
set_option maxRecDepth 100000 in
theorem cw_yX5_judge : Cond.code yX5_judge cX5_judge 3 (some .int) ∈ gt := (gt_in (w := Cond.code yX5_judge cX5_judge 3 (some .int)) 948 rfl (by decide +kernel))
theorem dk_yX5_judge : dOK yX5_judge 0 := ⟨by decide, by decide, by decide +kernel⟩
theorem mv_L_120 : MV RL 120 yX5_judge cX5_judge 3 (some .int) 0 5 := ⟨(gt_in (w := Cond.methodLink RL 120 yX5_judge) 945 (by decide +kernel) (by decide +kernel)), (gt_in (w := Cond.instanceMethod yX5_judge) 946 (by decide +kernel) (by decide +kernel)), (gt_in (w := Cond.selects yX5_judge.cls yX5_judge yX5_judge) 947 (by decide +kernel) (by decide +kernel)), ini_RX5, cw_yX5_judge, dk_yX5_judge, by decide, TX5, 28, rfl⟩
set_option maxRecDepth 100000 in
theorem cw_yX4_lots : Cond.code yX4_lots cX4_lots 9 (some .int) ∈ gt := (gt_in (w := Cond.code yX4_lots cX4_lots 9 (some .int)) 626 rfl (by decide +kernel))
theorem dk_yX4_lots : dOK yX4_lots 2 := ⟨by decide, by decide, by decide +kernel⟩
theorem mv_L_121 : MV RL 121 yX4_lots cX4_lots 9 (some .int) 2 4 := ⟨(gt_in (w := Cond.methodLink RL 121 yX4_lots) 623 (by decide +kernel) (by decide +kernel)), (gt_in (w := Cond.instanceMethod yX4_lots) 624 (by decide +kernel) (by decide +kernel)), (gt_in (w := Cond.selects yX4_lots.cls yX4_lots yX4_lots) 625 (by decide +kernel) (by decide +kernel)), ini_RX4, cw_yX4_lots, dk_yX4_lots, by decide, TX4, 12, rfl⟩
set_option maxRecDepth 100000 in
theorem cw_yX5_lots : Cond.code yX5_lots cX5_lots 8 (some .int) ∈ gt := (gt_in (w := Cond.code yX5_lots cX5_lots 8 (some .int)) 952 rfl (by decide +kernel))
theorem dk_yX5_lots : dOK yX5_lots 2 := ⟨by decide, by decide, by decide +kernel⟩
theorem mv_L_124 : MV RL 124 yX5_lots cX5_lots 8 (some .int) 2 5 := ⟨(gt_in (w := Cond.methodLink RL 124 yX5_lots) 949 (by decide +kernel) (by decide +kernel)), (gt_in (w := Cond.instanceMethod yX5_lots) 950 (by decide +kernel) (by decide +kernel)), (gt_in (w := Cond.selects yX5_lots.cls yX5_lots yX5_lots) 951 (by decide +kernel) (by decide +kernel)), ini_RX5, cw_yX5_lots, dk_yX5_lots, by decide, TX5, 28, rfl⟩
set_option maxRecDepth 100000 in
theorem cw_yX4_image : Cond.code yX4_image cX4_image 1 (some .int) ∈ gt := (gt_in (w := Cond.code yX4_image cX4_image 1 (some .int)) 636 rfl (by decide +kernel))
theorem dk_yX4_image : dOK yX4_image 0 := ⟨by decide, by decide, by decide +kernel⟩
theorem mv_L_125 : MV RL 125 yX4_image cX4_image 1 (some .int) 0 4 := ⟨(gt_in (w := Cond.methodLink RL 125 yX4_image) 633 (by decide +kernel) (by decide +kernel)), (gt_in (w := Cond.instanceMethod yX4_image) 634 (by decide +kernel) (by decide +kernel)), (gt_in (w := Cond.selects yX4_image.cls yX4_image yX4_image) 635 (by decide +kernel) (by decide +kernel)), ini_RX4, cw_yX4_image, dk_yX4_image, by decide, TX4, 12, rfl⟩
set_option maxRecDepth 100000 in
theorem cw_yX5_image : Cond.code yX5_image cX5_image 1 (some .int) ∈ gt := (gt_in (w := Cond.code yX5_image cX5_image 1 (some .int)) 743 rfl (by decide +kernel))
theorem dk_yX5_image : dOK yX5_image 0 := ⟨by decide, by decide, by decide +kernel⟩
theorem mv_L_128 : MV RL 128 yX5_image cX5_image 1 (some .int) 0 5 := ⟨(gt_in (w := Cond.methodLink RL 128 yX5_image) 740 (by decide +kernel) (by decide +kernel)), (gt_in (w := Cond.instanceMethod yX5_image) 741 (by decide +kernel) (by decide +kernel)), (gt_in (w := Cond.selects yX5_image.cls yX5_image yX5_image) 742 (by decide +kernel) (by decide +kernel)), ini_RX5, cw_yX5_image, dk_yX5_image, by decide, TX5, 28, rfl⟩
set_option maxRecDepth 100000 in
theorem cw_yX4_on : Cond.code yX4_on cX4_on 1 (some .int) ∈ gt := (gt_in (w := Cond.code yX4_on cX4_on 1 (some .int)) 640 rfl (by decide +kernel))
theorem dk_yX4_on : dOK yX4_on 0 := ⟨by decide, by decide, by decide +kernel⟩
theorem mv_L_129 : MV RL 129 yX4_on cX4_on 1 (some .int) 0 4 := ⟨(gt_in (w := Cond.methodLink RL 129 yX4_on) 637 (by decide +kernel) (by decide +kernel)), (gt_in (w := Cond.instanceMethod yX4_on) 638 (by decide +kernel) (by decide +kernel)), (gt_in (w := Cond.selects yX4_on.cls yX4_on yX4_on) 639 (by decide +kernel) (by decide +kernel)), ini_RX4, cw_yX4_on, dk_yX4_on, by decide, TX4, 12, rfl⟩
set_option maxRecDepth 100000 in
theorem cw_yX5_on : Cond.code yX5_on cX5_on 1 (some .int) ∈ gt := (gt_in (w := Cond.code yX5_on cX5_on 1 (some .int)) 750 rfl (by decide +kernel))
theorem dk_yX5_on : dOK yX5_on 0 := ⟨by decide, by decide, by decide +kernel⟩
theorem mv_L_132 : MV RL 132 yX5_on cX5_on 1 (some .int) 0 5 := ⟨(gt_in (w := Cond.methodLink RL 132 yX5_on) 747 (by decide +kernel) (by decide +kernel)), (gt_in (w := Cond.instanceMethod yX5_on) 748 (by decide +kernel) (by decide +kernel)), (gt_in (w := Cond.selects yX5_on.cls yX5_on yX5_on) 749 (by decide +kernel) (by decide +kernel)), ini_RX5, cw_yX5_on, dk_yX5_on, by decide, TX5, 28, rfl⟩
set_option maxRecDepth 100000 in
theorem cw_yX4_count : Cond.code yX4_count cX4_count 2 (some .int) ∈ gt := (gt_in (w := Cond.code yX4_count cX4_count 2 (some .int)) 644 rfl (by decide +kernel))
theorem dk_yX4_count : dOK yX4_count 1 := ⟨by decide, by decide, by decide +kernel⟩
theorem mv_L_133 : MV RL 133 yX4_count cX4_count 2 (some .int) 1 4 := ⟨(gt_in (w := Cond.methodLink RL 133 yX4_count) 641 (by decide +kernel) (by decide +kernel)), (gt_in (w := Cond.instanceMethod yX4_count) 642 (by decide +kernel) (by decide +kernel)), (gt_in (w := Cond.selects yX4_count.cls yX4_count yX4_count) 643 (by decide +kernel) (by decide +kernel)), ini_RX4, cw_yX4_count, dk_yX4_count, by decide, TX4, 12, rfl⟩
set_option maxRecDepth 100000 in
theorem cw_yX5_count : Cond.code yX5_count cX5_count 4 (some .int) ∈ gt := (gt_in (w := Cond.code yX5_count cX5_count 4 (some .int)) 959 rfl (by decide +kernel))
theorem dk_yX5_count : dOK yX5_count 1 := ⟨by decide, by decide, by decide +kernel⟩
theorem mv_L_136 : MV RL 136 yX5_count cX5_count 4 (some .int) 1 5 := ⟨(gt_in (w := Cond.methodLink RL 136 yX5_count) 956 (by decide +kernel) (by decide +kernel)), (gt_in (w := Cond.instanceMethod yX5_count) 957 (by decide +kernel) (by decide +kernel)), (gt_in (w := Cond.selects yX5_count.cls yX5_count yX5_count) 958 (by decide +kernel) (by decide +kernel)), ini_RX5, cw_yX5_count, dk_yX5_count, by decide, TX5, 28, rfl⟩
