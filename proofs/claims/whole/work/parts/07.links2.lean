/-! The methods with their room. -/
abbrev K_X_init : mm_KI := (y_X_init, b_X_init, 2, none, { frames := 4, cells := 203, slots := 2098, locals := 83 })
theorem jf_X_init : mm_jf K_X_init 0 := ⟨(List.mem_of_getElem? (i := 78) (by decide +kernel)), (List.mem_of_getElem? (i := 63) (by decide +kernel)), by decide, by decide, by decide +kernel⟩
abbrev K_S_init : mm_KI := (y_S_init, b_S_init, 2, none, { frames := 2, cells := 129, slots := 1728, locals := 41 })
theorem jf_S_init : mm_jf K_S_init 0 := ⟨(List.mem_of_getElem? (i := 86) (by decide +kernel)), (List.mem_of_getElem? (i := 64) (by decide +kernel)), by decide, by decide, by decide +kernel⟩
abbrev K_B_init : mm_KI := (y_B_init, b_B_init, 1, none, { frames := 1, cells := 1, slots := 16, locals := 21 })
theorem jf_B_init : mm_jf K_B_init 0 := ⟨(List.mem_of_getElem? (i := 93) (by decide +kernel)), (List.mem_of_getElem? (i := 65) (by decide +kernel)), by decide, by decide, by decide +kernel⟩
abbrev K_B_begin : mm_KI := (y_B_begin, b_B_begin, 7, none, { frames := 0, cells := 0, slots := 0, locals := 0 })
theorem jf_B_begin : mm_jf K_B_begin 6 := ⟨(List.mem_of_getElem? (i := 152) (by decide +kernel)), (List.mem_of_getElem? (i := 65) (by decide +kernel)), by decide, by decide, by decide +kernel⟩
abbrev K_B_enter : mm_KI := (y_B_enter, b_B_enter, 2, none, { frames := 0, cells := 0, slots := 0, locals := 0 })
theorem jf_B_enter : mm_jf K_B_enter 1 := ⟨(List.mem_of_getElem? (i := 156) (by decide +kernel)), (List.mem_of_getElem? (i := 65) (by decide +kernel)), by decide, by decide, by decide +kernel⟩
abbrev K_M_init : mm_KI := (y_M_init, b_M_init, 1, none, { frames := 1, cells := 0, slots := 0, locals := 21 })
theorem jf_M_init : mm_jf K_M_init 0 := ⟨(List.mem_of_getElem? (i := 172) (by decide +kernel)), (List.mem_of_getElem? (i := 66) (by decide +kernel)), by decide, by decide, by decide +kernel⟩
abbrev K_C_init : mm_KI := (y_C_init, b_C_init, 2, none, { frames := 3, cells := 32, slots := 168, locals := 62 })
theorem jf_C_init : mm_jf K_C_init 0 := ⟨(List.mem_of_getElem? (i := 183) (by decide +kernel)), (List.mem_of_getElem? (i := 67) (by decide +kernel)), by decide, by decide, by decide +kernel⟩
abbrev K_F_init : mm_KI := (y_F_init, b_F_init, 1, none, { frames := 1, cells := 0, slots := 0, locals := 21 })
theorem jf_F_init : mm_jf K_F_init 0 := ⟨(List.mem_of_getElem? (i := 190) (by decide +kernel)), (List.mem_of_getElem? (i := 68) (by decide +kernel)), by decide, by decide, by decide +kernel⟩
abbrev K_Q_init : mm_KI := (y_Q_init, b_Q_init, 1, none, { frames := 2, cells := 2, slots := 10, locals := 42 })
theorem jf_Q_init : mm_jf K_Q_init 0 := ⟨(List.mem_of_getElem? (i := 229) (by decide +kernel)), (List.mem_of_getElem? (i := 69) (by decide +kernel)), by decide, by decide, by decide +kernel⟩
abbrev K_R_init : mm_KI := (y_R_init, b_R_init, 2, none, { frames := 1, cells := 1, slots := 8, locals := 21 })
theorem jf_R_init : mm_jf K_R_init 1 := ⟨(List.mem_of_getElem? (i := 235) (by decide +kernel)), (List.mem_of_getElem? (i := 70) (by decide +kernel)), by decide, by decide, by decide +kernel⟩
abbrev K_W_init : mm_KI := (y_W_init, b_W_init, 1, none, { frames := 1, cells := 0, slots := 0, locals := 21 })
theorem jf_W_init : mm_jf K_W_init 0 := ⟨(List.mem_of_getElem? (i := 278) (by decide +kernel)), (List.mem_of_getElem? (i := 71) (by decide +kernel)), by decide, by decide, by decide +kernel⟩
abbrev K_X_member : mm_KI := (y_X_member, b_X_member, 3, (some FieldType.boolean), { frames := 1, cells := 0, slots := 0, locals := 22 })
theorem jf_X_member : mm_jf K_X_member 2 := ⟨(List.mem_of_getElem? (i := 319) (by decide +kernel)), (List.mem_of_getElem? (i := 63) (by decide +kernel)), by decide, by decide, by decide +kernel⟩
abbrev K_X_isUser : mm_KI := (y_X_isUser, b_X_isUser, 1, (some FieldType.boolean), { frames := 0, cells := 0, slots := 0, locals := 0 })
theorem jf_X_isUser : mm_jf K_X_isUser 1 := ⟨(List.mem_of_getElem? (i := 322) (by decide +kernel)), (List.mem_of_getElem? (i := 63) (by decide +kernel)), by decide, by decide, by decide +kernel⟩
abbrev K_M_isIn : mm_KI := (y_M_isIn, b_M_isIn, 3, (some FieldType.boolean), { frames := 0, cells := 0, slots := 0, locals := 0 })
theorem jf_M_isIn : mm_jf K_M_isIn 2 := ⟨(List.mem_of_getElem? (i := 326) (by decide +kernel)), (List.mem_of_getElem? (i := 66) (by decide +kernel)), by decide, by decide, by decide +kernel⟩
abbrev K_M_join : mm_KI := (y_M_join, b_M_join, 3, none, { frames := 0, cells := 0, slots := 0, locals := 0 })
theorem jf_M_join : mm_jf K_M_join 2 := ⟨(List.mem_of_getElem? (i := 330) (by decide +kernel)), (List.mem_of_getElem? (i := 66) (by decide +kernel)), by decide, by decide, by decide +kernel⟩
abbrev K_X_say : mm_KI := (y_X_say, b_X_say, 2, (some FieldType.boolean), { frames := 1, cells := 0, slots := 0, locals := 21 })
theorem jf_X_say : mm_jf K_X_say 1 := ⟨(List.mem_of_getElem? (i := 334) (by decide +kernel)), (List.mem_of_getElem? (i := 63) (by decide +kernel)), by decide, by decide, by decide +kernel⟩
abbrev K_R_add : mm_KI := (y_R_add, b_R_add, 2, none, { frames := 0, cells := 0, slots := 0, locals := 0 })
theorem jf_R_add : mm_jf K_R_add 1 := ⟨(List.mem_of_getElem? (i := 338) (by decide +kernel)), (List.mem_of_getElem? (i := 70) (by decide +kernel)), by decide, by decide, by decide +kernel⟩
abbrev K_X_send : mm_KI := (y_X_send, b_X_send, 6, (some FieldType.boolean), { frames := 3, cells := 0, slots := 0, locals := 66 })
theorem jf_X_send : mm_jf K_X_send 4 := ⟨(List.mem_of_getElem? (i := 342) (by decide +kernel)), (List.mem_of_getElem? (i := 63) (by decide +kernel)), by decide, by decide, by decide +kernel⟩
abbrev K_X_requestAt : mm_KI := (y_X_requestAt, b_X_requestAt, 4, (some (FieldType.object "SnapshotFiles$Request")), { frames := 1, cells := 0, slots := 0, locals := 21 })
theorem jf_X_requestAt : mm_jf K_X_requestAt 2 := ⟨(List.mem_of_getElem? (i := 346) (by decide +kernel)), (List.mem_of_getElem? (i := 63) (by decide +kernel)), by decide, by decide, by decide +kernel⟩
abbrev K_X_connectionAt : mm_KI := (y_X_connectionAt, b_X_connectionAt, 2, (some (FieldType.object "SnapshotFiles$Connection")), { frames := 0, cells := 0, slots := 0, locals := 0 })
theorem jf_X_connectionAt : mm_jf K_X_connectionAt 1 := ⟨(List.mem_of_getElem? (i := 350) (by decide +kernel)), (List.mem_of_getElem? (i := 63) (by decide +kernel)), by decide, by decide, by decide +kernel⟩
abbrev K_C_requestAt : mm_KI := (y_C_requestAt, b_C_requestAt, 2, (some (FieldType.object "SnapshotFiles$Request")), { frames := 0, cells := 0, slots := 0, locals := 0 })
theorem jf_C_requestAt : mm_jf K_C_requestAt 1 := ⟨(List.mem_of_getElem? (i := 354) (by decide +kernel)), (List.mem_of_getElem? (i := 67) (by decide +kernel)), by decide, by decide, by decide +kernel⟩
abbrev K_Q_begin : mm_KI := (y_Q_begin, b_Q_begin, 4, none, { frames := 2, cells := 0, slots := 0, locals := 43 })
theorem jf_Q_begin : mm_jf K_Q_begin 3 := ⟨(List.mem_of_getElem? (i := 358) (by decide +kernel)), (List.mem_of_getElem? (i := 69) (by decide +kernel)), by decide, by decide, by decide +kernel⟩
abbrev K_R_copyFrom : mm_KI := (y_R_copyFrom, b_R_copyFrom, 3, none, { frames := 1, cells := 0, slots := 0, locals := 21 })
theorem jf_R_copyFrom : mm_jf K_R_copyFrom 1 := ⟨(List.mem_of_getElem? (i := 362) (by decide +kernel)), (List.mem_of_getElem? (i := 70) (by decide +kernel)), by decide, by decide, by decide +kernel⟩
abbrev K_R_clear : mm_KI := (y_R_clear, b_R_clear, 1, none, { frames := 0, cells := 0, slots := 0, locals := 0 })
theorem jf_R_clear : mm_jf K_R_clear 0 := ⟨(List.mem_of_getElem? (i := 366) (by decide +kernel)), (List.mem_of_getElem? (i := 70) (by decide +kernel)), by decide, by decide, by decide +kernel⟩
abbrev K_R_at : mm_KI := (y_R_at, b_R_at, 2, (some FieldType.int), { frames := 0, cells := 0, slots := 0, locals := 0 })
theorem jf_R_at : mm_jf K_R_at 1 := ⟨(List.mem_of_getElem? (i := 370) (by decide +kernel)), (List.mem_of_getElem? (i := 70) (by decide +kernel)), by decide, by decide, by decide +kernel⟩
abbrev K_X_serve : mm_KI := (y_X_serve, b_X_serve, 5, (some FieldType.int), { frames := 6, cells := 0, slots := 0, locals := 151 })
theorem jf_X_serve : mm_jf K_X_serve 2 := ⟨(List.mem_of_getElem? (i := 376) (by decide +kernel)), (List.mem_of_getElem? (i := 63) (by decide +kernel)), by decide, by decide, by decide +kernel⟩
abbrev K_X_answer : mm_KI := (y_X_answer, b_X_answer, 6, (some FieldType.int), { frames := 5, cells := 0, slots := 0, locals := 126 })
theorem jf_X_answer : mm_jf K_X_answer 2 := ⟨(List.mem_of_getElem? (i := 380) (by decide +kernel)), (List.mem_of_getElem? (i := 63) (by decide +kernel)), by decide, by decide, by decide +kernel⟩
abbrev K_C_fidAt : mm_KI := (y_C_fidAt, b_C_fidAt, 2, (some (FieldType.object "SnapshotFiles$Fid")), { frames := 0, cells := 0, slots := 0, locals := 0 })
theorem jf_C_fidAt : mm_jf K_C_fidAt 1 := ⟨(List.mem_of_getElem? (i := 384) (by decide +kernel)), (List.mem_of_getElem? (i := 67) (by decide +kernel)), by decide, by decide, by decide +kernel⟩
abbrev K_X_hasItsNumbers : mm_KI := (y_X_hasItsNumbers, b_X_hasItsNumbers, 2, (some FieldType.boolean), { frames := 0, cells := 0, slots := 0, locals := 0 })
theorem jf_X_hasItsNumbers : mm_jf K_X_hasItsNumbers 2 := ⟨(List.mem_of_getElem? (i := 387) (by decide +kernel)), (List.mem_of_getElem? (i := 63) (by decide +kernel)), by decide, by decide, by decide +kernel⟩
abbrev K_X_attach : mm_KI := (y_X_attach, b_X_attach, 5, (some FieldType.int), { frames := 3, cells := 0, slots := 0, locals := 63 })
theorem jf_X_attach : mm_jf K_X_attach 3 := ⟨(List.mem_of_getElem? (i := 396) (by decide +kernel)), (List.mem_of_getElem? (i := 63) (by decide +kernel)), by decide, by decide, by decide +kernel⟩
abbrev K_S_find : mm_KI := (y_S_find, b_S_find, 5, (some (FieldType.object "SnapshotFiles$Block")), { frames := 0, cells := 0, slots := 0, locals := 0 })
theorem jf_S_find : mm_jf K_S_find 2 := ⟨(List.mem_of_getElem? (i := 400) (by decide +kernel)), (List.mem_of_getElem? (i := 64) (by decide +kernel)), by decide, by decide, by decide +kernel⟩
abbrev K_F_take : mm_KI := (y_F_take, b_F_take, 4, none, { frames := 0, cells := 0, slots := 0, locals := 0 })
theorem jf_F_take : mm_jf K_F_take 3 := ⟨(List.mem_of_getElem? (i := 404) (by decide +kernel)), (List.mem_of_getElem? (i := 68) (by decide +kernel)), by decide, by decide, by decide +kernel⟩
abbrev K_X_replyWithMode : mm_KI := (y_X_replyWithMode, b_X_replyWithMode, 2, none, { frames := 2, cells := 0, slots := 0, locals := 42 })
theorem jf_X_replyWithMode : mm_jf K_X_replyWithMode 1 := ⟨(List.mem_of_getElem? (i := 408) (by decide +kernel)), (List.mem_of_getElem? (i := 63) (by decide +kernel)), by decide, by decide, by decide +kernel⟩
abbrev K_X_replyWithVersion : mm_KI := (y_X_replyWithVersion, b_X_replyWithVersion, 2, none, { frames := 1, cells := 0, slots := 0, locals := 21 })
theorem jf_X_replyWithVersion : mm_jf K_X_replyWithVersion 1 := ⟨(List.mem_of_getElem? (i := 412) (by decide +kernel)), (List.mem_of_getElem? (i := 63) (by decide +kernel)), by decide, by decide, by decide +kernel⟩
abbrev K_X_walk : mm_KI := (y_X_walk, b_X_walk, 5, (some FieldType.int), { frames := 4, cells := 0, slots := 0, locals := 102 })
theorem jf_X_walk : mm_jf K_X_walk 3 := ⟨(List.mem_of_getElem? (i := 416) (by decide +kernel)), (List.mem_of_getElem? (i := 63) (by decide +kernel)), by decide, by decide, by decide +kernel⟩
abbrev K_X_nodeOf : mm_KI := (y_X_nodeOf, b_X_nodeOf, 2, (some (FieldType.object "SnapshotFiles$Block")), { frames := 1, cells := 0, slots := 0, locals := 24 })
theorem jf_X_nodeOf : mm_jf K_X_nodeOf 1 := ⟨(List.mem_of_getElem? (i := 420) (by decide +kernel)), (List.mem_of_getElem? (i := 63) (by decide +kernel)), by decide, by decide, by decide +kernel⟩
abbrev K_X_walkTitles : mm_KI := (y_X_walkTitles, b_X_walkTitles, 10, (some FieldType.int), { frames := 3, cells := 0, slots := 0, locals := 73 })
theorem jf_X_walkTitles : mm_jf K_X_walkTitles 4 := ⟨(List.mem_of_getElem? (i := 424) (by decide +kernel)), (List.mem_of_getElem? (i := 63) (by decide +kernel)), by decide, by decide, by decide +kernel⟩
abbrev K_S_child : mm_KI := (y_S_child, b_S_child, 5, (some (FieldType.object "SnapshotFiles$Block")), { frames := 2, cells := 0, slots := 0, locals := 49 })
theorem jf_S_child : mm_jf K_S_child 3 := ⟨(List.mem_of_getElem? (i := 428) (by decide +kernel)), (List.mem_of_getElem? (i := 64) (by decide +kernel)), by decide, by decide, by decide +kernel⟩
abbrev K_S_childBehind : mm_KI := (y_S_childBehind, b_S_childBehind, 8, (some (FieldType.object "SnapshotFiles$Block")), { frames := 1, cells := 0, slots := 0, locals := 22 })
theorem jf_S_childBehind : mm_jf K_S_childBehind 3 := ⟨(List.mem_of_getElem? (i := 432) (by decide +kernel)), (List.mem_of_getElem? (i := 64) (by decide +kernel)), by decide, by decide, by decide +kernel⟩
abbrev K_B_isNodeOf : mm_KI := (y_B_isNodeOf, b_B_isNodeOf, 3, (some FieldType.boolean), { frames := 0, cells := 0, slots := 0, locals := 0 })
theorem jf_B_isNodeOf : mm_jf K_B_isNodeOf 2 := ⟨(List.mem_of_getElem? (i := 436) (by decide +kernel)), (List.mem_of_getElem? (i := 65) (by decide +kernel)), by decide, by decide, by decide +kernel⟩
abbrev K_X_hindranceOfStep : mm_KI := (y_X_hindranceOfStep, b_X_hindranceOfStep, 4, (some FieldType.int), { frames := 2, cells := 0, slots := 0, locals := 46 })
theorem jf_X_hindranceOfStep : mm_jf K_X_hindranceOfStep 3 := ⟨(List.mem_of_getElem? (i := 440) (by decide +kernel)), (List.mem_of_getElem? (i := 63) (by decide +kernel)), by decide, by decide, by decide +kernel⟩
abbrev K_B_isDirectory : mm_KI := (y_B_isDirectory, b_B_isDirectory, 1, (some FieldType.boolean), { frames := 1, cells := 0, slots := 0, locals := 21 })
theorem jf_B_isDirectory : mm_jf K_B_isDirectory 0 := ⟨(List.mem_of_getElem? (i := 444) (by decide +kernel)), (List.mem_of_getElem? (i := 65) (by decide +kernel)), by decide, by decide, by decide +kernel⟩
abbrev K_B_is : mm_KI := (y_B_is, b_B_is, 2, (some FieldType.boolean), { frames := 0, cells := 0, slots := 0, locals := 0 })
theorem jf_B_is : mm_jf K_B_is 1 := ⟨(List.mem_of_getElem? (i := 448) (by decide +kernel)), (List.mem_of_getElem? (i := 65) (by decide +kernel)), by decide, by decide, by decide +kernel⟩
abbrev K_M_may : mm_KI := (y_M_may, b_M_may, 5, (some FieldType.boolean), { frames := 1, cells := 0, slots := 0, locals := 22 })
theorem jf_M_may : mm_jf K_M_may 3 := ⟨(List.mem_of_getElem? (i := 452) (by decide +kernel)), (List.mem_of_getElem? (i := 66) (by decide +kernel)), by decide, by decide, by decide +kernel⟩
abbrev K_X_open : mm_KI := (y_X_open, b_X_open, 6, (some FieldType.int), { frames := 4, cells := 0, slots := 0, locals := 93 })
theorem jf_X_open : mm_jf K_X_open 2 := ⟨(List.mem_of_getElem? (i := 457) (by decide +kernel)), (List.mem_of_getElem? (i := 63) (by decide +kernel)), by decide, by decide, by decide +kernel⟩
abbrev K_X_hindranceOfOpening : mm_KI := (y_X_hindranceOfOpening, b_X_hindranceOfOpening, 4, (some FieldType.int), { frames := 3, cells := 0, slots := 0, locals := 70 })
theorem jf_X_hindranceOfOpening : mm_jf K_X_hindranceOfOpening 3 := ⟨(List.mem_of_getElem? (i := 461) (by decide +kernel)), (List.mem_of_getElem? (i := 63) (by decide +kernel)), by decide, by decide, by decide +kernel⟩
abbrev K_X_isOpenMode : mm_KI := (y_X_isOpenMode, b_X_isOpenMode, 1, (some FieldType.boolean), { frames := 0, cells := 0, slots := 0, locals := 0 })
theorem jf_X_isOpenMode : mm_jf K_X_isOpenMode 1 := ⟨(List.mem_of_getElem? (i := 464) (by decide +kernel)), (List.mem_of_getElem? (i := 63) (by decide +kernel)), by decide, by decide, by decide +kernel⟩
abbrev K_F_isInSnapshot : mm_KI := (y_F_isInSnapshot, b_F_isInSnapshot, 1, (some FieldType.boolean), { frames := 0, cells := 0, slots := 0, locals := 0 })
theorem jf_F_isInSnapshot : mm_jf K_F_isInSnapshot 0 := ⟨(List.mem_of_getElem? (i := 468) (by decide +kernel)), (List.mem_of_getElem? (i := 68) (by decide +kernel)), by decide, by decide, by decide +kernel⟩
abbrev K_X_mayOpen : mm_KI := (y_X_mayOpen, b_X_mayOpen, 5, (some FieldType.boolean), { frames := 2, cells := 0, slots := 0, locals := 46 })
theorem jf_X_mayOpen : mm_jf K_X_mayOpen 3 := ⟨(List.mem_of_getElem? (i := 472) (by decide +kernel)), (List.mem_of_getElem? (i := 63) (by decide +kernel)), by decide, by decide, by decide +kernel⟩
abbrev K_X_isForReading : mm_KI := (y_X_isForReading, b_X_isForReading, 1, (some FieldType.boolean), { frames := 0, cells := 0, slots := 0, locals := 0 })
theorem jf_X_isForReading : mm_jf K_X_isForReading 1 := ⟨(List.mem_of_getElem? (i := 475) (by decide +kernel)), (List.mem_of_getElem? (i := 63) (by decide +kernel)), by decide, by decide, by decide +kernel⟩
abbrev K_X_isForWriting : mm_KI := (y_X_isForWriting, b_X_isForWriting, 1, (some FieldType.boolean), { frames := 0, cells := 0, slots := 0, locals := 0 })
theorem jf_X_isForWriting : mm_jf K_X_isForWriting 1 := ⟨(List.mem_of_getElem? (i := 478) (by decide +kernel)), (List.mem_of_getElem? (i := 63) (by decide +kernel)), by decide, by decide, by decide +kernel⟩
abbrev K_S_above : mm_KI := (y_S_above, b_S_above, 3, (some (FieldType.object "SnapshotFiles$Block")), { frames := 1, cells := 0, slots := 0, locals := 24 })
theorem jf_S_above : mm_jf K_S_above 2 := ⟨(List.mem_of_getElem? (i := 482) (by decide +kernel)), (List.mem_of_getElem? (i := 64) (by decide +kernel)), by decide, by decide, by decide +kernel⟩
abbrev K_X_isOpen : mm_KI := (y_X_isOpen, b_X_isOpen, 4, (some FieldType.boolean), { frames := 1, cells := 0, slots := 0, locals := 23 })
theorem jf_X_isOpen : mm_jf K_X_isOpen 2 := ⟨(List.mem_of_getElem? (i := 488) (by decide +kernel)), (List.mem_of_getElem? (i := 63) (by decide +kernel)), by decide, by decide, by decide +kernel⟩
abbrev K_C_hasOpen : mm_KI := (y_C_hasOpen, b_C_hasOpen, 4, (some FieldType.boolean), { frames := 0, cells := 0, slots := 0, locals := 0 })
theorem jf_C_hasOpen : mm_jf K_C_hasOpen 2 := ⟨(List.mem_of_getElem? (i := 492) (by decide +kernel)), (List.mem_of_getElem? (i := 67) (by decide +kernel)), by decide, by decide, by decide +kernel⟩
abbrev K_S_hasRoom : mm_KI := (y_S_hasRoom, b_S_hasRoom, 6, (some FieldType.boolean), { frames := 2, cells := 0, slots := 0, locals := 46 })
theorem jf_S_hasRoom : mm_jf K_S_hasRoom 2 := ⟨(List.mem_of_getElem? (i := 496) (by decide +kernel)), (List.mem_of_getElem? (i := 64) (by decide +kernel)), by decide, by decide, by decide +kernel⟩
abbrev K_B_isInOthersThan : mm_KI := (y_B_isInOthersThan, b_B_isInOthersThan, 2, (some FieldType.boolean), { frames := 0, cells := 0, slots := 0, locals := 0 })
theorem jf_B_isInOthersThan : mm_jf K_B_isInOthersThan 1 := ⟨(List.mem_of_getElem? (i := 500) (by decide +kernel)), (List.mem_of_getElem? (i := 65) (by decide +kernel)), by decide, by decide, by decide +kernel⟩
abbrev K_S_countBlocks : mm_KI := (y_S_countBlocks, b_S_countBlocks, 3, (some FieldType.int), { frames := 0, cells := 0, slots := 0, locals := 0 })
theorem jf_S_countBlocks : mm_jf K_S_countBlocks 0 := ⟨(List.mem_of_getElem? (i := 505) (by decide +kernel)), (List.mem_of_getElem? (i := 64) (by decide +kernel)), by decide, by decide, by decide +kernel⟩
abbrev K_S_change : mm_KI := (y_S_change, b_S_change, 5, (some (FieldType.object "SnapshotFiles$Block")), { frames := 2, cells := 0, slots := 0, locals := 46 })
theorem jf_S_change : mm_jf K_S_change 1 := ⟨(List.mem_of_getElem? (i := 509) (by decide +kernel)), (List.mem_of_getElem? (i := 64) (by decide +kernel)), by decide, by decide, by decide +kernel⟩
abbrev K_S_ownBlockOf : mm_KI := (y_S_ownBlockOf, b_S_ownBlockOf, 3, (some (FieldType.object "SnapshotFiles$Block")), { frames := 1, cells := 0, slots := 0, locals := 22 })
theorem jf_S_ownBlockOf : mm_jf K_S_ownBlockOf 1 := ⟨(List.mem_of_getElem? (i := 513) (by decide +kernel)), (List.mem_of_getElem? (i := 64) (by decide +kernel)), by decide, by decide, by decide +kernel⟩
abbrev K_S_freeBlock : mm_KI := (y_S_freeBlock, b_S_freeBlock, 2, (some (FieldType.object "SnapshotFiles$Block")), { frames := 0, cells := 0, slots := 0, locals := 0 })
theorem jf_S_freeBlock : mm_jf K_S_freeBlock 0 := ⟨(List.mem_of_getElem? (i := 517) (by decide +kernel)), (List.mem_of_getElem? (i := 64) (by decide +kernel)), by decide, by decide, by decide +kernel⟩
abbrev K_B_copyNodeFrom : mm_KI := (y_B_copyNodeFrom, b_B_copyNodeFrom, 3, none, { frames := 0, cells := 0, slots := 0, locals := 0 })
theorem jf_B_copyNodeFrom : mm_jf K_B_copyNodeFrom 1 := ⟨(List.mem_of_getElem? (i := 521) (by decide +kernel)), (List.mem_of_getElem? (i := 65) (by decide +kernel)), by decide, by decide, by decide +kernel⟩
abbrev K_B_leave : mm_KI := (y_B_leave, b_B_leave, 2, none, { frames := 0, cells := 0, slots := 0, locals := 0 })
theorem jf_B_leave : mm_jf K_B_leave 1 := ⟨(List.mem_of_getElem? (i := 525) (by decide +kernel)), (List.mem_of_getElem? (i := 65) (by decide +kernel)), by decide, by decide, by decide +kernel⟩
abbrev K_B_setLength : mm_KI := (y_B_setLength, b_B_setLength, 3, none, { frames := 0, cells := 0, slots := 0, locals := 0 })
theorem jf_B_setLength : mm_jf K_B_setLength 1 := ⟨(List.mem_of_getElem? (i := 529) (by decide +kernel)), (List.mem_of_getElem? (i := 65) (by decide +kernel)), by decide, by decide, by decide +kernel⟩
abbrev K_F_openAs : mm_KI := (y_F_openAs, b_F_openAs, 2, none, { frames := 0, cells := 0, slots := 0, locals := 0 })
theorem jf_F_openAs : mm_jf K_F_openAs 1 := ⟨(List.mem_of_getElem? (i := 533) (by decide +kernel)), (List.mem_of_getElem? (i := 68) (by decide +kernel)), by decide, by decide, by decide +kernel⟩
abbrev K_X_create : mm_KI := (y_X_create, b_X_create, 8, (some FieldType.int), { frames := 4, cells := 0, slots := 0, locals := 98 })
theorem jf_X_create : mm_jf K_X_create 4 := ⟨(List.mem_of_getElem? (i := 537) (by decide +kernel)), (List.mem_of_getElem? (i := 63) (by decide +kernel)), by decide, by decide, by decide +kernel⟩
abbrev K_X_hindranceOfCreating : mm_KI := (y_X_hindranceOfCreating, b_X_hindranceOfCreating, 6, (some FieldType.int), { frames := 3, cells := 0, slots := 0, locals := 73 })
theorem jf_X_hindranceOfCreating : mm_jf K_X_hindranceOfCreating 5 := ⟨(List.mem_of_getElem? (i := 541) (by decide +kernel)), (List.mem_of_getElem? (i := 63) (by decide +kernel)), by decide, by decide, by decide +kernel⟩
abbrev K_X_isTitle : mm_KI := (y_X_isTitle, b_X_isTitle, 1, (some FieldType.boolean), { frames := 0, cells := 0, slots := 0, locals := 0 })
theorem jf_X_isTitle : mm_jf K_X_isTitle 1 := ⟨(List.mem_of_getElem? (i := 544) (by decide +kernel)), (List.mem_of_getElem? (i := 63) (by decide +kernel)), by decide, by decide, by decide +kernel⟩
abbrev K_S_hasRoomIn : mm_KI := (y_S_hasRoomIn, b_S_hasRoomIn, 2, (some FieldType.boolean), { frames := 3, cells := 0, slots := 0, locals := 71 })
theorem jf_S_hasRoomIn : mm_jf K_S_hasRoomIn 1 := ⟨(List.mem_of_getElem? (i := 548) (by decide +kernel)), (List.mem_of_getElem? (i := 64) (by decide +kernel)), by decide, by decide, by decide +kernel⟩
abbrev K_S_countChildren : mm_KI := (y_S_countChildren, b_S_countChildren, 5, (some FieldType.int), { frames := 1, cells := 0, slots := 0, locals := 22 })
theorem jf_S_countChildren : mm_jf K_S_countChildren 2 := ⟨(List.mem_of_getElem? (i := 552) (by decide +kernel)), (List.mem_of_getElem? (i := 64) (by decide +kernel)), by decide, by decide, by decide +kernel⟩
abbrev K_S_countAbove : mm_KI := (y_S_countAbove, b_S_countAbove, 5, (some FieldType.int), { frames := 2, cells := 0, slots := 0, locals := 46 })
theorem jf_S_countAbove : mm_jf K_S_countAbove 1 := ⟨(List.mem_of_getElem? (i := 556) (by decide +kernel)), (List.mem_of_getElem? (i := 64) (by decide +kernel)), by decide, by decide, by decide +kernel⟩
abbrev K_S_countNodes : mm_KI := (y_S_countNodes, b_S_countNodes, 3, (some FieldType.int), { frames := 1, cells := 0, slots := 0, locals := 21 })
theorem jf_S_countNodes : mm_jf K_S_countNodes 0 := ⟨(List.mem_of_getElem? (i := 560) (by decide +kernel)), (List.mem_of_getElem? (i := 64) (by decide +kernel)), by decide, by decide, by decide +kernel⟩
abbrev K_B_isIn : mm_KI := (y_B_isIn, b_B_isIn, 2, (some FieldType.boolean), { frames := 0, cells := 0, slots := 0, locals := 0 })
theorem jf_B_isIn : mm_jf K_B_isIn 1 := ⟨(List.mem_of_getElem? (i := 564) (by decide +kernel)), (List.mem_of_getElem? (i := 65) (by decide +kernel)), by decide, by decide, by decide +kernel⟩
abbrev K_S_add : mm_KI := (y_S_add, b_S_add, 8, (some (FieldType.object "SnapshotFiles$Block")), { frames := 1, cells := 0, slots := 0, locals := 26 })
theorem jf_S_add : mm_jf K_S_add 4 := ⟨(List.mem_of_getElem? (i := 569) (by decide +kernel)), (List.mem_of_getElem? (i := 64) (by decide +kernel)), by decide, by decide, by decide +kernel⟩
abbrev K_X_read : mm_KI := (y_X_read, b_X_read, 6, (some FieldType.int), { frames := 3, cells := 0, slots := 0, locals := 76 })
theorem jf_X_read : mm_jf K_X_read 3 := ⟨(List.mem_of_getElem? (i := 573) (by decide +kernel)), (List.mem_of_getElem? (i := 63) (by decide +kernel)), by decide, by decide, by decide +kernel⟩
abbrev K_X_readBytes : mm_KI := (y_X_readBytes, b_X_readBytes, 6, (some FieldType.int), { frames := 1, cells := 0, slots := 0, locals := 21 })
theorem jf_X_readBytes : mm_jf K_X_readBytes 3 := ⟨(List.mem_of_getElem? (i := 577) (by decide +kernel)), (List.mem_of_getElem? (i := 63) (by decide +kernel)), by decide, by decide, by decide +kernel⟩
abbrev K_B_byteAt : mm_KI := (y_B_byteAt, b_B_byteAt, 2, (some FieldType.int), { frames := 0, cells := 0, slots := 0, locals := 0 })
theorem jf_B_byteAt : mm_jf K_B_byteAt 1 := ⟨(List.mem_of_getElem? (i := 581) (by decide +kernel)), (List.mem_of_getElem? (i := 65) (by decide +kernel)), by decide, by decide, by decide +kernel⟩
abbrev K_X_readTitles : mm_KI := (y_X_readTitles, b_X_readTitles, 8, (some FieldType.int), { frames := 2, cells := 0, slots := 0, locals := 49 })
theorem jf_X_readTitles : mm_jf K_X_readTitles 4 := ⟨(List.mem_of_getElem? (i := 585) (by decide +kernel)), (List.mem_of_getElem? (i := 63) (by decide +kernel)), by decide, by decide, by decide +kernel⟩
abbrev K_X_write : mm_KI := (y_X_write, b_X_write, 7, (some FieldType.int), { frames := 3, cells := 0, slots := 0, locals := 71 })
theorem jf_X_write : mm_jf K_X_write 2 := ⟨(List.mem_of_getElem? (i := 590) (by decide +kernel)), (List.mem_of_getElem? (i := 63) (by decide +kernel)), by decide, by decide, by decide +kernel⟩
abbrev K_X_areBytes : mm_KI := (y_X_areBytes, b_X_areBytes, 2, (some FieldType.boolean), { frames := 1, cells := 0, slots := 0, locals := 21 })
theorem jf_X_areBytes : mm_jf K_X_areBytes 1 := ⟨(List.mem_of_getElem? (i := 593) (by decide +kernel)), (List.mem_of_getElem? (i := 63) (by decide +kernel)), by decide, by decide, by decide +kernel⟩
abbrev K_B_putBytes : mm_KI := (y_B_putBytes, b_B_putBytes, 5, none, { frames := 1, cells := 0, slots := 0, locals := 22 })
theorem jf_B_putBytes : mm_jf K_B_putBytes 2 := ⟨(List.mem_of_getElem? (i := 597) (by decide +kernel)), (List.mem_of_getElem? (i := 65) (by decide +kernel)), by decide, by decide, by decide +kernel⟩
abbrev K_X_clunk : mm_KI := (y_X_clunk, b_X_clunk, 3, (some FieldType.int), { frames := 4, cells := 0, slots := 0, locals := 96 })
theorem jf_X_clunk : mm_jf K_X_clunk 1 := ⟨(List.mem_of_getElem? (i := 606) (by decide +kernel)), (List.mem_of_getElem? (i := 63) (by decide +kernel)), by decide, by decide, by decide +kernel⟩
abbrev K_F_free : mm_KI := (y_F_free, b_F_free, 1, none, { frames := 0, cells := 0, slots := 0, locals := 0 })
theorem jf_F_free : mm_jf K_F_free 0 := ⟨(List.mem_of_getElem? (i := 610) (by decide +kernel)), (List.mem_of_getElem? (i := 68) (by decide +kernel)), by decide, by decide, by decide +kernel⟩
abbrev K_X_removeNode : mm_KI := (y_X_removeNode, b_X_removeNode, 6, (some FieldType.int), { frames := 3, cells := 0, slots := 0, locals := 71 })
theorem jf_X_removeNode : mm_jf K_X_removeNode 3 := ⟨(List.mem_of_getElem? (i := 614) (by decide +kernel)), (List.mem_of_getElem? (i := 63) (by decide +kernel)), by decide, by decide, by decide +kernel⟩
abbrev K_X_remove : mm_KI := (y_X_remove, b_X_remove, 2, (some FieldType.int), { frames := 4, cells := 0, slots := 0, locals := 96 })
theorem jf_X_remove : mm_jf K_X_remove 1 := ⟨(List.mem_of_getElem? (i := 620) (by decide +kernel)), (List.mem_of_getElem? (i := 63) (by decide +kernel)), by decide, by decide, by decide +kernel⟩
abbrev K_X_stat : mm_KI := (y_X_stat, b_X_stat, 3, (some FieldType.int), { frames := 3, cells := 0, slots := 0, locals := 63 })
theorem jf_X_stat : mm_jf K_X_stat 1 := ⟨(List.mem_of_getElem? (i := 624) (by decide +kernel)), (List.mem_of_getElem? (i := 63) (by decide +kernel)), by decide, by decide, by decide +kernel⟩
abbrev K_X_wstat : mm_KI := (y_X_wstat, b_X_wstat, 4, (some FieldType.int), { frames := 4, cells := 0, slots := 0, locals := 98 })
theorem jf_X_wstat : mm_jf K_X_wstat 2 := ⟨(List.mem_of_getElem? (i := 628) (by decide +kernel)), (List.mem_of_getElem? (i := 63) (by decide +kernel)), by decide, by decide, by decide +kernel⟩
abbrev K_W_become : mm_KI := (y_W_become, b_W_become, 2, none, { frames := 1, cells := 0, slots := 0, locals := 21 })
theorem jf_W_become : mm_jf K_W_become 1 := ⟨(List.mem_of_getElem? (i := 632) (by decide +kernel)), (List.mem_of_getElem? (i := 71) (by decide +kernel)), by decide, by decide, by decide +kernel⟩
abbrev K_W_canBe : mm_KI := (y_W_canBe, b_W_canBe, 2, (some FieldType.boolean), { frames := 2, cells := 0, slots := 0, locals := 41 })
theorem jf_W_canBe : mm_jf K_W_canBe 1 := ⟨(List.mem_of_getElem? (i := 637) (by decide +kernel)), (List.mem_of_getElem? (i := 71) (by decide +kernel)), by decide, by decide, by decide +kernel⟩
abbrev K_X_mayWish : mm_KI := (y_X_mayWish, b_X_mayWish, 3, (some FieldType.boolean), { frames := 2, cells := 0, slots := 0, locals := 46 })
theorem jf_X_mayWish : mm_jf K_X_mayWish 2 := ⟨(List.mem_of_getElem? (i := 644) (by decide +kernel)), (List.mem_of_getElem? (i := 63) (by decide +kernel)), by decide, by decide, by decide +kernel⟩
abbrev K_X_fulfilFor : mm_KI := (y_X_fulfilFor, b_X_fulfilFor, 6, (some FieldType.int), { frames := 3, cells := 0, slots := 0, locals := 73 })
theorem jf_X_fulfilFor : mm_jf K_X_fulfilFor 1 := ⟨(List.mem_of_getElem? (i := 648) (by decide +kernel)), (List.mem_of_getElem? (i := 63) (by decide +kernel)), by decide, by decide, by decide +kernel⟩
abbrev K_W_changesNoMoreThanTitle : mm_KI := (y_W_changesNoMoreThanTitle, b_W_changesNoMoreThanTitle, 1, (some FieldType.boolean), { frames := 0, cells := 0, slots := 0, locals := 0 })
theorem jf_W_changesNoMoreThanTitle : mm_jf K_W_changesNoMoreThanTitle 0 := ⟨(List.mem_of_getElem? (i := 652) (by decide +kernel)), (List.mem_of_getElem? (i := 71) (by decide +kernel)), by decide, by decide, by decide +kernel⟩
abbrev K_W_applyTo : mm_KI := (y_W_applyTo, b_W_applyTo, 2, none, { frames := 1, cells := 0, slots := 0, locals := 22 })
theorem jf_W_applyTo : mm_jf K_W_applyTo 1 := ⟨(List.mem_of_getElem? (i := 656) (by decide +kernel)), (List.mem_of_getElem? (i := 71) (by decide +kernel)), by decide, by decide, by decide +kernel⟩
abbrev K_X_flush : mm_KI := (y_X_flush, b_X_flush, 4, (some FieldType.boolean), { frames := 2, cells := 0, slots := 0, locals := 44 })
theorem jf_X_flush : mm_jf K_X_flush 2 := ⟨(List.mem_of_getElem? (i := 661) (by decide +kernel)), (List.mem_of_getElem? (i := 63) (by decide +kernel)), by decide, by decide, by decide +kernel⟩
abbrev K_X_hangUp : mm_KI := (y_X_hangUp, b_X_hangUp, 4, (some FieldType.boolean), { frames := 5, cells := 0, slots := 0, locals := 118 })
theorem jf_X_hangUp : mm_jf K_X_hangUp 1 := ⟨(List.mem_of_getElem? (i := 665) (by decide +kernel)), (List.mem_of_getElem? (i := 63) (by decide +kernel)), by decide, by decide, by decide +kernel⟩
abbrev K_C_dropRequests : mm_KI := (y_C_dropRequests, b_C_dropRequests, 2, none, { frames := 0, cells := 0, slots := 0, locals := 0 })
theorem jf_C_dropRequests : mm_jf K_C_dropRequests 0 := ⟨(List.mem_of_getElem? (i := 669) (by decide +kernel)), (List.mem_of_getElem? (i := 67) (by decide +kernel)), by decide, by decide, by decide +kernel⟩
abbrev K_X_reply : mm_KI := (y_X_reply, b_X_reply, 2, (some FieldType.int), { frames := 1, cells := 0, slots := 0, locals := 21 })
theorem jf_X_reply : mm_jf K_X_reply 1 := ⟨(List.mem_of_getElem? (i := 673) (by decide +kernel)), (List.mem_of_getElem? (i := 63) (by decide +kernel)), by decide, by decide, by decide +kernel⟩
abbrev K_X_waiting : mm_KI := (y_X_waiting, b_X_waiting, 3, (some FieldType.int), { frames := 1, cells := 0, slots := 0, locals := 22 })
theorem jf_X_waiting : mm_jf K_X_waiting 1 := ⟨(List.mem_of_getElem? (i := 677) (by decide +kernel)), (List.mem_of_getElem? (i := 63) (by decide +kernel)), by decide, by decide, by decide +kernel⟩
abbrev K_C_countRequests : mm_KI := (y_C_countRequests, b_C_countRequests, 3, (some FieldType.int), { frames := 0, cells := 0, slots := 0, locals := 0 })
theorem jf_C_countRequests : mm_jf K_C_countRequests 0 := ⟨(List.mem_of_getElem? (i := 681) (by decide +kernel)), (List.mem_of_getElem? (i := 67) (by decide +kernel)), by decide, by decide, by decide +kernel⟩
abbrev K_X_fid : mm_KI := (y_X_fid, b_X_fid, 5, (some FieldType.int), { frames := 1, cells := 0, slots := 0, locals := 21 })
theorem jf_X_fid : mm_jf K_X_fid 2 := ⟨(List.mem_of_getElem? (i := 685) (by decide +kernel)), (List.mem_of_getElem? (i := 63) (by decide +kernel)), by decide, by decide, by decide +kernel⟩
abbrev K_X_sync : mm_KI := (y_X_sync, b_X_sync, 3, (some FieldType.int), { frames := 3, cells := 0, slots := 0, locals := 65 })
theorem jf_X_sync : mm_jf K_X_sync 1 := ⟨(List.mem_of_getElem? (i := 689) (by decide +kernel)), (List.mem_of_getElem? (i := 63) (by decide +kernel)), by decide, by decide, by decide +kernel⟩
abbrev K_S_countUnsaved : mm_KI := (y_S_countUnsaved, b_S_countUnsaved, 3, (some FieldType.int), { frames := 1, cells := 0, slots := 0, locals := 21 })
theorem jf_S_countUnsaved : mm_jf K_S_countUnsaved 0 := ⟨(List.mem_of_getElem? (i := 693) (by decide +kernel)), (List.mem_of_getElem? (i := 64) (by decide +kernel)), by decide, by decide, by decide +kernel⟩
abbrev K_S_copyTree : mm_KI := (y_S_copyTree, b_S_copyTree, 4, none, { frames := 1, cells := 0, slots := 0, locals := 21 })
theorem jf_S_copyTree : mm_jf K_S_copyTree 2 := ⟨(List.mem_of_getElem? (i := 697) (by decide +kernel)), (List.mem_of_getElem? (i := 64) (by decide +kernel)), by decide, by decide, by decide +kernel⟩
abbrev K_X_crash : mm_KI := (y_X_crash, b_X_crash, 2, none, { frames := 2, cells := 0, slots := 0, locals := 44 })
theorem jf_X_crash : mm_jf K_X_crash 0 := ⟨(List.mem_of_getElem? (i := 701) (by decide +kernel)), (List.mem_of_getElem? (i := 63) (by decide +kernel)), by decide, by decide, by decide +kernel⟩
abbrev K_C_dropFids : mm_KI := (y_C_dropFids, b_C_dropFids, 2, none, { frames := 1, cells := 0, slots := 0, locals := 20 })
theorem jf_C_dropFids : mm_jf K_C_dropFids 0 := ⟨(List.mem_of_getElem? (i := 705) (by decide +kernel)), (List.mem_of_getElem? (i := 67) (by decide +kernel)), by decide, by decide, by decide +kernel⟩
abbrev K_X_snapshot : mm_KI := (y_X_snapshot, b_X_snapshot, 1, (some FieldType.int), { frames := 3, cells := 0, slots := 0, locals := 64 })
theorem jf_X_snapshot : mm_jf K_X_snapshot 0 := ⟨(List.mem_of_getElem? (i := 710) (by decide +kernel)), (List.mem_of_getElem? (i := 63) (by decide +kernel)), by decide, by decide, by decide +kernel⟩
abbrev K_S_addSnapshot : mm_KI := (y_S_addSnapshot, b_S_addSnapshot, 1, (some FieldType.int), { frames := 2, cells := 0, slots := 0, locals := 44 })
theorem jf_S_addSnapshot : mm_jf K_S_addSnapshot 0 := ⟨(List.mem_of_getElem? (i := 714) (by decide +kernel)), (List.mem_of_getElem? (i := 64) (by decide +kernel)), by decide, by decide, by decide +kernel⟩
abbrev K_X_blocks : mm_KI := (y_X_blocks, b_X_blocks, 1, (some FieldType.int), { frames := 1, cells := 0, slots := 0, locals := 22 })
theorem jf_X_blocks : mm_jf K_X_blocks 0 := ⟨(List.mem_of_getElem? (i := 720) (by decide +kernel)), (List.mem_of_getElem? (i := 63) (by decide +kernel)), by decide, by decide, by decide +kernel⟩
abbrev K_X_nodes : mm_KI := (y_X_nodes, b_X_nodes, 1, (some FieldType.int), { frames := 2, cells := 0, slots := 0, locals := 43 })
theorem jf_X_nodes : mm_jf K_X_nodes 0 := ⟨(List.mem_of_getElem? (i := 725) (by decide +kernel)), (List.mem_of_getElem? (i := 63) (by decide +kernel)), by decide, by decide, by decide +kernel⟩
abbrev K_N_init : mm_KI := (y_N_init, b_N_init, 2, none, { frames := 1, cells := 24, slots := 3218, locals := 21 })
theorem jf_N_init : mm_jf K_N_init 0 := ⟨(List.mem_of_getElem? (i := 731) (by decide +kernel)), (List.mem_of_getElem? (i := 72) (by decide +kernel)), by decide, by decide, by decide +kernel⟩
abbrev K_N_free : mm_KI := (y_N_free, b_N_free, 2, none, { frames := 0, cells := 0, slots := 0, locals := 0 })
theorem jf_N_free : mm_jf K_N_free 0 := ⟨(List.mem_of_getElem? (i := 736) (by decide +kernel)), (List.mem_of_getElem? (i := 72) (by decide +kernel)), by decide, by decide, by decide +kernel⟩
abbrev K_N_member : mm_KI := (y_N_member, b_N_member, 3, (some FieldType.boolean), { frames := 0, cells := 0, slots := 0, locals := 0 })
theorem jf_N_member : mm_jf K_N_member 2 := ⟨(List.mem_of_getElem? (i := 832) (by decide +kernel)), (List.mem_of_getElem? (i := 72) (by decide +kernel)), by decide, by decide, by decide +kernel⟩
abbrev K_N_say : mm_KI := (y_N_say, b_N_say, 2, (some FieldType.boolean), { frames := 0, cells := 0, slots := 0, locals := 0 })
theorem jf_N_say : mm_jf K_N_say 1 := ⟨(List.mem_of_getElem? (i := 836) (by decide +kernel)), (List.mem_of_getElem? (i := 72) (by decide +kernel)), by decide, by decide, by decide +kernel⟩
abbrev K_N_send : mm_KI := (y_N_send, b_N_send, 7, (some FieldType.boolean), { frames := 1, cells := 0, slots := 0, locals := 20 })
theorem jf_N_send : mm_jf K_N_send 4 := ⟨(List.mem_of_getElem? (i := 840) (by decide +kernel)), (List.mem_of_getElem? (i := 72) (by decide +kernel)), by decide, by decide, by decide +kernel⟩
abbrev K_N_isOne : mm_KI := (y_N_isOne, b_N_isOne, 1, (some FieldType.boolean), { frames := 0, cells := 0, slots := 0, locals := 0 })
theorem jf_N_isOne : mm_jf K_N_isOne 1 := ⟨(List.mem_of_getElem? (i := 843) (by decide +kernel)), (List.mem_of_getElem? (i := 72) (by decide +kernel)), by decide, by decide, by decide +kernel⟩
abbrev K_N_flush : mm_KI := (y_N_flush, b_N_flush, 3, (some FieldType.boolean), { frames := 2, cells := 0, slots := 0, locals := 42 })
theorem jf_N_flush : mm_jf K_N_flush 2 := ⟨(List.mem_of_getElem? (i := 847) (by decide +kernel)), (List.mem_of_getElem? (i := 72) (by decide +kernel)), by decide, by decide, by decide +kernel⟩
abbrev K_N_waits : mm_KI := (y_N_waits, b_N_waits, 3, (some FieldType.boolean), { frames := 1, cells := 0, slots := 0, locals := 20 })
theorem jf_N_waits : mm_jf K_N_waits 2 := ⟨(List.mem_of_getElem? (i := 851) (by decide +kernel)), (List.mem_of_getElem? (i := 72) (by decide +kernel)), by decide, by decide, by decide +kernel⟩
abbrev K_N_waiting : mm_KI := (y_N_waiting, b_N_waiting, 4, (some FieldType.int), { frames := 1, cells := 0, slots := 0, locals := 20 })
theorem jf_N_waiting : mm_jf K_N_waiting 1 := ⟨(List.mem_of_getElem? (i := 855) (by decide +kernel)), (List.mem_of_getElem? (i := 72) (by decide +kernel)), by decide, by decide, by decide +kernel⟩
abbrev K_N_reply : mm_KI := (y_N_reply, b_N_reply, 2, (some FieldType.int), { frames := 0, cells := 0, slots := 0, locals := 0 })
theorem jf_N_reply : mm_jf K_N_reply 1 := ⟨(List.mem_of_getElem? (i := 859) (by decide +kernel)), (List.mem_of_getElem? (i := 72) (by decide +kernel)), by decide, by decide, by decide +kernel⟩
abbrev K_N_serve : mm_KI := (y_N_serve, b_N_serve, 7, (some FieldType.int), { frames := 6, cells := 0, slots := 0, locals := 138 })
theorem jf_N_serve : mm_jf K_N_serve 2 := ⟨(List.mem_of_getElem? (i := 863) (by decide +kernel)), (List.mem_of_getElem? (i := 72) (by decide +kernel)), by decide, by decide, by decide +kernel⟩
abbrev K_N_least : mm_KI := (y_N_least, b_N_least, 1, (some FieldType.int), { frames := 0, cells := 0, slots := 0, locals := 0 })
theorem jf_N_least : mm_jf K_N_least 1 := ⟨(List.mem_of_getElem? (i := 866) (by decide +kernel)), (List.mem_of_getElem? (i := 72) (by decide +kernel)), by decide, by decide, by decide +kernel⟩
abbrev K_N_most : mm_KI := (y_N_most, b_N_most, 1, (some FieldType.int), { frames := 1, cells := 0, slots := 0, locals := 20 })
theorem jf_N_most : mm_jf K_N_most 1 := ⟨(List.mem_of_getElem? (i := 869) (by decide +kernel)), (List.mem_of_getElem? (i := 72) (by decide +kernel)), by decide, by decide, by decide +kernel⟩
abbrev K_N_done : mm_KI := (y_N_done, b_N_done, 3, (some FieldType.int), { frames := 5, cells := 0, slots := 0, locals := 116 })
theorem jf_N_done : mm_jf K_N_done 2 := ⟨(List.mem_of_getElem? (i := 873) (by decide +kernel)), (List.mem_of_getElem? (i := 72) (by decide +kernel)), by decide, by decide, by decide +kernel⟩
abbrev K_N_attach : mm_KI := (y_N_attach, b_N_attach, 3, (some FieldType.int), { frames := 2, cells := 0, slots := 0, locals := 44 })
theorem jf_N_attach : mm_jf K_N_attach 1 := ⟨(List.mem_of_getElem? (i := 877) (by decide +kernel)), (List.mem_of_getElem? (i := 72) (by decide +kernel)), by decide, by decide, by decide +kernel⟩
abbrev K_N_nodeOf : mm_KI := (y_N_nodeOf, b_N_nodeOf, 2, (some FieldType.int), { frames := 1, cells := 0, slots := 0, locals := 23 })
theorem jf_N_nodeOf : mm_jf K_N_nodeOf 1 := ⟨(List.mem_of_getElem? (i := 881) (by decide +kernel)), (List.mem_of_getElem? (i := 72) (by decide +kernel)), by decide, by decide, by decide +kernel⟩
abbrev K_N_cell : mm_KI := (y_N_cell, b_N_cell, 4, (some FieldType.int), { frames := 0, cells := 0, slots := 0, locals := 0 })
theorem jf_N_cell : mm_jf K_N_cell 2 := ⟨(List.mem_of_getElem? (i := 885) (by decide +kernel)), (List.mem_of_getElem? (i := 72) (by decide +kernel)), by decide, by decide, by decide +kernel⟩
abbrev K_N_tell : mm_KI := (y_N_tell, b_N_tell, 2, none, { frames := 0, cells := 0, slots := 0, locals := 0 })
theorem jf_N_tell : mm_jf K_N_tell 1 := ⟨(List.mem_of_getElem? (i := 889) (by decide +kernel)), (List.mem_of_getElem? (i := 72) (by decide +kernel)), by decide, by decide, by decide +kernel⟩
abbrev K_N_walk : mm_KI := (y_N_walk, b_N_walk, 8, (some FieldType.int), { frames := 2, cells := 0, slots := 0, locals := 44 })
theorem jf_N_walk : mm_jf K_N_walk 1 := ⟨(List.mem_of_getElem? (i := 893) (by decide +kernel)), (List.mem_of_getElem? (i := 72) (by decide +kernel)), by decide, by decide, by decide +kernel⟩
abbrev K_N_isDirectory : mm_KI := (y_N_isDirectory, b_N_isDirectory, 2, (some FieldType.boolean), { frames := 0, cells := 0, slots := 0, locals := 0 })
theorem jf_N_isDirectory : mm_jf K_N_isDirectory 1 := ⟨(List.mem_of_getElem? (i := 897) (by decide +kernel)), (List.mem_of_getElem? (i := 72) (by decide +kernel)), by decide, by decide, by decide +kernel⟩
abbrev K_N_has : mm_KI := (y_N_has, b_N_has, 5, (some FieldType.boolean), { frames := 0, cells := 0, slots := 0, locals := 0 })
theorem jf_N_has : mm_jf K_N_has 3 := ⟨(List.mem_of_getElem? (i := 901) (by decide +kernel)), (List.mem_of_getElem? (i := 72) (by decide +kernel)), by decide, by decide, by decide +kernel⟩
abbrev K_N_parent : mm_KI := (y_N_parent, b_N_parent, 2, (some FieldType.int), { frames := 1, cells := 0, slots := 0, locals := 23 })
theorem jf_N_parent : mm_jf K_N_parent 1 := ⟨(List.mem_of_getElem? (i := 905) (by decide +kernel)), (List.mem_of_getElem? (i := 72) (by decide +kernel)), by decide, by decide, by decide +kernel⟩
abbrev K_N_child : mm_KI := (y_N_child, b_N_child, 5, (some FieldType.int), { frames := 0, cells := 0, slots := 0, locals := 0 })
theorem jf_N_child : mm_jf K_N_child 2 := ⟨(List.mem_of_getElem? (i := 909) (by decide +kernel)), (List.mem_of_getElem? (i := 72) (by decide +kernel)), by decide, by decide, by decide +kernel⟩
abbrev K_N_opening : mm_KI := (y_N_opening, b_N_opening, 6, (some FieldType.int), { frames := 3, cells := 0, slots := 0, locals := 68 })
theorem jf_N_opening : mm_jf K_N_opening 1 := ⟨(List.mem_of_getElem? (i := 913) (by decide +kernel)), (List.mem_of_getElem? (i := 72) (by decide +kernel)), by decide, by decide, by decide +kernel⟩
abbrev K_N_isOpenMode : mm_KI := (y_N_isOpenMode, b_N_isOpenMode, 1, (some FieldType.boolean), { frames := 0, cells := 0, slots := 0, locals := 0 })
theorem jf_N_isOpenMode : mm_jf K_N_isOpenMode 1 := ⟨(List.mem_of_getElem? (i := 916) (by decide +kernel)), (List.mem_of_getElem? (i := 72) (by decide +kernel)), by decide, by decide, by decide +kernel⟩
abbrev K_N_reads : mm_KI := (y_N_reads, b_N_reads, 2, (some FieldType.boolean), { frames := 0, cells := 0, slots := 0, locals := 0 })
theorem jf_N_reads : mm_jf K_N_reads 1 := ⟨(List.mem_of_getElem? (i := 920) (by decide +kernel)), (List.mem_of_getElem? (i := 72) (by decide +kernel)), by decide, by decide, by decide +kernel⟩
abbrev K_N_writes : mm_KI := (y_N_writes, b_N_writes, 2, (some FieldType.boolean), { frames := 0, cells := 0, slots := 0, locals := 0 })
theorem jf_N_writes : mm_jf K_N_writes 1 := ⟨(List.mem_of_getElem? (i := 924) (by decide +kernel)), (List.mem_of_getElem? (i := 72) (by decide +kernel)), by decide, by decide, by decide +kernel⟩
abbrev K_N_isBusy : mm_KI := (y_N_isBusy, b_N_isBusy, 5, (some FieldType.boolean), { frames := 0, cells := 0, slots := 0, locals := 0 })
theorem jf_N_isBusy : mm_jf K_N_isBusy 2 := ⟨(List.mem_of_getElem? (i := 928) (by decide +kernel)), (List.mem_of_getElem? (i := 72) (by decide +kernel)), by decide, by decide, by decide +kernel⟩
abbrev K_N_needed : mm_KI := (y_N_needed, b_N_needed, 5, (some FieldType.int), { frames := 2, cells := 0, slots := 0, locals := 44 })
theorem jf_N_needed : mm_jf K_N_needed 1 := ⟨(List.mem_of_getElem? (i := 932) (by decide +kernel)), (List.mem_of_getElem? (i := 72) (by decide +kernel)), by decide, by decide, by decide +kernel⟩
abbrev K_N_inOld : mm_KI := (y_N_inOld, b_N_inOld, 4, (some FieldType.boolean), { frames := 0, cells := 0, slots := 0, locals := 0 })
theorem jf_N_inOld : mm_jf K_N_inOld 1 := ⟨(List.mem_of_getElem? (i := 936) (by decide +kernel)), (List.mem_of_getElem? (i := 72) (by decide +kernel)), by decide, by decide, by decide +kernel⟩
abbrev K_N_fits : mm_KI := (y_N_fits, b_N_fits, 2, (some FieldType.boolean), { frames := 1, cells := 0, slots := 0, locals := 24 })
theorem jf_N_fits : mm_jf K_N_fits 1 := ⟨(List.mem_of_getElem? (i := 940) (by decide +kernel)), (List.mem_of_getElem? (i := 72) (by decide +kernel)), by decide, by decide, by decide +kernel⟩
abbrev K_N_blocks : mm_KI := (y_N_blocks, b_N_blocks, 5, (some FieldType.int), { frames := 0, cells := 0, slots := 0, locals := 0 })
theorem jf_N_blocks : mm_jf K_N_blocks 0 := ⟨(List.mem_of_getElem? (i := 944) (by decide +kernel)), (List.mem_of_getElem? (i := 72) (by decide +kernel)), by decide, by decide, by decide +kernel⟩
abbrev K_N_change : mm_KI := (y_N_change, b_N_change, 4, none, { frames := 2, cells := 0, slots := 0, locals := 44 })
theorem jf_N_change : mm_jf K_N_change 1 := ⟨(List.mem_of_getElem? (i := 948) (by decide +kernel)), (List.mem_of_getElem? (i := 72) (by decide +kernel)), by decide, by decide, by decide +kernel⟩
abbrev K_N_create : mm_KI := (y_N_create, b_N_create, 5, (some FieldType.int), { frames := 3, cells := 0, slots := 0, locals := 68 })
theorem jf_N_create : mm_jf K_N_create 1 := ⟨(List.mem_of_getElem? (i := 952) (by decide +kernel)), (List.mem_of_getElem? (i := 72) (by decide +kernel)), by decide, by decide, by decide +kernel⟩
abbrev K_N_children : mm_KI := (y_N_children, b_N_children, 5, (some FieldType.int), { frames := 0, cells := 0, slots := 0, locals := 0 })
theorem jf_N_children : mm_jf K_N_children 1 := ⟨(List.mem_of_getElem? (i := 956) (by decide +kernel)), (List.mem_of_getElem? (i := 72) (by decide +kernel)), by decide, by decide, by decide +kernel⟩
abbrev K_N_depth : mm_KI := (y_N_depth, b_N_depth, 5, (some FieldType.int), { frames := 2, cells := 0, slots := 0, locals := 44 })
theorem jf_N_depth : mm_jf K_N_depth 1 := ⟨(List.mem_of_getElem? (i := 960) (by decide +kernel)), (List.mem_of_getElem? (i := 72) (by decide +kernel)), by decide, by decide, by decide +kernel⟩
abbrev K_N_readFrom : mm_KI := (y_N_readFrom, b_N_readFrom, 6, (some FieldType.int), { frames := 2, cells := 0, slots := 0, locals := 44 })
theorem jf_N_readFrom : mm_jf K_N_readFrom 1 := ⟨(List.mem_of_getElem? (i := 964) (by decide +kernel)), (List.mem_of_getElem? (i := 72) (by decide +kernel)), by decide, by decide, by decide +kernel⟩
abbrev K_N_writeTo : mm_KI := (y_N_writeTo, b_N_writeTo, 7, (some FieldType.int), { frames := 3, cells := 0, slots := 0, locals := 68 })
theorem jf_N_writeTo : mm_jf K_N_writeTo 1 := ⟨(List.mem_of_getElem? (i := 968) (by decide +kernel)), (List.mem_of_getElem? (i := 72) (by decide +kernel)), by decide, by decide, by decide +kernel⟩
abbrev K_N_grow : mm_KI := (y_N_grow, b_N_grow, 4, none, { frames := 0, cells := 0, slots := 0, locals := 0 })
theorem jf_N_grow : mm_jf K_N_grow 2 := ⟨(List.mem_of_getElem? (i := 972) (by decide +kernel)), (List.mem_of_getElem? (i := 72) (by decide +kernel)), by decide, by decide, by decide +kernel⟩
abbrev K_N_clunk : mm_KI := (y_N_clunk, b_N_clunk, 3, (some FieldType.int), { frames := 4, cells := 0, slots := 0, locals := 94 })
theorem jf_N_clunk : mm_jf K_N_clunk 1 := ⟨(List.mem_of_getElem? (i := 976) (by decide +kernel)), (List.mem_of_getElem? (i := 72) (by decide +kernel)), by decide, by decide, by decide +kernel⟩
abbrev K_N_removed : mm_KI := (y_N_removed, b_N_removed, 7, (some FieldType.int), { frames := 3, cells := 0, slots := 0, locals := 68 })
theorem jf_N_removed : mm_jf K_N_removed 3 := ⟨(List.mem_of_getElem? (i := 980) (by decide +kernel)), (List.mem_of_getElem? (i := 72) (by decide +kernel)), by decide, by decide, by decide +kernel⟩
abbrev K_N_copy : mm_KI := (y_N_copy, b_N_copy, 4, none, { frames := 0, cells := 0, slots := 0, locals := 0 })
theorem jf_N_copy : mm_jf K_N_copy 2 := ⟨(List.mem_of_getElem? (i := 984) (by decide +kernel)), (List.mem_of_getElem? (i := 72) (by decide +kernel)), by decide, by decide, by decide +kernel⟩
abbrev K_N_remove : mm_KI := (y_N_remove, b_N_remove, 3, (some FieldType.int), { frames := 4, cells := 0, slots := 0, locals := 94 })
theorem jf_N_remove : mm_jf K_N_remove 1 := ⟨(List.mem_of_getElem? (i := 988) (by decide +kernel)), (List.mem_of_getElem? (i := 72) (by decide +kernel)), by decide, by decide, by decide +kernel⟩
abbrev K_N_stat : mm_KI := (y_N_stat, b_N_stat, 3, (some FieldType.int), { frames := 2, cells := 0, slots := 0, locals := 44 })
theorem jf_N_stat : mm_jf K_N_stat 1 := ⟨(List.mem_of_getElem? (i := 992) (by decide +kernel)), (List.mem_of_getElem? (i := 72) (by decide +kernel)), by decide, by decide, by decide +kernel⟩
abbrev K_N_wstat : mm_KI := (y_N_wstat, b_N_wstat, 8, (some FieldType.int), { frames := 3, cells := 0, slots := 0, locals := 68 })
theorem jf_N_wstat : mm_jf K_N_wstat 1 := ⟨(List.mem_of_getElem? (i := 996) (by decide +kernel)), (List.mem_of_getElem? (i := 72) (by decide +kernel)), by decide, by decide, by decide +kernel⟩
abbrev K_N_within : mm_KI := (y_N_within, b_N_within, 3, (some FieldType.boolean), { frames := 0, cells := 0, slots := 0, locals := 0 })
theorem jf_N_within : mm_jf K_N_within 3 := ⟨(List.mem_of_getElem? (i := 999) (by decide +kernel)), (List.mem_of_getElem? (i := 72) (by decide +kernel)), by decide, by decide, by decide +kernel⟩
abbrev K_N_hangUp : mm_KI := (y_N_hangUp, b_N_hangUp, 3, (some FieldType.boolean), { frames := 5, cells := 0, slots := 0, locals := 116 })
theorem jf_N_hangUp : mm_jf K_N_hangUp 1 := ⟨(List.mem_of_getElem? (i := 1004) (by decide +kernel)), (List.mem_of_getElem? (i := 72) (by decide +kernel)), by decide, by decide, by decide +kernel⟩
abbrev K_N_fid : mm_KI := (y_N_fid, b_N_fid, 4, (some FieldType.int), { frames := 1, cells := 0, slots := 0, locals := 20 })
theorem jf_N_fid : mm_jf K_N_fid 2 := ⟨(List.mem_of_getElem? (i := 1008) (by decide +kernel)), (List.mem_of_getElem? (i := 72) (by decide +kernel)), by decide, by decide, by decide +kernel⟩
abbrev K_N_sync : mm_KI := (y_N_sync, b_N_sync, 4, (some FieldType.int), { frames := 3, cells := 0, slots := 0, locals := 66 })
theorem jf_N_sync : mm_jf K_N_sync 1 := ⟨(List.mem_of_getElem? (i := 1012) (by decide +kernel)), (List.mem_of_getElem? (i := 72) (by decide +kernel)), by decide, by decide, by decide +kernel⟩
abbrev K_N_copyTree : mm_KI := (y_N_copyTree, b_N_copyTree, 4, none, { frames := 1, cells := 0, slots := 0, locals := 23 })
theorem jf_N_copyTree : mm_jf K_N_copyTree 2 := ⟨(List.mem_of_getElem? (i := 1016) (by decide +kernel)), (List.mem_of_getElem? (i := 72) (by decide +kernel)), by decide, by decide, by decide +kernel⟩
abbrev K_N_crash : mm_KI := (y_N_crash, b_N_crash, 1, none, { frames := 2, cells := 0, slots := 0, locals := 46 })
theorem jf_N_crash : mm_jf K_N_crash 0 := ⟨(List.mem_of_getElem? (i := 1020) (by decide +kernel)), (List.mem_of_getElem? (i := 72) (by decide +kernel)), by decide, by decide, by decide +kernel⟩
abbrev K_N_snapshot : mm_KI := (y_N_snapshot, b_N_snapshot, 1, (some FieldType.int), { frames := 4, cells := 0, slots := 0, locals := 89 })
theorem jf_N_snapshot : mm_jf K_N_snapshot 0 := ⟨(List.mem_of_getElem? (i := 1024) (by decide +kernel)), (List.mem_of_getElem? (i := 72) (by decide +kernel)), by decide, by decide, by decide +kernel⟩
abbrev K_N_nodes : mm_KI := (y_N_nodes, b_N_nodes, 1, (some FieldType.int), { frames := 0, cells := 0, slots := 0, locals := 0 })
theorem jf_N_nodes : mm_jf K_N_nodes 0 := ⟨(List.mem_of_getElem? (i := 1030) (by decide +kernel)), (List.mem_of_getElem? (i := 72) (by decide +kernel)), by decide, by decide, by decide +kernel⟩
abbrev K_L_law : mm_KI := (y_L_law, b_L_law, 4, some .boolean, room_1)
