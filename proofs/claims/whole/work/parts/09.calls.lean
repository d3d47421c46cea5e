/-! Each method of ours: what a call of it needs of the tables. -/
theorem ji_X_init : K_X_init.1.name = "<init>" ∧ Jvm.Cond.instanceMethod K_X_init.1 ∈ lw_tbl := ⟨rfl, (List.mem_of_getElem? (i := 77) (by decide +kernel))⟩
theorem ji_S_init : K_S_init.1.name = "<init>" ∧ Jvm.Cond.instanceMethod K_S_init.1 ∈ lw_tbl := ⟨rfl, (List.mem_of_getElem? (i := 85) (by decide +kernel))⟩
theorem ji_B_init : K_B_init.1.name = "<init>" ∧ Jvm.Cond.instanceMethod K_B_init.1 ∈ lw_tbl := ⟨rfl, (List.mem_of_getElem? (i := 92) (by decide +kernel))⟩
theorem jv_B_begin : jv_ok K_B_begin 6 0 := ⟨jf_B_begin, ⟨(List.mem_of_getElem? (i := 150) (by decide +kernel)), (List.mem_of_getElem? (i := 151) (by decide +kernel))⟩, ⟨_, rfl, rfl⟩, rfl, rfl⟩
theorem jv_B_enter : jv_ok K_B_enter 1 0 := ⟨jf_B_enter, ⟨(List.mem_of_getElem? (i := 154) (by decide +kernel)), (List.mem_of_getElem? (i := 155) (by decide +kernel))⟩, ⟨_, rfl, rfl⟩, rfl, rfl⟩
theorem ji_M_init : K_M_init.1.name = "<init>" ∧ Jvm.Cond.instanceMethod K_M_init.1 ∈ lw_tbl := ⟨rfl, (List.mem_of_getElem? (i := 171) (by decide +kernel))⟩
theorem ji_C_init : K_C_init.1.name = "<init>" ∧ Jvm.Cond.instanceMethod K_C_init.1 ∈ lw_tbl := ⟨rfl, (List.mem_of_getElem? (i := 182) (by decide +kernel))⟩
theorem ji_F_init : K_F_init.1.name = "<init>" ∧ Jvm.Cond.instanceMethod K_F_init.1 ∈ lw_tbl := ⟨rfl, (List.mem_of_getElem? (i := 189) (by decide +kernel))⟩
theorem ji_Q_init : K_Q_init.1.name = "<init>" ∧ Jvm.Cond.instanceMethod K_Q_init.1 ∈ lw_tbl := ⟨rfl, (List.mem_of_getElem? (i := 228) (by decide +kernel))⟩
theorem ji_R_init : K_R_init.1.name = "<init>" ∧ Jvm.Cond.instanceMethod K_R_init.1 ∈ lw_tbl := ⟨rfl, (List.mem_of_getElem? (i := 234) (by decide +kernel))⟩
theorem ji_W_init : K_W_init.1.name = "<init>" ∧ Jvm.Cond.instanceMethod K_W_init.1 ∈ lw_tbl := ⟨rfl, (List.mem_of_getElem? (i := 277) (by decide +kernel))⟩
theorem jv_X_member : jv_ok K_X_member 2 8 := ⟨jf_X_member, ⟨(List.mem_of_getElem? (i := 317) (by decide +kernel)), (List.mem_of_getElem? (i := 318) (by decide +kernel))⟩, ⟨_, rfl, rfl⟩, rfl, rfl⟩
theorem js_X_isUser : js_ok K_X_isUser 1 := ⟨jf_X_isUser, (List.mem_of_getElem? (i := 321) (by decide +kernel)), rfl, rfl⟩
theorem jv_M_isIn : jv_ok K_M_isIn 2 3 := ⟨jf_M_isIn, ⟨(List.mem_of_getElem? (i := 324) (by decide +kernel)), (List.mem_of_getElem? (i := 325) (by decide +kernel))⟩, ⟨_, rfl, rfl⟩, rfl, rfl⟩
theorem jv_M_join : jv_ok K_M_join 2 3 := ⟨jf_M_join, ⟨(List.mem_of_getElem? (i := 328) (by decide +kernel)), (List.mem_of_getElem? (i := 329) (by decide +kernel))⟩, ⟨_, rfl, rfl⟩, rfl, rfl⟩
theorem jv_X_say : jv_ok K_X_say 1 8 := ⟨jf_X_say, ⟨(List.mem_of_getElem? (i := 332) (by decide +kernel)), (List.mem_of_getElem? (i := 333) (by decide +kernel))⟩, ⟨_, rfl, rfl⟩, rfl, rfl⟩
theorem jv_R_add : jv_ok K_R_add 1 5 := ⟨jf_R_add, ⟨(List.mem_of_getElem? (i := 336) (by decide +kernel)), (List.mem_of_getElem? (i := 337) (by decide +kernel))⟩, ⟨_, rfl, rfl⟩, rfl, rfl⟩
theorem jv_X_send : jv_ok K_X_send 4 8 := ⟨jf_X_send, ⟨(List.mem_of_getElem? (i := 340) (by decide +kernel)), (List.mem_of_getElem? (i := 341) (by decide +kernel))⟩, ⟨_, rfl, rfl⟩, rfl, rfl⟩
theorem jv_X_requestAt : jv_ok K_X_requestAt 2 8 := ⟨jf_X_requestAt, ⟨(List.mem_of_getElem? (i := 345) (by decide +kernel)), (List.mem_of_getElem? (i := 0) (by decide +kernel))⟩, ⟨_, rfl, rfl⟩, rfl, rfl⟩
theorem jv_X_connectionAt : jv_ok K_X_connectionAt 1 8 := ⟨jf_X_connectionAt, ⟨(List.mem_of_getElem? (i := 349) (by decide +kernel)), (List.mem_of_getElem? (i := 1) (by decide +kernel))⟩, ⟨_, rfl, rfl⟩, rfl, rfl⟩
theorem jv_C_requestAt : jv_ok K_C_requestAt 1 1 := ⟨jf_C_requestAt, ⟨(List.mem_of_getElem? (i := 352) (by decide +kernel)), (List.mem_of_getElem? (i := 353) (by decide +kernel))⟩, ⟨_, rfl, rfl⟩, rfl, rfl⟩
theorem jv_Q_begin : jv_ok K_Q_begin 3 4 := ⟨jf_Q_begin, ⟨(List.mem_of_getElem? (i := 356) (by decide +kernel)), (List.mem_of_getElem? (i := 357) (by decide +kernel))⟩, ⟨_, rfl, rfl⟩, rfl, rfl⟩
theorem jv_R_copyFrom : jv_ok K_R_copyFrom 1 5 := ⟨jf_R_copyFrom, ⟨(List.mem_of_getElem? (i := 360) (by decide +kernel)), (List.mem_of_getElem? (i := 361) (by decide +kernel))⟩, ⟨_, rfl, rfl⟩, rfl, rfl⟩
theorem jv_R_clear : jv_ok K_R_clear 0 5 := ⟨jf_R_clear, ⟨(List.mem_of_getElem? (i := 364) (by decide +kernel)), (List.mem_of_getElem? (i := 365) (by decide +kernel))⟩, ⟨_, rfl, rfl⟩, rfl, rfl⟩
theorem jv_R_at : jv_ok K_R_at 1 5 := ⟨jf_R_at, ⟨(List.mem_of_getElem? (i := 368) (by decide +kernel)), (List.mem_of_getElem? (i := 369) (by decide +kernel))⟩, ⟨_, rfl, rfl⟩, rfl, rfl⟩
theorem jv_X_serve : jv_ok K_X_serve 2 8 := ⟨jf_X_serve, ⟨(List.mem_of_getElem? (i := 374) (by decide +kernel)), (List.mem_of_getElem? (i := 375) (by decide +kernel))⟩, ⟨_, rfl, rfl⟩, rfl, rfl⟩
theorem jv_X_answer : jv_ok K_X_answer 2 8 := ⟨jf_X_answer, ⟨(List.mem_of_getElem? (i := 379) (by decide +kernel)), (List.mem_of_getElem? (i := 2) (by decide +kernel))⟩, ⟨_, rfl, rfl⟩, rfl, rfl⟩
theorem jv_C_fidAt : jv_ok K_C_fidAt 1 1 := ⟨jf_C_fidAt, ⟨(List.mem_of_getElem? (i := 382) (by decide +kernel)), (List.mem_of_getElem? (i := 383) (by decide +kernel))⟩, ⟨_, rfl, rfl⟩, rfl, rfl⟩
theorem js_X_hasItsNumbers : js_ok K_X_hasItsNumbers 2 := ⟨jf_X_hasItsNumbers, (List.mem_of_getElem? (i := 386) (by decide +kernel)), rfl, rfl⟩
theorem jv_X_attach : jv_ok K_X_attach 3 8 := ⟨jf_X_attach, ⟨(List.mem_of_getElem? (i := 395) (by decide +kernel)), (List.mem_of_getElem? (i := 3) (by decide +kernel))⟩, ⟨_, rfl, rfl⟩, rfl, rfl⟩
theorem jv_S_find : jv_ok K_S_find 2 6 := ⟨jf_S_find, ⟨(List.mem_of_getElem? (i := 398) (by decide +kernel)), (List.mem_of_getElem? (i := 399) (by decide +kernel))⟩, ⟨_, rfl, rfl⟩, rfl, rfl⟩
theorem jv_F_take : jv_ok K_F_take 3 2 := ⟨jf_F_take, ⟨(List.mem_of_getElem? (i := 402) (by decide +kernel)), (List.mem_of_getElem? (i := 403) (by decide +kernel))⟩, ⟨_, rfl, rfl⟩, rfl, rfl⟩
theorem jv_X_replyWithMode : jv_ok K_X_replyWithMode 1 8 := ⟨jf_X_replyWithMode, ⟨(List.mem_of_getElem? (i := 407) (by decide +kernel)), (List.mem_of_getElem? (i := 4) (by decide +kernel))⟩, ⟨_, rfl, rfl⟩, rfl, rfl⟩
theorem jv_X_replyWithVersion : jv_ok K_X_replyWithVersion 1 8 := ⟨jf_X_replyWithVersion, ⟨(List.mem_of_getElem? (i := 411) (by decide +kernel)), (List.mem_of_getElem? (i := 5) (by decide +kernel))⟩, ⟨_, rfl, rfl⟩, rfl, rfl⟩
theorem jv_X_walk : jv_ok K_X_walk 3 8 := ⟨jf_X_walk, ⟨(List.mem_of_getElem? (i := 415) (by decide +kernel)), (List.mem_of_getElem? (i := 6) (by decide +kernel))⟩, ⟨_, rfl, rfl⟩, rfl, rfl⟩
theorem jv_X_nodeOf : jv_ok K_X_nodeOf 1 8 := ⟨jf_X_nodeOf, ⟨(List.mem_of_getElem? (i := 419) (by decide +kernel)), (List.mem_of_getElem? (i := 7) (by decide +kernel))⟩, ⟨_, rfl, rfl⟩, rfl, rfl⟩
theorem jv_X_walkTitles : jv_ok K_X_walkTitles 4 8 := ⟨jf_X_walkTitles, ⟨(List.mem_of_getElem? (i := 423) (by decide +kernel)), (List.mem_of_getElem? (i := 8) (by decide +kernel))⟩, ⟨_, rfl, rfl⟩, rfl, rfl⟩
theorem jv_S_child : jv_ok K_S_child 3 6 := ⟨jf_S_child, ⟨(List.mem_of_getElem? (i := 426) (by decide +kernel)), (List.mem_of_getElem? (i := 427) (by decide +kernel))⟩, ⟨_, rfl, rfl⟩, rfl, rfl⟩
theorem jv_S_childBehind : jv_ok K_S_childBehind 3 6 := ⟨jf_S_childBehind, ⟨(List.mem_of_getElem? (i := 430) (by decide +kernel)), (List.mem_of_getElem? (i := 431) (by decide +kernel))⟩, ⟨_, rfl, rfl⟩, rfl, rfl⟩
theorem jv_B_isNodeOf : jv_ok K_B_isNodeOf 2 0 := ⟨jf_B_isNodeOf, ⟨(List.mem_of_getElem? (i := 434) (by decide +kernel)), (List.mem_of_getElem? (i := 435) (by decide +kernel))⟩, ⟨_, rfl, rfl⟩, rfl, rfl⟩
theorem jv_X_hindranceOfStep : jv_ok K_X_hindranceOfStep 3 8 := ⟨jf_X_hindranceOfStep, ⟨(List.mem_of_getElem? (i := 439) (by decide +kernel)), (List.mem_of_getElem? (i := 9) (by decide +kernel))⟩, ⟨_, rfl, rfl⟩, rfl, rfl⟩
theorem jv_B_isDirectory : jv_ok K_B_isDirectory 0 0 := ⟨jf_B_isDirectory, ⟨(List.mem_of_getElem? (i := 442) (by decide +kernel)), (List.mem_of_getElem? (i := 443) (by decide +kernel))⟩, ⟨_, rfl, rfl⟩, rfl, rfl⟩
theorem jv_B_is : jv_ok K_B_is 1 0 := ⟨jf_B_is, ⟨(List.mem_of_getElem? (i := 446) (by decide +kernel)), (List.mem_of_getElem? (i := 447) (by decide +kernel))⟩, ⟨_, rfl, rfl⟩, rfl, rfl⟩
theorem jv_M_may : jv_ok K_M_may 3 3 := ⟨jf_M_may, ⟨(List.mem_of_getElem? (i := 450) (by decide +kernel)), (List.mem_of_getElem? (i := 451) (by decide +kernel))⟩, ⟨_, rfl, rfl⟩, rfl, rfl⟩
theorem jv_X_open : jv_ok K_X_open 2 8 := ⟨jf_X_open, ⟨(List.mem_of_getElem? (i := 456) (by decide +kernel)), (List.mem_of_getElem? (i := 10) (by decide +kernel))⟩, ⟨_, rfl, rfl⟩, rfl, rfl⟩
theorem jv_X_hindranceOfOpening : jv_ok K_X_hindranceOfOpening 3 8 := ⟨jf_X_hindranceOfOpening, ⟨(List.mem_of_getElem? (i := 460) (by decide +kernel)), (List.mem_of_getElem? (i := 11) (by decide +kernel))⟩, ⟨_, rfl, rfl⟩, rfl, rfl⟩
theorem js_X_isOpenMode : js_ok K_X_isOpenMode 1 := ⟨jf_X_isOpenMode, (List.mem_of_getElem? (i := 463) (by decide +kernel)), rfl, rfl⟩
theorem jv_F_isInSnapshot : jv_ok K_F_isInSnapshot 0 2 := ⟨jf_F_isInSnapshot, ⟨(List.mem_of_getElem? (i := 466) (by decide +kernel)), (List.mem_of_getElem? (i := 467) (by decide +kernel))⟩, ⟨_, rfl, rfl⟩, rfl, rfl⟩
theorem jv_X_mayOpen : jv_ok K_X_mayOpen 3 8 := ⟨jf_X_mayOpen, ⟨(List.mem_of_getElem? (i := 471) (by decide +kernel)), (List.mem_of_getElem? (i := 12) (by decide +kernel))⟩, ⟨_, rfl, rfl⟩, rfl, rfl⟩
theorem js_X_isForReading : js_ok K_X_isForReading 1 := ⟨jf_X_isForReading, (List.mem_of_getElem? (i := 474) (by decide +kernel)), rfl, rfl⟩
theorem js_X_isForWriting : js_ok K_X_isForWriting 1 := ⟨jf_X_isForWriting, (List.mem_of_getElem? (i := 477) (by decide +kernel)), rfl, rfl⟩
theorem jv_S_above : jv_ok K_S_above 2 6 := ⟨jf_S_above, ⟨(List.mem_of_getElem? (i := 480) (by decide +kernel)), (List.mem_of_getElem? (i := 481) (by decide +kernel))⟩, ⟨_, rfl, rfl⟩, rfl, rfl⟩
theorem jv_X_isOpen : jv_ok K_X_isOpen 2 8 := ⟨jf_X_isOpen, ⟨(List.mem_of_getElem? (i := 487) (by decide +kernel)), (List.mem_of_getElem? (i := 13) (by decide +kernel))⟩, ⟨_, rfl, rfl⟩, rfl, rfl⟩
theorem jv_C_hasOpen : jv_ok K_C_hasOpen 2 1 := ⟨jf_C_hasOpen, ⟨(List.mem_of_getElem? (i := 490) (by decide +kernel)), (List.mem_of_getElem? (i := 491) (by decide +kernel))⟩, ⟨_, rfl, rfl⟩, rfl, rfl⟩
theorem jv_S_hasRoom : jv_ok K_S_hasRoom 2 6 := ⟨jf_S_hasRoom, ⟨(List.mem_of_getElem? (i := 494) (by decide +kernel)), (List.mem_of_getElem? (i := 495) (by decide +kernel))⟩, ⟨_, rfl, rfl⟩, rfl, rfl⟩
theorem jv_B_isInOthersThan : jv_ok K_B_isInOthersThan 1 0 := ⟨jf_B_isInOthersThan, ⟨(List.mem_of_getElem? (i := 498) (by decide +kernel)), (List.mem_of_getElem? (i := 499) (by decide +kernel))⟩, ⟨_, rfl, rfl⟩, rfl, rfl⟩
theorem jv_S_countBlocks : jv_ok K_S_countBlocks 0 6 := ⟨jf_S_countBlocks, ⟨(List.mem_of_getElem? (i := 503) (by decide +kernel)), (List.mem_of_getElem? (i := 504) (by decide +kernel))⟩, ⟨_, rfl, rfl⟩, rfl, rfl⟩
theorem jv_S_change : jv_ok K_S_change 1 6 := ⟨jf_S_change, ⟨(List.mem_of_getElem? (i := 507) (by decide +kernel)), (List.mem_of_getElem? (i := 508) (by decide +kernel))⟩, ⟨_, rfl, rfl⟩, rfl, rfl⟩
theorem jv_S_ownBlockOf : jv_ok K_S_ownBlockOf 1 6 := ⟨jf_S_ownBlockOf, ⟨(List.mem_of_getElem? (i := 512) (by decide +kernel)), (List.mem_of_getElem? (i := 14) (by decide +kernel))⟩, ⟨_, rfl, rfl⟩, rfl, rfl⟩
theorem jv_S_freeBlock : jv_ok K_S_freeBlock 0 6 := ⟨jf_S_freeBlock, ⟨(List.mem_of_getElem? (i := 516) (by decide +kernel)), (List.mem_of_getElem? (i := 15) (by decide +kernel))⟩, ⟨_, rfl, rfl⟩, rfl, rfl⟩
theorem jv_B_copyNodeFrom : jv_ok K_B_copyNodeFrom 1 0 := ⟨jf_B_copyNodeFrom, ⟨(List.mem_of_getElem? (i := 519) (by decide +kernel)), (List.mem_of_getElem? (i := 520) (by decide +kernel))⟩, ⟨_, rfl, rfl⟩, rfl, rfl⟩
theorem jv_B_leave : jv_ok K_B_leave 1 0 := ⟨jf_B_leave, ⟨(List.mem_of_getElem? (i := 523) (by decide +kernel)), (List.mem_of_getElem? (i := 524) (by decide +kernel))⟩, ⟨_, rfl, rfl⟩, rfl, rfl⟩
theorem jv_B_setLength : jv_ok K_B_setLength 1 0 := ⟨jf_B_setLength, ⟨(List.mem_of_getElem? (i := 527) (by decide +kernel)), (List.mem_of_getElem? (i := 528) (by decide +kernel))⟩, ⟨_, rfl, rfl⟩, rfl, rfl⟩
theorem jv_F_openAs : jv_ok K_F_openAs 1 2 := ⟨jf_F_openAs, ⟨(List.mem_of_getElem? (i := 531) (by decide +kernel)), (List.mem_of_getElem? (i := 532) (by decide +kernel))⟩, ⟨_, rfl, rfl⟩, rfl, rfl⟩
theorem jv_X_create : jv_ok K_X_create 4 8 := ⟨jf_X_create, ⟨(List.mem_of_getElem? (i := 536) (by decide +kernel)), (List.mem_of_getElem? (i := 16) (by decide +kernel))⟩, ⟨_, rfl, rfl⟩, rfl, rfl⟩
theorem jv_X_hindranceOfCreating : jv_ok K_X_hindranceOfCreating 5 8 := ⟨jf_X_hindranceOfCreating, ⟨(List.mem_of_getElem? (i := 540) (by decide +kernel)), (List.mem_of_getElem? (i := 17) (by decide +kernel))⟩, ⟨_, rfl, rfl⟩, rfl, rfl⟩
theorem js_X_isTitle : js_ok K_X_isTitle 1 := ⟨jf_X_isTitle, (List.mem_of_getElem? (i := 543) (by decide +kernel)), rfl, rfl⟩
theorem jv_S_hasRoomIn : jv_ok K_S_hasRoomIn 1 6 := ⟨jf_S_hasRoomIn, ⟨(List.mem_of_getElem? (i := 546) (by decide +kernel)), (List.mem_of_getElem? (i := 547) (by decide +kernel))⟩, ⟨_, rfl, rfl⟩, rfl, rfl⟩
theorem jv_S_countChildren : jv_ok K_S_countChildren 2 6 := ⟨jf_S_countChildren, ⟨(List.mem_of_getElem? (i := 550) (by decide +kernel)), (List.mem_of_getElem? (i := 551) (by decide +kernel))⟩, ⟨_, rfl, rfl⟩, rfl, rfl⟩
theorem jv_S_countAbove : jv_ok K_S_countAbove 1 6 := ⟨jf_S_countAbove, ⟨(List.mem_of_getElem? (i := 554) (by decide +kernel)), (List.mem_of_getElem? (i := 555) (by decide +kernel))⟩, ⟨_, rfl, rfl⟩, rfl, rfl⟩
theorem jv_S_countNodes : jv_ok K_S_countNodes 0 6 := ⟨jf_S_countNodes, ⟨(List.mem_of_getElem? (i := 558) (by decide +kernel)), (List.mem_of_getElem? (i := 559) (by decide +kernel))⟩, ⟨_, rfl, rfl⟩, rfl, rfl⟩
theorem jv_B_isIn : jv_ok K_B_isIn 1 0 := ⟨jf_B_isIn, ⟨(List.mem_of_getElem? (i := 562) (by decide +kernel)), (List.mem_of_getElem? (i := 563) (by decide +kernel))⟩, ⟨_, rfl, rfl⟩, rfl, rfl⟩
theorem jv_S_add : jv_ok K_S_add 4 6 := ⟨jf_S_add, ⟨(List.mem_of_getElem? (i := 567) (by decide +kernel)), (List.mem_of_getElem? (i := 568) (by decide +kernel))⟩, ⟨_, rfl, rfl⟩, rfl, rfl⟩
theorem jv_X_read : jv_ok K_X_read 3 8 := ⟨jf_X_read, ⟨(List.mem_of_getElem? (i := 572) (by decide +kernel)), (List.mem_of_getElem? (i := 18) (by decide +kernel))⟩, ⟨_, rfl, rfl⟩, rfl, rfl⟩
theorem jv_X_readBytes : jv_ok K_X_readBytes 3 8 := ⟨jf_X_readBytes, ⟨(List.mem_of_getElem? (i := 576) (by decide +kernel)), (List.mem_of_getElem? (i := 19) (by decide +kernel))⟩, ⟨_, rfl, rfl⟩, rfl, rfl⟩
theorem jv_B_byteAt : jv_ok K_B_byteAt 1 0 := ⟨jf_B_byteAt, ⟨(List.mem_of_getElem? (i := 579) (by decide +kernel)), (List.mem_of_getElem? (i := 580) (by decide +kernel))⟩, ⟨_, rfl, rfl⟩, rfl, rfl⟩
theorem jv_X_readTitles : jv_ok K_X_readTitles 4 8 := ⟨jf_X_readTitles, ⟨(List.mem_of_getElem? (i := 584) (by decide +kernel)), (List.mem_of_getElem? (i := 20) (by decide +kernel))⟩, ⟨_, rfl, rfl⟩, rfl, rfl⟩
theorem jv_X_write : jv_ok K_X_write 2 8 := ⟨jf_X_write, ⟨(List.mem_of_getElem? (i := 589) (by decide +kernel)), (List.mem_of_getElem? (i := 21) (by decide +kernel))⟩, ⟨_, rfl, rfl⟩, rfl, rfl⟩
theorem js_X_areBytes : js_ok K_X_areBytes 1 := ⟨jf_X_areBytes, (List.mem_of_getElem? (i := 592) (by decide +kernel)), rfl, rfl⟩
theorem jv_B_putBytes : jv_ok K_B_putBytes 2 0 := ⟨jf_B_putBytes, ⟨(List.mem_of_getElem? (i := 595) (by decide +kernel)), (List.mem_of_getElem? (i := 596) (by decide +kernel))⟩, ⟨_, rfl, rfl⟩, rfl, rfl⟩
theorem jv_X_clunk : jv_ok K_X_clunk 1 8 := ⟨jf_X_clunk, ⟨(List.mem_of_getElem? (i := 605) (by decide +kernel)), (List.mem_of_getElem? (i := 22) (by decide +kernel))⟩, ⟨_, rfl, rfl⟩, rfl, rfl⟩
theorem jv_F_free : jv_ok K_F_free 0 2 := ⟨jf_F_free, ⟨(List.mem_of_getElem? (i := 608) (by decide +kernel)), (List.mem_of_getElem? (i := 609) (by decide +kernel))⟩, ⟨_, rfl, rfl⟩, rfl, rfl⟩
theorem jv_X_removeNode : jv_ok K_X_removeNode 3 8 := ⟨jf_X_removeNode, ⟨(List.mem_of_getElem? (i := 613) (by decide +kernel)), (List.mem_of_getElem? (i := 23) (by decide +kernel))⟩, ⟨_, rfl, rfl⟩, rfl, rfl⟩
theorem jv_X_remove : jv_ok K_X_remove 1 8 := ⟨jf_X_remove, ⟨(List.mem_of_getElem? (i := 619) (by decide +kernel)), (List.mem_of_getElem? (i := 24) (by decide +kernel))⟩, ⟨_, rfl, rfl⟩, rfl, rfl⟩
theorem jv_X_stat : jv_ok K_X_stat 1 8 := ⟨jf_X_stat, ⟨(List.mem_of_getElem? (i := 623) (by decide +kernel)), (List.mem_of_getElem? (i := 25) (by decide +kernel))⟩, ⟨_, rfl, rfl⟩, rfl, rfl⟩
theorem jv_X_wstat : jv_ok K_X_wstat 2 8 := ⟨jf_X_wstat, ⟨(List.mem_of_getElem? (i := 627) (by decide +kernel)), (List.mem_of_getElem? (i := 26) (by decide +kernel))⟩, ⟨_, rfl, rfl⟩, rfl, rfl⟩
theorem jv_W_become : jv_ok K_W_become 1 7 := ⟨jf_W_become, ⟨(List.mem_of_getElem? (i := 630) (by decide +kernel)), (List.mem_of_getElem? (i := 631) (by decide +kernel))⟩, ⟨_, rfl, rfl⟩, rfl, rfl⟩
theorem jv_W_canBe : jv_ok K_W_canBe 1 7 := ⟨jf_W_canBe, ⟨(List.mem_of_getElem? (i := 635) (by decide +kernel)), (List.mem_of_getElem? (i := 636) (by decide +kernel))⟩, ⟨_, rfl, rfl⟩, rfl, rfl⟩
theorem jv_X_mayWish : jv_ok K_X_mayWish 2 8 := ⟨jf_X_mayWish, ⟨(List.mem_of_getElem? (i := 643) (by decide +kernel)), (List.mem_of_getElem? (i := 27) (by decide +kernel))⟩, ⟨_, rfl, rfl⟩, rfl, rfl⟩
theorem jv_X_fulfilFor : jv_ok K_X_fulfilFor 1 8 := ⟨jf_X_fulfilFor, ⟨(List.mem_of_getElem? (i := 647) (by decide +kernel)), (List.mem_of_getElem? (i := 28) (by decide +kernel))⟩, ⟨_, rfl, rfl⟩, rfl, rfl⟩
theorem jv_W_changesNoMoreThanTitle : jv_ok K_W_changesNoMoreThanTitle 0 7 := ⟨jf_W_changesNoMoreThanTitle, ⟨(List.mem_of_getElem? (i := 650) (by decide +kernel)), (List.mem_of_getElem? (i := 651) (by decide +kernel))⟩, ⟨_, rfl, rfl⟩, rfl, rfl⟩
theorem jv_W_applyTo : jv_ok K_W_applyTo 1 7 := ⟨jf_W_applyTo, ⟨(List.mem_of_getElem? (i := 654) (by decide +kernel)), (List.mem_of_getElem? (i := 655) (by decide +kernel))⟩, ⟨_, rfl, rfl⟩, rfl, rfl⟩
theorem jv_X_flush : jv_ok K_X_flush 2 8 := ⟨jf_X_flush, ⟨(List.mem_of_getElem? (i := 659) (by decide +kernel)), (List.mem_of_getElem? (i := 660) (by decide +kernel))⟩, ⟨_, rfl, rfl⟩, rfl, rfl⟩
theorem jv_X_hangUp : jv_ok K_X_hangUp 1 8 := ⟨jf_X_hangUp, ⟨(List.mem_of_getElem? (i := 663) (by decide +kernel)), (List.mem_of_getElem? (i := 664) (by decide +kernel))⟩, ⟨_, rfl, rfl⟩, rfl, rfl⟩
theorem jv_C_dropRequests : jv_ok K_C_dropRequests 0 1 := ⟨jf_C_dropRequests, ⟨(List.mem_of_getElem? (i := 667) (by decide +kernel)), (List.mem_of_getElem? (i := 668) (by decide +kernel))⟩, ⟨_, rfl, rfl⟩, rfl, rfl⟩
theorem jv_X_reply : jv_ok K_X_reply 1 8 := ⟨jf_X_reply, ⟨(List.mem_of_getElem? (i := 671) (by decide +kernel)), (List.mem_of_getElem? (i := 672) (by decide +kernel))⟩, ⟨_, rfl, rfl⟩, rfl, rfl⟩
theorem jv_X_waiting : jv_ok K_X_waiting 1 8 := ⟨jf_X_waiting, ⟨(List.mem_of_getElem? (i := 675) (by decide +kernel)), (List.mem_of_getElem? (i := 676) (by decide +kernel))⟩, ⟨_, rfl, rfl⟩, rfl, rfl⟩
theorem jv_C_countRequests : jv_ok K_C_countRequests 0 1 := ⟨jf_C_countRequests, ⟨(List.mem_of_getElem? (i := 679) (by decide +kernel)), (List.mem_of_getElem? (i := 680) (by decide +kernel))⟩, ⟨_, rfl, rfl⟩, rfl, rfl⟩
theorem jv_X_fid : jv_ok K_X_fid 2 8 := ⟨jf_X_fid, ⟨(List.mem_of_getElem? (i := 683) (by decide +kernel)), (List.mem_of_getElem? (i := 684) (by decide +kernel))⟩, ⟨_, rfl, rfl⟩, rfl, rfl⟩
theorem jv_X_sync : jv_ok K_X_sync 1 8 := ⟨jf_X_sync, ⟨(List.mem_of_getElem? (i := 687) (by decide +kernel)), (List.mem_of_getElem? (i := 688) (by decide +kernel))⟩, ⟨_, rfl, rfl⟩, rfl, rfl⟩
theorem jv_S_countUnsaved : jv_ok K_S_countUnsaved 0 6 := ⟨jf_S_countUnsaved, ⟨(List.mem_of_getElem? (i := 691) (by decide +kernel)), (List.mem_of_getElem? (i := 692) (by decide +kernel))⟩, ⟨_, rfl, rfl⟩, rfl, rfl⟩
theorem jv_S_copyTree : jv_ok K_S_copyTree 2 6 := ⟨jf_S_copyTree, ⟨(List.mem_of_getElem? (i := 695) (by decide +kernel)), (List.mem_of_getElem? (i := 696) (by decide +kernel))⟩, ⟨_, rfl, rfl⟩, rfl, rfl⟩
theorem jv_X_crash : jv_ok K_X_crash 0 8 := ⟨jf_X_crash, ⟨(List.mem_of_getElem? (i := 699) (by decide +kernel)), (List.mem_of_getElem? (i := 700) (by decide +kernel))⟩, ⟨_, rfl, rfl⟩, rfl, rfl⟩
theorem jv_C_dropFids : jv_ok K_C_dropFids 0 1 := ⟨jf_C_dropFids, ⟨(List.mem_of_getElem? (i := 703) (by decide +kernel)), (List.mem_of_getElem? (i := 704) (by decide +kernel))⟩, ⟨_, rfl, rfl⟩, rfl, rfl⟩
theorem jv_X_snapshot : jv_ok K_X_snapshot 0 8 := ⟨jf_X_snapshot, ⟨(List.mem_of_getElem? (i := 708) (by decide +kernel)), (List.mem_of_getElem? (i := 709) (by decide +kernel))⟩, ⟨_, rfl, rfl⟩, rfl, rfl⟩
theorem jv_S_addSnapshot : jv_ok K_S_addSnapshot 0 6 := ⟨jf_S_addSnapshot, ⟨(List.mem_of_getElem? (i := 712) (by decide +kernel)), (List.mem_of_getElem? (i := 713) (by decide +kernel))⟩, ⟨_, rfl, rfl⟩, rfl, rfl⟩
theorem jv_X_blocks : jv_ok K_X_blocks 0 8 := ⟨jf_X_blocks, ⟨(List.mem_of_getElem? (i := 718) (by decide +kernel)), (List.mem_of_getElem? (i := 719) (by decide +kernel))⟩, ⟨_, rfl, rfl⟩, rfl, rfl⟩
theorem jv_X_nodes : jv_ok K_X_nodes 0 8 := ⟨jf_X_nodes, ⟨(List.mem_of_getElem? (i := 723) (by decide +kernel)), (List.mem_of_getElem? (i := 724) (by decide +kernel))⟩, ⟨_, rfl, rfl⟩, rfl, rfl⟩
theorem ji_N_init : K_N_init.1.name = "<init>" ∧ Jvm.Cond.instanceMethod K_N_init.1 ∈ lw_tbl := ⟨rfl, (List.mem_of_getElem? (i := 730) (by decide +kernel))⟩
theorem jv_N_free : jv_ok K_N_free 0 9 := ⟨jf_N_free, ⟨(List.mem_of_getElem? (i := 735) (by decide +kernel)), (List.mem_of_getElem? (i := 29) (by decide +kernel))⟩, ⟨_, rfl, rfl⟩, rfl, rfl⟩
theorem jv_N_member : jv_ok K_N_member 2 9 := ⟨jf_N_member, ⟨(List.mem_of_getElem? (i := 830) (by decide +kernel)), (List.mem_of_getElem? (i := 831) (by decide +kernel))⟩, ⟨_, rfl, rfl⟩, rfl, rfl⟩
theorem jv_N_say : jv_ok K_N_say 1 9 := ⟨jf_N_say, ⟨(List.mem_of_getElem? (i := 834) (by decide +kernel)), (List.mem_of_getElem? (i := 835) (by decide +kernel))⟩, ⟨_, rfl, rfl⟩, rfl, rfl⟩
theorem jv_N_send : jv_ok K_N_send 4 9 := ⟨jf_N_send, ⟨(List.mem_of_getElem? (i := 838) (by decide +kernel)), (List.mem_of_getElem? (i := 839) (by decide +kernel))⟩, ⟨_, rfl, rfl⟩, rfl, rfl⟩
theorem js_N_isOne : js_ok K_N_isOne 1 := ⟨jf_N_isOne, (List.mem_of_getElem? (i := 842) (by decide +kernel)), rfl, rfl⟩
theorem jv_N_flush : jv_ok K_N_flush 2 9 := ⟨jf_N_flush, ⟨(List.mem_of_getElem? (i := 845) (by decide +kernel)), (List.mem_of_getElem? (i := 846) (by decide +kernel))⟩, ⟨_, rfl, rfl⟩, rfl, rfl⟩
theorem jv_N_waits : jv_ok K_N_waits 2 9 := ⟨jf_N_waits, ⟨(List.mem_of_getElem? (i := 850) (by decide +kernel)), (List.mem_of_getElem? (i := 30) (by decide +kernel))⟩, ⟨_, rfl, rfl⟩, rfl, rfl⟩
theorem jv_N_waiting : jv_ok K_N_waiting 1 9 := ⟨jf_N_waiting, ⟨(List.mem_of_getElem? (i := 853) (by decide +kernel)), (List.mem_of_getElem? (i := 854) (by decide +kernel))⟩, ⟨_, rfl, rfl⟩, rfl, rfl⟩
theorem jv_N_reply : jv_ok K_N_reply 1 9 := ⟨jf_N_reply, ⟨(List.mem_of_getElem? (i := 857) (by decide +kernel)), (List.mem_of_getElem? (i := 858) (by decide +kernel))⟩, ⟨_, rfl, rfl⟩, rfl, rfl⟩
theorem jv_N_serve : jv_ok K_N_serve 2 9 := ⟨jf_N_serve, ⟨(List.mem_of_getElem? (i := 861) (by decide +kernel)), (List.mem_of_getElem? (i := 862) (by decide +kernel))⟩, ⟨_, rfl, rfl⟩, rfl, rfl⟩
theorem js_N_least : js_ok K_N_least 1 := ⟨jf_N_least, (List.mem_of_getElem? (i := 865) (by decide +kernel)), rfl, rfl⟩
theorem js_N_most : js_ok K_N_most 1 := ⟨jf_N_most, (List.mem_of_getElem? (i := 868) (by decide +kernel)), rfl, rfl⟩
theorem jv_N_done : jv_ok K_N_done 2 9 := ⟨jf_N_done, ⟨(List.mem_of_getElem? (i := 872) (by decide +kernel)), (List.mem_of_getElem? (i := 31) (by decide +kernel))⟩, ⟨_, rfl, rfl⟩, rfl, rfl⟩
theorem jv_N_attach : jv_ok K_N_attach 1 9 := ⟨jf_N_attach, ⟨(List.mem_of_getElem? (i := 876) (by decide +kernel)), (List.mem_of_getElem? (i := 32) (by decide +kernel))⟩, ⟨_, rfl, rfl⟩, rfl, rfl⟩
theorem jv_N_nodeOf : jv_ok K_N_nodeOf 1 9 := ⟨jf_N_nodeOf, ⟨(List.mem_of_getElem? (i := 880) (by decide +kernel)), (List.mem_of_getElem? (i := 33) (by decide +kernel))⟩, ⟨_, rfl, rfl⟩, rfl, rfl⟩
theorem jv_N_cell : jv_ok K_N_cell 2 9 := ⟨jf_N_cell, ⟨(List.mem_of_getElem? (i := 884) (by decide +kernel)), (List.mem_of_getElem? (i := 34) (by decide +kernel))⟩, ⟨_, rfl, rfl⟩, rfl, rfl⟩
theorem jv_N_tell : jv_ok K_N_tell 1 9 := ⟨jf_N_tell, ⟨(List.mem_of_getElem? (i := 888) (by decide +kernel)), (List.mem_of_getElem? (i := 35) (by decide +kernel))⟩, ⟨_, rfl, rfl⟩, rfl, rfl⟩
theorem jv_N_walk : jv_ok K_N_walk 1 9 := ⟨jf_N_walk, ⟨(List.mem_of_getElem? (i := 892) (by decide +kernel)), (List.mem_of_getElem? (i := 36) (by decide +kernel))⟩, ⟨_, rfl, rfl⟩, rfl, rfl⟩
theorem jv_N_isDirectory : jv_ok K_N_isDirectory 1 9 := ⟨jf_N_isDirectory, ⟨(List.mem_of_getElem? (i := 896) (by decide +kernel)), (List.mem_of_getElem? (i := 37) (by decide +kernel))⟩, ⟨_, rfl, rfl⟩, rfl, rfl⟩
theorem jv_N_has : jv_ok K_N_has 3 9 := ⟨jf_N_has, ⟨(List.mem_of_getElem? (i := 900) (by decide +kernel)), (List.mem_of_getElem? (i := 38) (by decide +kernel))⟩, ⟨_, rfl, rfl⟩, rfl, rfl⟩
theorem jv_N_parent : jv_ok K_N_parent 1 9 := ⟨jf_N_parent, ⟨(List.mem_of_getElem? (i := 904) (by decide +kernel)), (List.mem_of_getElem? (i := 39) (by decide +kernel))⟩, ⟨_, rfl, rfl⟩, rfl, rfl⟩
theorem jv_N_child : jv_ok K_N_child 2 9 := ⟨jf_N_child, ⟨(List.mem_of_getElem? (i := 908) (by decide +kernel)), (List.mem_of_getElem? (i := 40) (by decide +kernel))⟩, ⟨_, rfl, rfl⟩, rfl, rfl⟩
theorem jv_N_opening : jv_ok K_N_opening 1 9 := ⟨jf_N_opening, ⟨(List.mem_of_getElem? (i := 912) (by decide +kernel)), (List.mem_of_getElem? (i := 41) (by decide +kernel))⟩, ⟨_, rfl, rfl⟩, rfl, rfl⟩
theorem js_N_isOpenMode : js_ok K_N_isOpenMode 1 := ⟨jf_N_isOpenMode, (List.mem_of_getElem? (i := 915) (by decide +kernel)), rfl, rfl⟩
theorem jv_N_reads : jv_ok K_N_reads 1 9 := ⟨jf_N_reads, ⟨(List.mem_of_getElem? (i := 919) (by decide +kernel)), (List.mem_of_getElem? (i := 42) (by decide +kernel))⟩, ⟨_, rfl, rfl⟩, rfl, rfl⟩
theorem jv_N_writes : jv_ok K_N_writes 1 9 := ⟨jf_N_writes, ⟨(List.mem_of_getElem? (i := 923) (by decide +kernel)), (List.mem_of_getElem? (i := 43) (by decide +kernel))⟩, ⟨_, rfl, rfl⟩, rfl, rfl⟩
theorem jv_N_isBusy : jv_ok K_N_isBusy 2 9 := ⟨jf_N_isBusy, ⟨(List.mem_of_getElem? (i := 927) (by decide +kernel)), (List.mem_of_getElem? (i := 44) (by decide +kernel))⟩, ⟨_, rfl, rfl⟩, rfl, rfl⟩
theorem jv_N_needed : jv_ok K_N_needed 1 9 := ⟨jf_N_needed, ⟨(List.mem_of_getElem? (i := 931) (by decide +kernel)), (List.mem_of_getElem? (i := 45) (by decide +kernel))⟩, ⟨_, rfl, rfl⟩, rfl, rfl⟩
theorem jv_N_inOld : jv_ok K_N_inOld 1 9 := ⟨jf_N_inOld, ⟨(List.mem_of_getElem? (i := 935) (by decide +kernel)), (List.mem_of_getElem? (i := 46) (by decide +kernel))⟩, ⟨_, rfl, rfl⟩, rfl, rfl⟩
theorem jv_N_fits : jv_ok K_N_fits 1 9 := ⟨jf_N_fits, ⟨(List.mem_of_getElem? (i := 939) (by decide +kernel)), (List.mem_of_getElem? (i := 47) (by decide +kernel))⟩, ⟨_, rfl, rfl⟩, rfl, rfl⟩
theorem jv_N_blocks : jv_ok K_N_blocks 0 9 := ⟨jf_N_blocks, ⟨(List.mem_of_getElem? (i := 942) (by decide +kernel)), (List.mem_of_getElem? (i := 943) (by decide +kernel))⟩, ⟨_, rfl, rfl⟩, rfl, rfl⟩
theorem jv_N_change : jv_ok K_N_change 1 9 := ⟨jf_N_change, ⟨(List.mem_of_getElem? (i := 947) (by decide +kernel)), (List.mem_of_getElem? (i := 48) (by decide +kernel))⟩, ⟨_, rfl, rfl⟩, rfl, rfl⟩
theorem jv_N_create : jv_ok K_N_create 1 9 := ⟨jf_N_create, ⟨(List.mem_of_getElem? (i := 951) (by decide +kernel)), (List.mem_of_getElem? (i := 49) (by decide +kernel))⟩, ⟨_, rfl, rfl⟩, rfl, rfl⟩
theorem jv_N_children : jv_ok K_N_children 1 9 := ⟨jf_N_children, ⟨(List.mem_of_getElem? (i := 955) (by decide +kernel)), (List.mem_of_getElem? (i := 50) (by decide +kernel))⟩, ⟨_, rfl, rfl⟩, rfl, rfl⟩
theorem jv_N_depth : jv_ok K_N_depth 1 9 := ⟨jf_N_depth, ⟨(List.mem_of_getElem? (i := 959) (by decide +kernel)), (List.mem_of_getElem? (i := 51) (by decide +kernel))⟩, ⟨_, rfl, rfl⟩, rfl, rfl⟩
theorem jv_N_readFrom : jv_ok K_N_readFrom 1 9 := ⟨jf_N_readFrom, ⟨(List.mem_of_getElem? (i := 963) (by decide +kernel)), (List.mem_of_getElem? (i := 52) (by decide +kernel))⟩, ⟨_, rfl, rfl⟩, rfl, rfl⟩
theorem jv_N_writeTo : jv_ok K_N_writeTo 1 9 := ⟨jf_N_writeTo, ⟨(List.mem_of_getElem? (i := 967) (by decide +kernel)), (List.mem_of_getElem? (i := 53) (by decide +kernel))⟩, ⟨_, rfl, rfl⟩, rfl, rfl⟩
theorem jv_N_grow : jv_ok K_N_grow 2 9 := ⟨jf_N_grow, ⟨(List.mem_of_getElem? (i := 971) (by decide +kernel)), (List.mem_of_getElem? (i := 54) (by decide +kernel))⟩, ⟨_, rfl, rfl⟩, rfl, rfl⟩
theorem jv_N_clunk : jv_ok K_N_clunk 1 9 := ⟨jf_N_clunk, ⟨(List.mem_of_getElem? (i := 975) (by decide +kernel)), (List.mem_of_getElem? (i := 55) (by decide +kernel))⟩, ⟨_, rfl, rfl⟩, rfl, rfl⟩
theorem jv_N_removed : jv_ok K_N_removed 3 9 := ⟨jf_N_removed, ⟨(List.mem_of_getElem? (i := 979) (by decide +kernel)), (List.mem_of_getElem? (i := 56) (by decide +kernel))⟩, ⟨_, rfl, rfl⟩, rfl, rfl⟩
theorem jv_N_copy : jv_ok K_N_copy 2 9 := ⟨jf_N_copy, ⟨(List.mem_of_getElem? (i := 983) (by decide +kernel)), (List.mem_of_getElem? (i := 57) (by decide +kernel))⟩, ⟨_, rfl, rfl⟩, rfl, rfl⟩
theorem jv_N_remove : jv_ok K_N_remove 1 9 := ⟨jf_N_remove, ⟨(List.mem_of_getElem? (i := 987) (by decide +kernel)), (List.mem_of_getElem? (i := 58) (by decide +kernel))⟩, ⟨_, rfl, rfl⟩, rfl, rfl⟩
theorem jv_N_stat : jv_ok K_N_stat 1 9 := ⟨jf_N_stat, ⟨(List.mem_of_getElem? (i := 991) (by decide +kernel)), (List.mem_of_getElem? (i := 59) (by decide +kernel))⟩, ⟨_, rfl, rfl⟩, rfl, rfl⟩
theorem jv_N_wstat : jv_ok K_N_wstat 1 9 := ⟨jf_N_wstat, ⟨(List.mem_of_getElem? (i := 995) (by decide +kernel)), (List.mem_of_getElem? (i := 60) (by decide +kernel))⟩, ⟨_, rfl, rfl⟩, rfl, rfl⟩
theorem js_N_within : js_ok K_N_within 3 := ⟨jf_N_within, (List.mem_of_getElem? (i := 998) (by decide +kernel)), rfl, rfl⟩
theorem jv_N_hangUp : jv_ok K_N_hangUp 1 9 := ⟨jf_N_hangUp, ⟨(List.mem_of_getElem? (i := 1002) (by decide +kernel)), (List.mem_of_getElem? (i := 1003) (by decide +kernel))⟩, ⟨_, rfl, rfl⟩, rfl, rfl⟩
theorem jv_N_fid : jv_ok K_N_fid 2 9 := ⟨jf_N_fid, ⟨(List.mem_of_getElem? (i := 1006) (by decide +kernel)), (List.mem_of_getElem? (i := 1007) (by decide +kernel))⟩, ⟨_, rfl, rfl⟩, rfl, rfl⟩
theorem jv_N_sync : jv_ok K_N_sync 1 9 := ⟨jf_N_sync, ⟨(List.mem_of_getElem? (i := 1010) (by decide +kernel)), (List.mem_of_getElem? (i := 1011) (by decide +kernel))⟩, ⟨_, rfl, rfl⟩, rfl, rfl⟩
theorem jv_N_copyTree : jv_ok K_N_copyTree 2 9 := ⟨jf_N_copyTree, ⟨(List.mem_of_getElem? (i := 1015) (by decide +kernel)), (List.mem_of_getElem? (i := 61) (by decide +kernel))⟩, ⟨_, rfl, rfl⟩, rfl, rfl⟩
theorem jv_N_crash : jv_ok K_N_crash 0 9 := ⟨jf_N_crash, ⟨(List.mem_of_getElem? (i := 1018) (by decide +kernel)), (List.mem_of_getElem? (i := 1019) (by decide +kernel))⟩, ⟨_, rfl, rfl⟩, rfl, rfl⟩
theorem jv_N_snapshot : jv_ok K_N_snapshot 0 9 := ⟨jf_N_snapshot, ⟨(List.mem_of_getElem? (i := 1022) (by decide +kernel)), (List.mem_of_getElem? (i := 1023) (by decide +kernel))⟩, ⟨_, rfl, rfl⟩, rfl, rfl⟩
theorem jv_N_nodes : jv_ok K_N_nodes 0 9 := ⟨jf_N_nodes, ⟨(List.mem_of_getElem? (i := 1028) (by decide +kernel)), (List.mem_of_getElem? (i := 1029) (by decide +kernel))⟩, ⟨_, rfl, rfl⟩, rfl, rfl⟩
