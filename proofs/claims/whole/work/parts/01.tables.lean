-- ===== PART A: goes FIRST, ahead of the names: the tables' words, and 'selects' of the private methods out of them =====
/-- a private method of a class that the tables say can be made, by its rows of tables_1 -/
def lw_okq (q : MethodName × Nat) : Prop := (q.1.cls ≠ "java/lang/invoke/MethodHandle" ∧ q.1.cls ≠ "java/lang/invoke/VarHandle") ∧ Cond.instantiable q.1.cls q.2 ∈ tables_1 ∧ Cond.privateMethod q.1 ∈ tables_1 ∧ Cond.instanceMethod q.1 ∈ tables_1
theorem lw_p0 : lw_okq (⟨"SnapshotFiles", "requestAt", "(II)LSnapshotFiles$Request;"⟩, 6) := ⟨⟨by decide +kernel, by decide +kernel⟩, List.mem_of_getElem? (i := 13) (by decide +kernel), List.mem_of_getElem? (i := 282) (by decide +kernel), List.mem_of_getElem? (i := 283) (by decide +kernel)⟩
theorem lw_p1 : lw_okq (⟨"SnapshotFiles", "connectionAt", "(I)LSnapshotFiles$Connection;"⟩, 6) := ⟨⟨by decide +kernel, by decide +kernel⟩, List.mem_of_getElem? (i := 13) (by decide +kernel), List.mem_of_getElem? (i := 286) (by decide +kernel), List.mem_of_getElem? (i := 287) (by decide +kernel)⟩
theorem lw_p2 : lw_okq (⟨"SnapshotFiles", "answer", "(LSnapshotFiles$Connection;LSnapshotFiles$Request;)I"⟩, 6) := ⟨⟨by decide +kernel, by decide +kernel⟩, List.mem_of_getElem? (i := 13) (by decide +kernel), List.mem_of_getElem? (i := 316) (by decide +kernel), List.mem_of_getElem? (i := 317) (by decide +kernel)⟩
theorem lw_p3 : lw_okq (⟨"SnapshotFiles", "attach", "(LSnapshotFiles$Fid;II)I"⟩, 6) := ⟨⟨by decide +kernel, by decide +kernel⟩, List.mem_of_getElem? (i := 13) (by decide +kernel), List.mem_of_getElem? (i := 332) (by decide +kernel), List.mem_of_getElem? (i := 333) (by decide +kernel)⟩
theorem lw_p4 : lw_okq (⟨"SnapshotFiles", "replyWithMode", "(LSnapshotFiles$Block;)V"⟩, 6) := ⟨⟨by decide +kernel, by decide +kernel⟩, List.mem_of_getElem? (i := 13) (by decide +kernel), List.mem_of_getElem? (i := 344) (by decide +kernel), List.mem_of_getElem? (i := 345) (by decide +kernel)⟩
theorem lw_p5 : lw_okq (⟨"SnapshotFiles", "replyWithVersion", "(LSnapshotFiles$Block;)V"⟩, 6) := ⟨⟨by decide +kernel, by decide +kernel⟩, List.mem_of_getElem? (i := 13) (by decide +kernel), List.mem_of_getElem? (i := 348) (by decide +kernel), List.mem_of_getElem? (i := 349) (by decide +kernel)⟩
theorem lw_p6 : lw_okq (⟨"SnapshotFiles", "walk", "(LSnapshotFiles$Fid;LSnapshotFiles$Fid;LSnapshotFiles$Row;)I"⟩, 6) := ⟨⟨by decide +kernel, by decide +kernel⟩, List.mem_of_getElem? (i := 13) (by decide +kernel), List.mem_of_getElem? (i := 352) (by decide +kernel), List.mem_of_getElem? (i := 353) (by decide +kernel)⟩
theorem lw_p7 : lw_okq (⟨"SnapshotFiles", "nodeOf", "(LSnapshotFiles$Fid;)LSnapshotFiles$Block;"⟩, 6) := ⟨⟨by decide +kernel, by decide +kernel⟩, List.mem_of_getElem? (i := 13) (by decide +kernel), List.mem_of_getElem? (i := 356) (by decide +kernel), List.mem_of_getElem? (i := 357) (by decide +kernel)⟩
theorem lw_p8 : lw_okq (⟨"SnapshotFiles", "walkTitles", "(LSnapshotFiles$Fid;LSnapshotFiles$Fid;LSnapshotFiles$Block;LSnapshotFiles$Row;)I"⟩, 6) := ⟨⟨by decide +kernel, by decide +kernel⟩, List.mem_of_getElem? (i := 13) (by decide +kernel), List.mem_of_getElem? (i := 360) (by decide +kernel), List.mem_of_getElem? (i := 361) (by decide +kernel)⟩
theorem lw_p9 : lw_okq (⟨"SnapshotFiles", "hindranceOfStep", "(ILSnapshotFiles$Block;LSnapshotFiles$Block;)I"⟩, 6) := ⟨⟨by decide +kernel, by decide +kernel⟩, List.mem_of_getElem? (i := 13) (by decide +kernel), List.mem_of_getElem? (i := 376) (by decide +kernel), List.mem_of_getElem? (i := 377) (by decide +kernel)⟩
theorem lw_p10 : lw_okq (⟨"SnapshotFiles", "open", "(LSnapshotFiles$Fid;I)I"⟩, 6) := ⟨⟨by decide +kernel, by decide +kernel⟩, List.mem_of_getElem? (i := 13) (by decide +kernel), List.mem_of_getElem? (i := 393) (by decide +kernel), List.mem_of_getElem? (i := 394) (by decide +kernel)⟩
theorem lw_p11 : lw_okq (⟨"SnapshotFiles", "hindranceOfOpening", "(LSnapshotFiles$Fid;LSnapshotFiles$Block;I)I"⟩, 6) := ⟨⟨by decide +kernel, by decide +kernel⟩, List.mem_of_getElem? (i := 13) (by decide +kernel), List.mem_of_getElem? (i := 397) (by decide +kernel), List.mem_of_getElem? (i := 398) (by decide +kernel)⟩
theorem lw_p12 : lw_okq (⟨"SnapshotFiles", "mayOpen", "(LSnapshotFiles$Fid;LSnapshotFiles$Block;I)Z"⟩, 6) := ⟨⟨by decide +kernel, by decide +kernel⟩, List.mem_of_getElem? (i := 13) (by decide +kernel), List.mem_of_getElem? (i := 408) (by decide +kernel), List.mem_of_getElem? (i := 409) (by decide +kernel)⟩
theorem lw_p13 : lw_okq (⟨"SnapshotFiles", "isOpen", "(II)Z"⟩, 6) := ⟨⟨by decide +kernel, by decide +kernel⟩, List.mem_of_getElem? (i := 13) (by decide +kernel), List.mem_of_getElem? (i := 424) (by decide +kernel), List.mem_of_getElem? (i := 425) (by decide +kernel)⟩
theorem lw_p14 : lw_okq (⟨"SnapshotFiles$Store", "ownBlockOf", "(LSnapshotFiles$Block;)LSnapshotFiles$Block;"⟩, 3) := ⟨⟨by decide +kernel, by decide +kernel⟩, List.mem_of_getElem? (i := 21) (by decide +kernel), List.mem_of_getElem? (i := 449) (by decide +kernel), List.mem_of_getElem? (i := 450) (by decide +kernel)⟩
theorem lw_p15 : lw_okq (⟨"SnapshotFiles$Store", "freeBlock", "()LSnapshotFiles$Block;"⟩, 3) := ⟨⟨by decide +kernel, by decide +kernel⟩, List.mem_of_getElem? (i := 21) (by decide +kernel), List.mem_of_getElem? (i := 453) (by decide +kernel), List.mem_of_getElem? (i := 454) (by decide +kernel)⟩
def lw_privs_1 : List (MethodName × Nat) := [(⟨"SnapshotFiles", "requestAt", "(II)LSnapshotFiles$Request;"⟩, 6), (⟨"SnapshotFiles", "connectionAt", "(I)LSnapshotFiles$Connection;"⟩, 6), (⟨"SnapshotFiles", "answer", "(LSnapshotFiles$Connection;LSnapshotFiles$Request;)I"⟩, 6), (⟨"SnapshotFiles", "attach", "(LSnapshotFiles$Fid;II)I"⟩, 6), (⟨"SnapshotFiles", "replyWithMode", "(LSnapshotFiles$Block;)V"⟩, 6), (⟨"SnapshotFiles", "replyWithVersion", "(LSnapshotFiles$Block;)V"⟩, 6), (⟨"SnapshotFiles", "walk", "(LSnapshotFiles$Fid;LSnapshotFiles$Fid;LSnapshotFiles$Row;)I"⟩, 6), (⟨"SnapshotFiles", "nodeOf", "(LSnapshotFiles$Fid;)LSnapshotFiles$Block;"⟩, 6), (⟨"SnapshotFiles", "walkTitles", "(LSnapshotFiles$Fid;LSnapshotFiles$Fid;LSnapshotFiles$Block;LSnapshotFiles$Row;)I"⟩, 6), (⟨"SnapshotFiles", "hindranceOfStep", "(ILSnapshotFiles$Block;LSnapshotFiles$Block;)I"⟩, 6), (⟨"SnapshotFiles", "open", "(LSnapshotFiles$Fid;I)I"⟩, 6), (⟨"SnapshotFiles", "hindranceOfOpening", "(LSnapshotFiles$Fid;LSnapshotFiles$Block;I)I"⟩, 6), (⟨"SnapshotFiles", "mayOpen", "(LSnapshotFiles$Fid;LSnapshotFiles$Block;I)Z"⟩, 6), (⟨"SnapshotFiles", "isOpen", "(II)Z"⟩, 6), (⟨"SnapshotFiles$Store", "ownBlockOf", "(LSnapshotFiles$Block;)LSnapshotFiles$Block;"⟩, 3), (⟨"SnapshotFiles$Store", "freeBlock", "()LSnapshotFiles$Block;"⟩, 3)]
theorem lw_r1 : ∀ q ∈ lw_privs_1, lw_okq q := List.forall_mem_cons.mpr ⟨lw_p0, List.forall_mem_cons.mpr ⟨lw_p1, List.forall_mem_cons.mpr ⟨lw_p2, List.forall_mem_cons.mpr ⟨lw_p3, List.forall_mem_cons.mpr ⟨lw_p4, List.forall_mem_cons.mpr ⟨lw_p5, List.forall_mem_cons.mpr ⟨lw_p6, List.forall_mem_cons.mpr ⟨lw_p7, List.forall_mem_cons.mpr ⟨lw_p8, List.forall_mem_cons.mpr ⟨lw_p9, List.forall_mem_cons.mpr ⟨lw_p10, List.forall_mem_cons.mpr ⟨lw_p11, List.forall_mem_cons.mpr ⟨lw_p12, List.forall_mem_cons.mpr ⟨lw_p13, List.forall_mem_cons.mpr ⟨lw_p14, List.forall_mem_cons.mpr ⟨lw_p15, fun _ h => absurd h List.not_mem_nil⟩⟩⟩⟩⟩⟩⟩⟩⟩⟩⟩⟩⟩⟩⟩⟩
theorem lw_p16 : lw_okq (⟨"SnapshotFiles", "create", "(LSnapshotFiles$Fid;III)I"⟩, 6) := ⟨⟨by decide +kernel, by decide +kernel⟩, List.mem_of_getElem? (i := 13) (by decide +kernel), List.mem_of_getElem? (i := 473) (by decide +kernel), List.mem_of_getElem? (i := 474) (by decide +kernel)⟩
theorem lw_p17 : lw_okq (⟨"SnapshotFiles", "hindranceOfCreating", "(LSnapshotFiles$Fid;LSnapshotFiles$Block;III)I"⟩, 6) := ⟨⟨by decide +kernel, by decide +kernel⟩, List.mem_of_getElem? (i := 13) (by decide +kernel), List.mem_of_getElem? (i := 477) (by decide +kernel), List.mem_of_getElem? (i := 478) (by decide +kernel)⟩
theorem lw_p18 : lw_okq (⟨"SnapshotFiles", "read", "(LSnapshotFiles$Fid;II)I"⟩, 6) := ⟨⟨by decide +kernel, by decide +kernel⟩, List.mem_of_getElem? (i := 13) (by decide +kernel), List.mem_of_getElem? (i := 509) (by decide +kernel), List.mem_of_getElem? (i := 510) (by decide +kernel)⟩
theorem lw_p19 : lw_okq (⟨"SnapshotFiles", "readBytes", "(LSnapshotFiles$Block;II)I"⟩, 6) := ⟨⟨by decide +kernel, by decide +kernel⟩, List.mem_of_getElem? (i := 13) (by decide +kernel), List.mem_of_getElem? (i := 513) (by decide +kernel), List.mem_of_getElem? (i := 514) (by decide +kernel)⟩
theorem lw_p20 : lw_okq (⟨"SnapshotFiles", "readTitles", "(ILSnapshotFiles$Block;II)I"⟩, 6) := ⟨⟨by decide +kernel, by decide +kernel⟩, List.mem_of_getElem? (i := 13) (by decide +kernel), List.mem_of_getElem? (i := 521) (by decide +kernel), List.mem_of_getElem? (i := 522) (by decide +kernel)⟩
theorem lw_p21 : lw_okq (⟨"SnapshotFiles", "write", "(LSnapshotFiles$Fid;LSnapshotFiles$Row;)I"⟩, 6) := ⟨⟨by decide +kernel, by decide +kernel⟩, List.mem_of_getElem? (i := 13) (by decide +kernel), List.mem_of_getElem? (i := 526) (by decide +kernel), List.mem_of_getElem? (i := 527) (by decide +kernel)⟩
theorem lw_p22 : lw_okq (⟨"SnapshotFiles", "clunk", "(LSnapshotFiles$Fid;)I"⟩, 6) := ⟨⟨by decide +kernel, by decide +kernel⟩, List.mem_of_getElem? (i := 13) (by decide +kernel), List.mem_of_getElem? (i := 542) (by decide +kernel), List.mem_of_getElem? (i := 543) (by decide +kernel)⟩
theorem lw_p23 : lw_okq (⟨"SnapshotFiles", "removeNode", "(III)I"⟩, 6) := ⟨⟨by decide +kernel, by decide +kernel⟩, List.mem_of_getElem? (i := 13) (by decide +kernel), List.mem_of_getElem? (i := 550) (by decide +kernel), List.mem_of_getElem? (i := 551) (by decide +kernel)⟩
theorem lw_p24 : lw_okq (⟨"SnapshotFiles", "remove", "(LSnapshotFiles$Fid;)I"⟩, 6) := ⟨⟨by decide +kernel, by decide +kernel⟩, List.mem_of_getElem? (i := 13) (by decide +kernel), List.mem_of_getElem? (i := 556) (by decide +kernel), List.mem_of_getElem? (i := 557) (by decide +kernel)⟩
theorem lw_p25 : lw_okq (⟨"SnapshotFiles", "stat", "(LSnapshotFiles$Fid;)I"⟩, 6) := ⟨⟨by decide +kernel, by decide +kernel⟩, List.mem_of_getElem? (i := 13) (by decide +kernel), List.mem_of_getElem? (i := 560) (by decide +kernel), List.mem_of_getElem? (i := 561) (by decide +kernel)⟩
theorem lw_p26 : lw_okq (⟨"SnapshotFiles", "wstat", "(LSnapshotFiles$Fid;LSnapshotFiles$Row;)I"⟩, 6) := ⟨⟨by decide +kernel, by decide +kernel⟩, List.mem_of_getElem? (i := 13) (by decide +kernel), List.mem_of_getElem? (i := 564) (by decide +kernel), List.mem_of_getElem? (i := 565) (by decide +kernel)⟩
theorem lw_p27 : lw_okq (⟨"SnapshotFiles", "mayWish", "(ILSnapshotFiles$Block;)Z"⟩, 6) := ⟨⟨by decide +kernel, by decide +kernel⟩, List.mem_of_getElem? (i := 13) (by decide +kernel), List.mem_of_getElem? (i := 580) (by decide +kernel), List.mem_of_getElem? (i := 581) (by decide +kernel)⟩
theorem lw_p28 : lw_okq (⟨"SnapshotFiles", "fulfilFor", "(LSnapshotFiles$Block;)I"⟩, 6) := ⟨⟨by decide +kernel, by decide +kernel⟩, List.mem_of_getElem? (i := 13) (by decide +kernel), List.mem_of_getElem? (i := 584) (by decide +kernel), List.mem_of_getElem? (i := 585) (by decide +kernel)⟩
theorem lw_p29 : lw_okq (⟨"SnapshotFilesModel", "free", "()V"⟩, 30) := ⟨⟨by decide +kernel, by decide +kernel⟩, List.mem_of_getElem? (i := 666) (by decide +kernel), List.mem_of_getElem? (i := 672) (by decide +kernel), List.mem_of_getElem? (i := 673) (by decide +kernel)⟩
theorem lw_p30 : lw_okq (⟨"SnapshotFilesModel", "waits", "(II)Z"⟩, 30) := ⟨⟨by decide +kernel, by decide +kernel⟩, List.mem_of_getElem? (i := 666) (by decide +kernel), List.mem_of_getElem? (i := 787) (by decide +kernel), List.mem_of_getElem? (i := 788) (by decide +kernel)⟩
theorem lw_p31 : lw_okq (⟨"SnapshotFilesModel", "done", "(II)I"⟩, 30) := ⟨⟨by decide +kernel, by decide +kernel⟩, List.mem_of_getElem? (i := 666) (by decide +kernel), List.mem_of_getElem? (i := 809) (by decide +kernel), List.mem_of_getElem? (i := 810) (by decide +kernel)⟩
def lw_privs_2 : List (MethodName × Nat) := [(⟨"SnapshotFiles", "create", "(LSnapshotFiles$Fid;III)I"⟩, 6), (⟨"SnapshotFiles", "hindranceOfCreating", "(LSnapshotFiles$Fid;LSnapshotFiles$Block;III)I"⟩, 6), (⟨"SnapshotFiles", "read", "(LSnapshotFiles$Fid;II)I"⟩, 6), (⟨"SnapshotFiles", "readBytes", "(LSnapshotFiles$Block;II)I"⟩, 6), (⟨"SnapshotFiles", "readTitles", "(ILSnapshotFiles$Block;II)I"⟩, 6), (⟨"SnapshotFiles", "write", "(LSnapshotFiles$Fid;LSnapshotFiles$Row;)I"⟩, 6), (⟨"SnapshotFiles", "clunk", "(LSnapshotFiles$Fid;)I"⟩, 6), (⟨"SnapshotFiles", "removeNode", "(III)I"⟩, 6), (⟨"SnapshotFiles", "remove", "(LSnapshotFiles$Fid;)I"⟩, 6), (⟨"SnapshotFiles", "stat", "(LSnapshotFiles$Fid;)I"⟩, 6), (⟨"SnapshotFiles", "wstat", "(LSnapshotFiles$Fid;LSnapshotFiles$Row;)I"⟩, 6), (⟨"SnapshotFiles", "mayWish", "(ILSnapshotFiles$Block;)Z"⟩, 6), (⟨"SnapshotFiles", "fulfilFor", "(LSnapshotFiles$Block;)I"⟩, 6), (⟨"SnapshotFilesModel", "free", "()V"⟩, 30), (⟨"SnapshotFilesModel", "waits", "(II)Z"⟩, 30), (⟨"SnapshotFilesModel", "done", "(II)I"⟩, 30)]
theorem lw_r2 : ∀ q ∈ lw_privs_2, lw_okq q := List.forall_mem_cons.mpr ⟨lw_p16, List.forall_mem_cons.mpr ⟨lw_p17, List.forall_mem_cons.mpr ⟨lw_p18, List.forall_mem_cons.mpr ⟨lw_p19, List.forall_mem_cons.mpr ⟨lw_p20, List.forall_mem_cons.mpr ⟨lw_p21, List.forall_mem_cons.mpr ⟨lw_p22, List.forall_mem_cons.mpr ⟨lw_p23, List.forall_mem_cons.mpr ⟨lw_p24, List.forall_mem_cons.mpr ⟨lw_p25, List.forall_mem_cons.mpr ⟨lw_p26, List.forall_mem_cons.mpr ⟨lw_p27, List.forall_mem_cons.mpr ⟨lw_p28, List.forall_mem_cons.mpr ⟨lw_p29, List.forall_mem_cons.mpr ⟨lw_p30, List.forall_mem_cons.mpr ⟨lw_p31, fun _ h => absurd h List.not_mem_nil⟩⟩⟩⟩⟩⟩⟩⟩⟩⟩⟩⟩⟩⟩⟩⟩
theorem lw_p32 : lw_okq (⟨"SnapshotFilesModel", "attach", "(I)I"⟩, 30) := ⟨⟨by decide +kernel, by decide +kernel⟩, List.mem_of_getElem? (i := 666) (by decide +kernel), List.mem_of_getElem? (i := 813) (by decide +kernel), List.mem_of_getElem? (i := 814) (by decide +kernel)⟩
theorem lw_p33 : lw_okq (⟨"SnapshotFilesModel", "nodeOf", "(I)I"⟩, 30) := ⟨⟨by decide +kernel, by decide +kernel⟩, List.mem_of_getElem? (i := 666) (by decide +kernel), List.mem_of_getElem? (i := 817) (by decide +kernel), List.mem_of_getElem? (i := 818) (by decide +kernel)⟩
theorem lw_p34 : lw_okq (⟨"SnapshotFilesModel", "cell", "(II)I"⟩, 30) := ⟨⟨by decide +kernel, by decide +kernel⟩, List.mem_of_getElem? (i := 666) (by decide +kernel), List.mem_of_getElem? (i := 821) (by decide +kernel), List.mem_of_getElem? (i := 822) (by decide +kernel)⟩
theorem lw_p35 : lw_okq (⟨"SnapshotFilesModel", "tell", "(I)V"⟩, 30) := ⟨⟨by decide +kernel, by decide +kernel⟩, List.mem_of_getElem? (i := 666) (by decide +kernel), List.mem_of_getElem? (i := 825) (by decide +kernel), List.mem_of_getElem? (i := 826) (by decide +kernel)⟩
theorem lw_p36 : lw_okq (⟨"SnapshotFilesModel", "walk", "(I)I"⟩, 30) := ⟨⟨by decide +kernel, by decide +kernel⟩, List.mem_of_getElem? (i := 666) (by decide +kernel), List.mem_of_getElem? (i := 829) (by decide +kernel), List.mem_of_getElem? (i := 830) (by decide +kernel)⟩
theorem lw_p37 : lw_okq (⟨"SnapshotFilesModel", "isDirectory", "(I)Z"⟩, 30) := ⟨⟨by decide +kernel, by decide +kernel⟩, List.mem_of_getElem? (i := 666) (by decide +kernel), List.mem_of_getElem? (i := 833) (by decide +kernel), List.mem_of_getElem? (i := 834) (by decide +kernel)⟩
theorem lw_p38 : lw_okq (⟨"SnapshotFilesModel", "has", "(III)Z"⟩, 30) := ⟨⟨by decide +kernel, by decide +kernel⟩, List.mem_of_getElem? (i := 666) (by decide +kernel), List.mem_of_getElem? (i := 837) (by decide +kernel), List.mem_of_getElem? (i := 838) (by decide +kernel)⟩
theorem lw_p39 : lw_okq (⟨"SnapshotFilesModel", "parent", "(I)I"⟩, 30) := ⟨⟨by decide +kernel, by decide +kernel⟩, List.mem_of_getElem? (i := 666) (by decide +kernel), List.mem_of_getElem? (i := 841) (by decide +kernel), List.mem_of_getElem? (i := 842) (by decide +kernel)⟩
theorem lw_p40 : lw_okq (⟨"SnapshotFilesModel", "child", "(II)I"⟩, 30) := ⟨⟨by decide +kernel, by decide +kernel⟩, List.mem_of_getElem? (i := 666) (by decide +kernel), List.mem_of_getElem? (i := 845) (by decide +kernel), List.mem_of_getElem? (i := 846) (by decide +kernel)⟩
theorem lw_p41 : lw_okq (⟨"SnapshotFilesModel", "opening", "(I)I"⟩, 30) := ⟨⟨by decide +kernel, by decide +kernel⟩, List.mem_of_getElem? (i := 666) (by decide +kernel), List.mem_of_getElem? (i := 849) (by decide +kernel), List.mem_of_getElem? (i := 850) (by decide +kernel)⟩
theorem lw_p42 : lw_okq (⟨"SnapshotFilesModel", "reads", "(I)Z"⟩, 30) := ⟨⟨by decide +kernel, by decide +kernel⟩, List.mem_of_getElem? (i := 666) (by decide +kernel), List.mem_of_getElem? (i := 856) (by decide +kernel), List.mem_of_getElem? (i := 857) (by decide +kernel)⟩
theorem lw_p43 : lw_okq (⟨"SnapshotFilesModel", "writes", "(I)Z"⟩, 30) := ⟨⟨by decide +kernel, by decide +kernel⟩, List.mem_of_getElem? (i := 666) (by decide +kernel), List.mem_of_getElem? (i := 860) (by decide +kernel), List.mem_of_getElem? (i := 861) (by decide +kernel)⟩
theorem lw_p44 : lw_okq (⟨"SnapshotFilesModel", "isBusy", "(II)Z"⟩, 30) := ⟨⟨by decide +kernel, by decide +kernel⟩, List.mem_of_getElem? (i := 666) (by decide +kernel), List.mem_of_getElem? (i := 864) (by decide +kernel), List.mem_of_getElem? (i := 865) (by decide +kernel)⟩
theorem lw_p45 : lw_okq (⟨"SnapshotFilesModel", "needed", "(I)I"⟩, 30) := ⟨⟨by decide +kernel, by decide +kernel⟩, List.mem_of_getElem? (i := 666) (by decide +kernel), List.mem_of_getElem? (i := 868) (by decide +kernel), List.mem_of_getElem? (i := 869) (by decide +kernel)⟩
theorem lw_p46 : lw_okq (⟨"SnapshotFilesModel", "inOld", "(I)Z"⟩, 30) := ⟨⟨by decide +kernel, by decide +kernel⟩, List.mem_of_getElem? (i := 666) (by decide +kernel), List.mem_of_getElem? (i := 872) (by decide +kernel), List.mem_of_getElem? (i := 873) (by decide +kernel)⟩
theorem lw_p47 : lw_okq (⟨"SnapshotFilesModel", "fits", "(I)Z"⟩, 30) := ⟨⟨by decide +kernel, by decide +kernel⟩, List.mem_of_getElem? (i := 666) (by decide +kernel), List.mem_of_getElem? (i := 876) (by decide +kernel), List.mem_of_getElem? (i := 877) (by decide +kernel)⟩
def lw_privs_3 : List (MethodName × Nat) := [(⟨"SnapshotFilesModel", "attach", "(I)I"⟩, 30), (⟨"SnapshotFilesModel", "nodeOf", "(I)I"⟩, 30), (⟨"SnapshotFilesModel", "cell", "(II)I"⟩, 30), (⟨"SnapshotFilesModel", "tell", "(I)V"⟩, 30), (⟨"SnapshotFilesModel", "walk", "(I)I"⟩, 30), (⟨"SnapshotFilesModel", "isDirectory", "(I)Z"⟩, 30), (⟨"SnapshotFilesModel", "has", "(III)Z"⟩, 30), (⟨"SnapshotFilesModel", "parent", "(I)I"⟩, 30), (⟨"SnapshotFilesModel", "child", "(II)I"⟩, 30), (⟨"SnapshotFilesModel", "opening", "(I)I"⟩, 30), (⟨"SnapshotFilesModel", "reads", "(I)Z"⟩, 30), (⟨"SnapshotFilesModel", "writes", "(I)Z"⟩, 30), (⟨"SnapshotFilesModel", "isBusy", "(II)Z"⟩, 30), (⟨"SnapshotFilesModel", "needed", "(I)I"⟩, 30), (⟨"SnapshotFilesModel", "inOld", "(I)Z"⟩, 30), (⟨"SnapshotFilesModel", "fits", "(I)Z"⟩, 30)]
theorem lw_r3 : ∀ q ∈ lw_privs_3, lw_okq q := List.forall_mem_cons.mpr ⟨lw_p32, List.forall_mem_cons.mpr ⟨lw_p33, List.forall_mem_cons.mpr ⟨lw_p34, List.forall_mem_cons.mpr ⟨lw_p35, List.forall_mem_cons.mpr ⟨lw_p36, List.forall_mem_cons.mpr ⟨lw_p37, List.forall_mem_cons.mpr ⟨lw_p38, List.forall_mem_cons.mpr ⟨lw_p39, List.forall_mem_cons.mpr ⟨lw_p40, List.forall_mem_cons.mpr ⟨lw_p41, List.forall_mem_cons.mpr ⟨lw_p42, List.forall_mem_cons.mpr ⟨lw_p43, List.forall_mem_cons.mpr ⟨lw_p44, List.forall_mem_cons.mpr ⟨lw_p45, List.forall_mem_cons.mpr ⟨lw_p46, List.forall_mem_cons.mpr ⟨lw_p47, fun _ h => absurd h List.not_mem_nil⟩⟩⟩⟩⟩⟩⟩⟩⟩⟩⟩⟩⟩⟩⟩⟩
theorem lw_p48 : lw_okq (⟨"SnapshotFilesModel", "change", "(I)V"⟩, 30) := ⟨⟨by decide +kernel, by decide +kernel⟩, List.mem_of_getElem? (i := 666) (by decide +kernel), List.mem_of_getElem? (i := 884) (by decide +kernel), List.mem_of_getElem? (i := 885) (by decide +kernel)⟩
theorem lw_p49 : lw_okq (⟨"SnapshotFilesModel", "create", "(I)I"⟩, 30) := ⟨⟨by decide +kernel, by decide +kernel⟩, List.mem_of_getElem? (i := 666) (by decide +kernel), List.mem_of_getElem? (i := 888) (by decide +kernel), List.mem_of_getElem? (i := 889) (by decide +kernel)⟩
theorem lw_p50 : lw_okq (⟨"SnapshotFilesModel", "children", "(I)I"⟩, 30) := ⟨⟨by decide +kernel, by decide +kernel⟩, List.mem_of_getElem? (i := 666) (by decide +kernel), List.mem_of_getElem? (i := 892) (by decide +kernel), List.mem_of_getElem? (i := 893) (by decide +kernel)⟩
theorem lw_p51 : lw_okq (⟨"SnapshotFilesModel", "depth", "(I)I"⟩, 30) := ⟨⟨by decide +kernel, by decide +kernel⟩, List.mem_of_getElem? (i := 666) (by decide +kernel), List.mem_of_getElem? (i := 896) (by decide +kernel), List.mem_of_getElem? (i := 897) (by decide +kernel)⟩
theorem lw_p52 : lw_okq (⟨"SnapshotFilesModel", "readFrom", "(I)I"⟩, 30) := ⟨⟨by decide +kernel, by decide +kernel⟩, List.mem_of_getElem? (i := 666) (by decide +kernel), List.mem_of_getElem? (i := 900) (by decide +kernel), List.mem_of_getElem? (i := 901) (by decide +kernel)⟩
theorem lw_p53 : lw_okq (⟨"SnapshotFilesModel", "writeTo", "(I)I"⟩, 30) := ⟨⟨by decide +kernel, by decide +kernel⟩, List.mem_of_getElem? (i := 666) (by decide +kernel), List.mem_of_getElem? (i := 904) (by decide +kernel), List.mem_of_getElem? (i := 905) (by decide +kernel)⟩
theorem lw_p54 : lw_okq (⟨"SnapshotFilesModel", "grow", "(II)V"⟩, 30) := ⟨⟨by decide +kernel, by decide +kernel⟩, List.mem_of_getElem? (i := 666) (by decide +kernel), List.mem_of_getElem? (i := 908) (by decide +kernel), List.mem_of_getElem? (i := 909) (by decide +kernel)⟩
theorem lw_p55 : lw_okq (⟨"SnapshotFilesModel", "clunk", "(I)I"⟩, 30) := ⟨⟨by decide +kernel, by decide +kernel⟩, List.mem_of_getElem? (i := 666) (by decide +kernel), List.mem_of_getElem? (i := 912) (by decide +kernel), List.mem_of_getElem? (i := 913) (by decide +kernel)⟩
theorem lw_p56 : lw_okq (⟨"SnapshotFilesModel", "removed", "(III)I"⟩, 30) := ⟨⟨by decide +kernel, by decide +kernel⟩, List.mem_of_getElem? (i := 666) (by decide +kernel), List.mem_of_getElem? (i := 916) (by decide +kernel), List.mem_of_getElem? (i := 917) (by decide +kernel)⟩
theorem lw_p57 : lw_okq (⟨"SnapshotFilesModel", "copy", "(II)V"⟩, 30) := ⟨⟨by decide +kernel, by decide +kernel⟩, List.mem_of_getElem? (i := 666) (by decide +kernel), List.mem_of_getElem? (i := 920) (by decide +kernel), List.mem_of_getElem? (i := 921) (by decide +kernel)⟩
theorem lw_p58 : lw_okq (⟨"SnapshotFilesModel", "remove", "(I)I"⟩, 30) := ⟨⟨by decide +kernel, by decide +kernel⟩, List.mem_of_getElem? (i := 666) (by decide +kernel), List.mem_of_getElem? (i := 924) (by decide +kernel), List.mem_of_getElem? (i := 925) (by decide +kernel)⟩
theorem lw_p59 : lw_okq (⟨"SnapshotFilesModel", "stat", "(I)I"⟩, 30) := ⟨⟨by decide +kernel, by decide +kernel⟩, List.mem_of_getElem? (i := 666) (by decide +kernel), List.mem_of_getElem? (i := 928) (by decide +kernel), List.mem_of_getElem? (i := 929) (by decide +kernel)⟩
theorem lw_p60 : lw_okq (⟨"SnapshotFilesModel", "wstat", "(I)I"⟩, 30) := ⟨⟨by decide +kernel, by decide +kernel⟩, List.mem_of_getElem? (i := 666) (by decide +kernel), List.mem_of_getElem? (i := 932) (by decide +kernel), List.mem_of_getElem? (i := 933) (by decide +kernel)⟩
theorem lw_p61 : lw_okq (⟨"SnapshotFilesModel", "copyTree", "(II)V"⟩, 30) := ⟨⟨by decide +kernel, by decide +kernel⟩, List.mem_of_getElem? (i := 666) (by decide +kernel), List.mem_of_getElem? (i := 952) (by decide +kernel), List.mem_of_getElem? (i := 953) (by decide +kernel)⟩
def lw_privs_4 : List (MethodName × Nat) := [(⟨"SnapshotFilesModel", "change", "(I)V"⟩, 30), (⟨"SnapshotFilesModel", "create", "(I)I"⟩, 30), (⟨"SnapshotFilesModel", "children", "(I)I"⟩, 30), (⟨"SnapshotFilesModel", "depth", "(I)I"⟩, 30), (⟨"SnapshotFilesModel", "readFrom", "(I)I"⟩, 30), (⟨"SnapshotFilesModel", "writeTo", "(I)I"⟩, 30), (⟨"SnapshotFilesModel", "grow", "(II)V"⟩, 30), (⟨"SnapshotFilesModel", "clunk", "(I)I"⟩, 30), (⟨"SnapshotFilesModel", "removed", "(III)I"⟩, 30), (⟨"SnapshotFilesModel", "copy", "(II)V"⟩, 30), (⟨"SnapshotFilesModel", "remove", "(I)I"⟩, 30), (⟨"SnapshotFilesModel", "stat", "(I)I"⟩, 30), (⟨"SnapshotFilesModel", "wstat", "(I)I"⟩, 30), (⟨"SnapshotFilesModel", "copyTree", "(II)V"⟩, 30)]
theorem lw_r4 : ∀ q ∈ lw_privs_4, lw_okq q := List.forall_mem_cons.mpr ⟨lw_p48, List.forall_mem_cons.mpr ⟨lw_p49, List.forall_mem_cons.mpr ⟨lw_p50, List.forall_mem_cons.mpr ⟨lw_p51, List.forall_mem_cons.mpr ⟨lw_p52, List.forall_mem_cons.mpr ⟨lw_p53, List.forall_mem_cons.mpr ⟨lw_p54, List.forall_mem_cons.mpr ⟨lw_p55, List.forall_mem_cons.mpr ⟨lw_p56, List.forall_mem_cons.mpr ⟨lw_p57, List.forall_mem_cons.mpr ⟨lw_p58, List.forall_mem_cons.mpr ⟨lw_p59, List.forall_mem_cons.mpr ⟨lw_p60, List.forall_mem_cons.mpr ⟨lw_p61, fun _ h => absurd h List.not_mem_nil⟩⟩⟩⟩⟩⟩⟩⟩⟩⟩⟩⟩⟩⟩
def lw_privs : List (MethodName × Nat) := lw_privs_1 ++ (lw_privs_2 ++ (lw_privs_3 ++ (lw_privs_4)))
def lw_tbl : List Cond := k2_sels lw_privs ++ tables_1
theorem lw_privs_ok : ∀ q ∈ lw_privs, lw_okq q := by
  show ∀ q ∈ lw_privs_1 ++ (lw_privs_2 ++ (lw_privs_3 ++ (lw_privs_4))), lw_okq q
  exact List.forall_mem_append.mpr ⟨lw_r1, List.forall_mem_append.mpr ⟨lw_r2, List.forall_mem_append.mpr ⟨lw_r3, lw_r4⟩⟩⟩
-- fields in the order of the slots
def tn_0 : u_T := fun k => match k with
  | 0 => ("SnapshotFiles$Block", "bytes", "[I", true)
  | 1 => ("SnapshotFiles$Block", "trees", "I", false)
  | 2 => ("SnapshotFiles$Block", "path", "I", false)
  | 3 => ("SnapshotFiles$Block", "above", "I", false)
  | 4 => ("SnapshotFiles$Block", "title", "I", false)
  | 5 => ("SnapshotFiles$Block", "owner", "I", false)
  | 6 => ("SnapshotFiles$Block", "group", "I", false)
  | 7 => ("SnapshotFiles$Block", "version", "I", false)
  | 8 => ("SnapshotFiles$Block", "mode", "I", false)
  | _ => ("SnapshotFiles$Block", "length", "I", false)
def ty_0 : Nat → FieldType := fun k => match k with
  | 0 => (.array .int)
  | 1 => .int
  | 2 => .int
  | 3 => .int
  | 4 => .int
  | 5 => .int
  | 6 => .int
  | 7 => .int
  | 8 => .int
  | _ => .int
def tn_1 : u_T := fun k => match k with
  | 0 => ("SnapshotFiles$Connection", "fids", "[LSnapshotFiles$Fid;", true)
  | _ => ("SnapshotFiles$Connection", "requests", "[LSnapshotFiles$Request;", true)
def ty_1 : Nat → FieldType := fun k => match k with
  | 0 => (.array (.object "SnapshotFiles$Fid"))
  | _ => (.array (.object "SnapshotFiles$Request"))
def tn_2 : u_T := fun k => match k with
  | 0 => ("SnapshotFiles$Fid", "inUse", "Z", false)
  | 1 => ("SnapshotFiles$Fid", "open", "Z", false)
  | 2 => ("SnapshotFiles$Fid", "user", "I", false)
  | 3 => ("SnapshotFiles$Fid", "tree", "I", false)
  | 4 => ("SnapshotFiles$Fid", "path", "I", false)
  | 5 => ("SnapshotFiles$Fid", "openMode", "I", false)
  | _ => ("SnapshotFiles$Fid", "readEnd", "I", false)
def ty_2 : Nat → FieldType := fun k => match k with
  | 0 => .boolean
  | 1 => .boolean
  | 2 => .int
  | 3 => .int
  | 4 => .int
  | 5 => .int
  | _ => .int
def tn_3 : u_T := fun k => match k with
  | _ => ("SnapshotFiles$Members", "pairs", "I", false)
def ty_3 : Nat → FieldType := fun k => match k with
  | _ => .int
def tn_4 : u_T := fun k => match k with
  | 0 => ("SnapshotFiles$Request", "numbers", "LSnapshotFiles$Row;", true)
  | 1 => ("SnapshotFiles$Request", "waits", "Z", false)
  | 2 => ("SnapshotFiles$Request", "kind", "I", false)
  | _ => ("SnapshotFiles$Request", "fid", "I", false)
def ty_4 : Nat → FieldType := fun k => match k with
  | 0 => (.object "SnapshotFiles$Row")
  | 1 => .boolean
  | 2 => .int
  | _ => .int
def tn_5 : u_T := fun k => match k with
  | 0 => ("SnapshotFiles$Row", "numbers", "[I", true)
  | _ => ("SnapshotFiles$Row", "count", "I", false)
def ty_5 : Nat → FieldType := fun k => match k with
  | 0 => (.array .int)
  | _ => .int
def tn_6 : u_T := fun k => match k with
  | 0 => ("SnapshotFiles$Store", "pool", "[LSnapshotFiles$Block;", true)
  | 1 => ("SnapshotFiles$Store", "snapshots", "I", false)
  | _ => ("SnapshotFiles$Store", "paths", "I", false)
def ty_6 : Nat → FieldType := fun k => match k with
  | 0 => (.array (.object "SnapshotFiles$Block"))
  | 1 => .int
  | _ => .int
def tn_7 : u_T := fun k => match k with
  | 0 => ("SnapshotFiles$Wish", "title", "I", false)
  | 1 => ("SnapshotFiles$Wish", "mode", "I", false)
  | 2 => ("SnapshotFiles$Wish", "length", "I", false)
  | _ => ("SnapshotFiles$Wish", "group", "I", false)
def ty_7 : Nat → FieldType := fun k => match k with
  | 0 => .int
  | 1 => .int
  | 2 => .int
  | _ => .int
def tn_8 : u_T := fun k => match k with
  | 0 => ("SnapshotFiles", "store", "LSnapshotFiles$Store;", true)
  | 1 => ("SnapshotFiles", "members", "LSnapshotFiles$Members;", true)
  | 2 => ("SnapshotFiles", "connections", "[LSnapshotFiles$Connection;", true)
  | 3 => ("SnapshotFiles", "said", "LSnapshotFiles$Row;", true)
  | 4 => ("SnapshotFiles", "replied", "LSnapshotFiles$Row;", true)
  | _ => ("SnapshotFiles", "wish", "LSnapshotFiles$Wish;", true)
def ty_8 : Nat → FieldType := fun k => match k with
  | 0 => (.object "SnapshotFiles$Store")
  | 1 => (.object "SnapshotFiles$Members")
  | 2 => (.array (.object "SnapshotFiles$Connection"))
  | 3 => (.object "SnapshotFiles$Row")
  | 4 => (.object "SnapshotFiles$Row")
  | _ => (.object "SnapshotFiles$Wish")
def tn_9 : u_T := fun k => match k with
  | 0 => ("SnapshotFilesModel", "members", "[Z", true)
  | 1 => ("SnapshotFilesModel", "many", "[I", true)
  | 2 => ("SnapshotFilesModel", "path", "[I", true)
  | 3 => ("SnapshotFilesModel", "above", "[I", true)
  | 4 => ("SnapshotFilesModel", "title", "[I", true)
  | 5 => ("SnapshotFilesModel", "owner", "[I", true)
  | 6 => ("SnapshotFilesModel", "group", "[I", true)
  | 7 => ("SnapshotFilesModel", "version", "[I", true)
  | 8 => ("SnapshotFilesModel", "mode", "[I", true)
  | 9 => ("SnapshotFilesModel", "length", "[I", true)
  | 10 => ("SnapshotFilesModel", "block", "[I", true)
  | 11 => ("SnapshotFilesModel", "bytes", "[I", true)
  | 12 => ("SnapshotFilesModel", "paths", "I", false)
  | 13 => ("SnapshotFilesModel", "drawn", "I", false)
  | 14 => ("SnapshotFilesModel", "snapshots", "I", false)
  | 15 => ("SnapshotFilesModel", "user", "[I", true)
  | 16 => ("SnapshotFilesModel", "tree", "[I", true)
  | 17 => ("SnapshotFilesModel", "at", "[I", true)
  | 18 => ("SnapshotFilesModel", "openMode", "[I", true)
  | 19 => ("SnapshotFilesModel", "ended", "[I", true)
  | 20 => ("SnapshotFilesModel", "kind", "[I", true)
  | 21 => ("SnapshotFilesModel", "about", "[I", true)
  | 22 => ("SnapshotFilesModel", "count", "[I", true)
  | 23 => ("SnapshotFilesModel", "numbers", "[I", true)
  | 24 => ("SnapshotFilesModel", "said", "I", false)
  | 25 => ("SnapshotFilesModel", "saying", "[I", true)
  | 26 => ("SnapshotFilesModel", "replied", "I", false)
  | 27 => ("SnapshotFilesModel", "answer", "[I", true)
  | 28 => ("SnapshotFilesModel", "n", "[I", true)
  | _ => ("SnapshotFilesModel", "given", "I", false)
def ty_9 : Nat → FieldType := fun k => match k with
  | 0 => (.array .boolean)
  | 1 => (.array .int)
  | 2 => (.array .int)
  | 3 => (.array .int)
  | 4 => (.array .int)
  | 5 => (.array .int)
  | 6 => (.array .int)
  | 7 => (.array .int)
  | 8 => (.array .int)
  | 9 => (.array .int)
  | 10 => (.array .int)
  | 11 => (.array .int)
  | 12 => .int
  | 13 => .int
  | 14 => .int
  | 15 => (.array .int)
  | 16 => (.array .int)
  | 17 => (.array .int)
  | 18 => (.array .int)
  | 19 => (.array .int)
  | 20 => (.array .int)
  | 21 => (.array .int)
  | 22 => (.array .int)
  | 23 => (.array .int)
  | 24 => .int
  | 25 => (.array .int)
  | 26 => .int
  | 27 => (.array .int)
  | 28 => (.array .int)
  | _ => .int
def vwCl : List vw_C := [("SnapshotFiles$Block", tn_0, 10), ("SnapshotFiles$Connection", tn_1, 2), ("SnapshotFiles$Fid", tn_2, 7), ("SnapshotFiles$Members", tn_3, 1), ("SnapshotFiles$Request", tn_4, 4), ("SnapshotFiles$Row", tn_5, 2), ("SnapshotFiles$Store", tn_6, 3), ("SnapshotFiles$Wish", tn_7, 4), ("SnapshotFiles", tn_8, 6), ("SnapshotFilesModel", tn_9, 30)]
def mm_ty : List FieldType := [.int, .boolean, .object "SnapshotFiles$Block", .object "SnapshotFiles$Connection", .object "SnapshotFiles$Fid", .object "SnapshotFiles$Request"]
abbrev b_X_init : ByteArray := prog_1_method_1_code
def y_X_init : MethodName := ⟨"SnapshotFiles", "<init>", "()V"⟩
abbrev b_S_init : ByteArray := prog_8_method_1_code
def y_S_init : MethodName := ⟨"SnapshotFiles$Store", "<init>", "()V"⟩
abbrev b_B_init : ByteArray := prog_2_method_1_code
def y_B_init : MethodName := ⟨"SnapshotFiles$Block", "<init>", "()V"⟩
abbrev b_B_begin : ByteArray := prog_2_method_9_code
def y_B_begin : MethodName := ⟨"SnapshotFiles$Block", "begin", "(IIIIII)V"⟩
abbrev b_B_enter : ByteArray := prog_2_method_4_code
def y_B_enter : MethodName := ⟨"SnapshotFiles$Block", "enter", "(I)V"⟩
abbrev b_M_init : ByteArray := prog_5_method_1_code
def y_M_init : MethodName := ⟨"SnapshotFiles$Members", "<init>", "()V"⟩
abbrev b_C_init : ByteArray := prog_3_method_1_code
def y_C_init : MethodName := ⟨"SnapshotFiles$Connection", "<init>", "()V"⟩
abbrev b_F_init : ByteArray := prog_4_method_1_code
def y_F_init : MethodName := ⟨"SnapshotFiles$Fid", "<init>", "()V"⟩
abbrev b_Q_init : ByteArray := prog_6_method_1_code
def y_Q_init : MethodName := ⟨"SnapshotFiles$Request", "<init>", "()V"⟩
abbrev b_R_init : ByteArray := prog_7_method_1_code
def y_R_init : MethodName := ⟨"SnapshotFiles$Row", "<init>", "(I)V"⟩
abbrev b_W_init : ByteArray := prog_9_method_1_code
def y_W_init : MethodName := ⟨"SnapshotFiles$Wish", "<init>", "()V"⟩
abbrev b_X_member : ByteArray := prog_1_method_2_code
def y_X_member : MethodName := ⟨"SnapshotFiles", "member", "(II)Z"⟩
abbrev b_X_isUser : ByteArray := prog_1_method_45_code
def y_X_isUser : MethodName := ⟨"SnapshotFiles", "isUser", "(I)Z"⟩
abbrev b_M_isIn : ByteArray := prog_5_method_2_code
def y_M_isIn : MethodName := ⟨"SnapshotFiles$Members", "isIn", "(II)Z"⟩
abbrev b_M_join : ByteArray := prog_5_method_3_code
def y_M_join : MethodName := ⟨"SnapshotFiles$Members", "join", "(II)V"⟩
abbrev b_X_say : ByteArray := prog_1_method_3_code
def y_X_say : MethodName := ⟨"SnapshotFiles", "say", "(I)Z"⟩
abbrev b_R_add : ByteArray := prog_7_method_3_code
def y_R_add : MethodName := ⟨"SnapshotFiles$Row", "add", "(I)V"⟩
abbrev b_X_send : ByteArray := prog_1_method_4_code
def y_X_send : MethodName := ⟨"SnapshotFiles", "send", "(IIII)Z"⟩
abbrev b_X_requestAt : ByteArray := prog_1_method_17_code
def y_X_requestAt : MethodName := ⟨"SnapshotFiles", "requestAt", "(II)LSnapshotFiles$Request;"⟩
abbrev b_X_connectionAt : ByteArray := prog_1_method_16_code
def y_X_connectionAt : MethodName := ⟨"SnapshotFiles", "connectionAt", "(I)LSnapshotFiles$Connection;"⟩
abbrev b_C_requestAt : ByteArray := prog_3_method_3_code
def y_C_requestAt : MethodName := ⟨"SnapshotFiles$Connection", "requestAt", "(I)LSnapshotFiles$Request;"⟩
abbrev b_Q_begin : ByteArray := prog_6_method_2_code
def y_Q_begin : MethodName := ⟨"SnapshotFiles$Request", "begin", "(IILSnapshotFiles$Row;)V"⟩
abbrev b_R_copyFrom : ByteArray := prog_7_method_5_code
def y_R_copyFrom : MethodName := ⟨"SnapshotFiles$Row", "copyFrom", "(LSnapshotFiles$Row;)V"⟩
abbrev b_R_clear : ByteArray := prog_7_method_2_code
def y_R_clear : MethodName := ⟨"SnapshotFiles$Row", "clear", "()V"⟩
abbrev b_R_at : ByteArray := prog_7_method_4_code
def y_R_at : MethodName := ⟨"SnapshotFiles$Row", "at", "(I)I"⟩
abbrev b_X_serve : ByteArray := prog_1_method_5_code
def y_X_serve : MethodName := ⟨"SnapshotFiles", "serve", "(II)I"⟩
abbrev b_X_answer : ByteArray := prog_1_method_18_code
def y_X_answer : MethodName := ⟨"SnapshotFiles", "answer", "(LSnapshotFiles$Connection;LSnapshotFiles$Request;)I"⟩
abbrev b_C_fidAt : ByteArray := prog_3_method_2_code
def y_C_fidAt : MethodName := ⟨"SnapshotFiles$Connection", "fidAt", "(I)LSnapshotFiles$Fid;"⟩
abbrev b_X_hasItsNumbers : ByteArray := prog_1_method_19_code
def y_X_hasItsNumbers : MethodName := ⟨"SnapshotFiles", "hasItsNumbers", "(II)Z"⟩
abbrev b_X_attach : ByteArray := prog_1_method_20_code
def y_X_attach : MethodName := ⟨"SnapshotFiles", "attach", "(LSnapshotFiles$Fid;II)I"⟩
abbrev b_S_find : ByteArray := prog_8_method_2_code
def y_S_find : MethodName := ⟨"SnapshotFiles$Store", "find", "(II)LSnapshotFiles$Block;"⟩
abbrev b_F_take : ByteArray := prog_4_method_2_code
def y_F_take : MethodName := ⟨"SnapshotFiles$Fid", "take", "(III)V"⟩
abbrev b_X_replyWithMode : ByteArray := prog_1_method_44_code
def y_X_replyWithMode : MethodName := ⟨"SnapshotFiles", "replyWithMode", "(LSnapshotFiles$Block;)V"⟩
abbrev b_X_replyWithVersion : ByteArray := prog_1_method_43_code
def y_X_replyWithVersion : MethodName := ⟨"SnapshotFiles", "replyWithVersion", "(LSnapshotFiles$Block;)V"⟩
abbrev b_X_walk : ByteArray := prog_1_method_21_code
def y_X_walk : MethodName := ⟨"SnapshotFiles", "walk", "(LSnapshotFiles$Fid;LSnapshotFiles$Fid;LSnapshotFiles$Row;)I"⟩
abbrev b_X_nodeOf : ByteArray := prog_1_method_42_code
def y_X_nodeOf : MethodName := ⟨"SnapshotFiles", "nodeOf", "(LSnapshotFiles$Fid;)LSnapshotFiles$Block;"⟩
abbrev b_X_walkTitles : ByteArray := prog_1_method_22_code
def y_X_walkTitles : MethodName := ⟨"SnapshotFiles", "walkTitles", "(LSnapshotFiles$Fid;LSnapshotFiles$Fid;LSnapshotFiles$Block;LSnapshotFiles$Row;)I"⟩
abbrev b_S_child : ByteArray := prog_8_method_4_code
def y_S_child : MethodName := ⟨"SnapshotFiles$Store", "child", "(ILSnapshotFiles$Block;I)LSnapshotFiles$Block;"⟩
abbrev b_S_childBehind : ByteArray := prog_8_method_5_code
def y_S_childBehind : MethodName := ⟨"SnapshotFiles$Store", "childBehind", "(ILSnapshotFiles$Block;I)LSnapshotFiles$Block;"⟩
abbrev b_B_isNodeOf : ByteArray := prog_2_method_8_code
def y_B_isNodeOf : MethodName := ⟨"SnapshotFiles$Block", "isNodeOf", "(ILSnapshotFiles$Block;)Z"⟩
abbrev b_X_hindranceOfStep : ByteArray := prog_1_method_23_code
def y_X_hindranceOfStep : MethodName := ⟨"SnapshotFiles", "hindranceOfStep", "(ILSnapshotFiles$Block;LSnapshotFiles$Block;)I"⟩
abbrev b_B_isDirectory : ByteArray := prog_2_method_7_code
def y_B_isDirectory : MethodName := ⟨"SnapshotFiles$Block", "isDirectory", "()Z"⟩
abbrev b_B_is : ByteArray := prog_2_method_6_code
def y_B_is : MethodName := ⟨"SnapshotFiles$Block", "is", "(I)Z"⟩
abbrev b_M_may : ByteArray := prog_5_method_4_code
def y_M_may : MethodName := ⟨"SnapshotFiles$Members", "may", "(ILSnapshotFiles$Block;I)Z"⟩
abbrev b_X_open : ByteArray := prog_1_method_24_code
def y_X_open : MethodName := ⟨"SnapshotFiles", "open", "(LSnapshotFiles$Fid;I)I"⟩
abbrev b_X_hindranceOfOpening : ByteArray := prog_1_method_25_code
def y_X_hindranceOfOpening : MethodName := ⟨"SnapshotFiles", "hindranceOfOpening", "(LSnapshotFiles$Fid;LSnapshotFiles$Block;I)I"⟩
abbrev b_X_isOpenMode : ByteArray := prog_1_method_47_code
def y_X_isOpenMode : MethodName := ⟨"SnapshotFiles", "isOpenMode", "(I)Z"⟩
abbrev b_F_isInSnapshot : ByteArray := prog_4_method_5_code
def y_F_isInSnapshot : MethodName := ⟨"SnapshotFiles$Fid", "isInSnapshot", "()Z"⟩
abbrev b_X_mayOpen : ByteArray := prog_1_method_26_code
def y_X_mayOpen : MethodName := ⟨"SnapshotFiles", "mayOpen", "(LSnapshotFiles$Fid;LSnapshotFiles$Block;I)Z"⟩
abbrev b_X_isForReading : ByteArray := prog_1_method_48_code
def y_X_isForReading : MethodName := ⟨"SnapshotFiles", "isForReading", "(I)Z"⟩
abbrev b_X_isForWriting : ByteArray := prog_1_method_49_code
def y_X_isForWriting : MethodName := ⟨"SnapshotFiles", "isForWriting", "(I)Z"⟩
abbrev b_S_above : ByteArray := prog_8_method_3_code
def y_S_above : MethodName := ⟨"SnapshotFiles$Store", "above", "(ILSnapshotFiles$Block;)LSnapshotFiles$Block;"⟩
abbrev b_X_isOpen : ByteArray := prog_1_method_27_code
def y_X_isOpen : MethodName := ⟨"SnapshotFiles", "isOpen", "(II)Z"⟩
abbrev b_C_hasOpen : ByteArray := prog_3_method_7_code
def y_C_hasOpen : MethodName := ⟨"SnapshotFiles$Connection", "hasOpen", "(II)Z"⟩
abbrev b_S_hasRoom : ByteArray := prog_8_method_11_code
def y_S_hasRoom : MethodName := ⟨"SnapshotFiles$Store", "hasRoom", "(LSnapshotFiles$Block;I)Z"⟩
abbrev b_B_isInOthersThan : ByteArray := prog_2_method_3_code
def y_B_isInOthersThan : MethodName := ⟨"SnapshotFiles$Block", "isInOthersThan", "(I)Z"⟩
abbrev b_S_countBlocks : ByteArray := prog_8_method_7_code
def y_S_countBlocks : MethodName := ⟨"SnapshotFiles$Store", "countBlocks", "()I"⟩
abbrev b_S_change : ByteArray := prog_8_method_13_code
def y_S_change : MethodName := ⟨"SnapshotFiles$Store", "change", "(LSnapshotFiles$Block;)LSnapshotFiles$Block;"⟩
abbrev b_S_ownBlockOf : ByteArray := prog_8_method_14_code
def y_S_ownBlockOf : MethodName := ⟨"SnapshotFiles$Store", "ownBlockOf", "(LSnapshotFiles$Block;)LSnapshotFiles$Block;"⟩
abbrev b_S_freeBlock : ByteArray := prog_8_method_15_code
def y_S_freeBlock : MethodName := ⟨"SnapshotFiles$Store", "freeBlock", "()LSnapshotFiles$Block;"⟩
abbrev b_B_copyNodeFrom : ByteArray := prog_2_method_10_code
def y_B_copyNodeFrom : MethodName := ⟨"SnapshotFiles$Block", "copyNodeFrom", "(LSnapshotFiles$Block;)V"⟩
abbrev b_B_leave : ByteArray := prog_2_method_5_code
def y_B_leave : MethodName := ⟨"SnapshotFiles$Block", "leave", "(I)V"⟩
abbrev b_B_setLength : ByteArray := prog_2_method_12_code
def y_B_setLength : MethodName := ⟨"SnapshotFiles$Block", "setLength", "(I)V"⟩
abbrev b_F_openAs : ByteArray := prog_4_method_3_code
def y_F_openAs : MethodName := ⟨"SnapshotFiles$Fid", "openAs", "(I)V"⟩
abbrev b_X_create : ByteArray := prog_1_method_28_code
def y_X_create : MethodName := ⟨"SnapshotFiles", "create", "(LSnapshotFiles$Fid;III)I"⟩
abbrev b_X_hindranceOfCreating : ByteArray := prog_1_method_29_code
def y_X_hindranceOfCreating : MethodName := ⟨"SnapshotFiles", "hindranceOfCreating", "(LSnapshotFiles$Fid;LSnapshotFiles$Block;III)I"⟩
abbrev b_X_isTitle : ByteArray := prog_1_method_46_code
def y_X_isTitle : MethodName := ⟨"SnapshotFiles", "isTitle", "(I)Z"⟩
abbrev b_S_hasRoomIn : ByteArray := prog_8_method_12_code
def y_S_hasRoomIn : MethodName := ⟨"SnapshotFiles$Store", "hasRoomIn", "(LSnapshotFiles$Block;)Z"⟩
abbrev b_S_countChildren : ByteArray := prog_8_method_6_code
def y_S_countChildren : MethodName := ⟨"SnapshotFiles$Store", "countChildren", "(ILSnapshotFiles$Block;)I"⟩
abbrev b_S_countAbove : ByteArray := prog_8_method_10_code
def y_S_countAbove : MethodName := ⟨"SnapshotFiles$Store", "countAbove", "(LSnapshotFiles$Block;)I"⟩
abbrev b_S_countNodes : ByteArray := prog_8_method_8_code
def y_S_countNodes : MethodName := ⟨"SnapshotFiles$Store", "countNodes", "()I"⟩
abbrev b_B_isIn : ByteArray := prog_2_method_2_code
def y_B_isIn : MethodName := ⟨"SnapshotFiles$Block", "isIn", "(I)Z"⟩
abbrev b_S_add : ByteArray := prog_8_method_16_code
def y_S_add : MethodName := ⟨"SnapshotFiles$Store", "add", "(LSnapshotFiles$Block;III)LSnapshotFiles$Block;"⟩
abbrev b_X_read : ByteArray := prog_1_method_30_code
def y_X_read : MethodName := ⟨"SnapshotFiles", "read", "(LSnapshotFiles$Fid;II)I"⟩
abbrev b_X_readBytes : ByteArray := prog_1_method_31_code
def y_X_readBytes : MethodName := ⟨"SnapshotFiles", "readBytes", "(LSnapshotFiles$Block;II)I"⟩
abbrev b_B_byteAt : ByteArray := prog_2_method_11_code
def y_B_byteAt : MethodName := ⟨"SnapshotFiles$Block", "byteAt", "(I)I"⟩
abbrev b_X_readTitles : ByteArray := prog_1_method_32_code
def y_X_readTitles : MethodName := ⟨"SnapshotFiles", "readTitles", "(ILSnapshotFiles$Block;II)I"⟩
abbrev b_X_write : ByteArray := prog_1_method_33_code
def y_X_write : MethodName := ⟨"SnapshotFiles", "write", "(LSnapshotFiles$Fid;LSnapshotFiles$Row;)I"⟩
abbrev b_X_areBytes : ByteArray := prog_1_method_34_code
def y_X_areBytes : MethodName := ⟨"SnapshotFiles", "areBytes", "(LSnapshotFiles$Row;)Z"⟩
abbrev b_B_putBytes : ByteArray := prog_2_method_13_code
def y_B_putBytes : MethodName := ⟨"SnapshotFiles$Block", "putBytes", "(ILSnapshotFiles$Row;)V"⟩
abbrev b_X_clunk : ByteArray := prog_1_method_35_code
def y_X_clunk : MethodName := ⟨"SnapshotFiles", "clunk", "(LSnapshotFiles$Fid;)I"⟩
abbrev b_F_free : ByteArray := prog_4_method_4_code
def y_F_free : MethodName := ⟨"SnapshotFiles$Fid", "free", "()V"⟩
abbrev b_X_removeNode : ByteArray := prog_1_method_37_code
def y_X_removeNode : MethodName := ⟨"SnapshotFiles", "removeNode", "(III)I"⟩
abbrev b_X_remove : ByteArray := prog_1_method_36_code
def y_X_remove : MethodName := ⟨"SnapshotFiles", "remove", "(LSnapshotFiles$Fid;)I"⟩
abbrev b_X_stat : ByteArray := prog_1_method_38_code
def y_X_stat : MethodName := ⟨"SnapshotFiles", "stat", "(LSnapshotFiles$Fid;)I"⟩
abbrev b_X_wstat : ByteArray := prog_1_method_39_code
def y_X_wstat : MethodName := ⟨"SnapshotFiles", "wstat", "(LSnapshotFiles$Fid;LSnapshotFiles$Row;)I"⟩
abbrev b_W_become : ByteArray := prog_9_method_2_code
def y_W_become : MethodName := ⟨"SnapshotFiles$Wish", "become", "(LSnapshotFiles$Row;)V"⟩
abbrev b_W_canBe : ByteArray := prog_9_method_3_code
def y_W_canBe : MethodName := ⟨"SnapshotFiles$Wish", "canBe", "(LSnapshotFiles$Block;)Z"⟩
abbrev b_X_mayWish : ByteArray := prog_1_method_40_code
def y_X_mayWish : MethodName := ⟨"SnapshotFiles", "mayWish", "(ILSnapshotFiles$Block;)Z"⟩
abbrev b_X_fulfilFor : ByteArray := prog_1_method_41_code
def y_X_fulfilFor : MethodName := ⟨"SnapshotFiles", "fulfilFor", "(LSnapshotFiles$Block;)I"⟩
abbrev b_W_changesNoMoreThanTitle : ByteArray := prog_9_method_4_code
def y_W_changesNoMoreThanTitle : MethodName := ⟨"SnapshotFiles$Wish", "changesNoMoreThanTitle", "()Z"⟩
abbrev b_W_applyTo : ByteArray := prog_9_method_5_code
def y_W_applyTo : MethodName := ⟨"SnapshotFiles$Wish", "applyTo", "(LSnapshotFiles$Block;)V"⟩
abbrev b_X_flush : ByteArray := prog_1_method_6_code
def y_X_flush : MethodName := ⟨"SnapshotFiles", "flush", "(II)Z"⟩
abbrev b_X_hangUp : ByteArray := prog_1_method_7_code
def y_X_hangUp : MethodName := ⟨"SnapshotFiles", "hangUp", "(I)Z"⟩
abbrev b_C_dropRequests : ByteArray := prog_3_method_5_code
def y_C_dropRequests : MethodName := ⟨"SnapshotFiles$Connection", "dropRequests", "()V"⟩
abbrev b_X_reply : ByteArray := prog_1_method_8_code
def y_X_reply : MethodName := ⟨"SnapshotFiles", "reply", "(I)I"⟩
abbrev b_X_waiting : ByteArray := prog_1_method_9_code
def y_X_waiting : MethodName := ⟨"SnapshotFiles", "waiting", "(I)I"⟩
abbrev b_C_countRequests : ByteArray := prog_3_method_4_code
def y_C_countRequests : MethodName := ⟨"SnapshotFiles$Connection", "countRequests", "()I"⟩
abbrev b_X_fid : ByteArray := prog_1_method_10_code
def y_X_fid : MethodName := ⟨"SnapshotFiles", "fid", "(II)I"⟩
abbrev b_X_sync : ByteArray := prog_1_method_11_code
def y_X_sync : MethodName := ⟨"SnapshotFiles", "sync", "(I)I"⟩
abbrev b_S_countUnsaved : ByteArray := prog_8_method_9_code
def y_S_countUnsaved : MethodName := ⟨"SnapshotFiles$Store", "countUnsaved", "()I"⟩
abbrev b_S_copyTree : ByteArray := prog_8_method_17_code
def y_S_copyTree : MethodName := ⟨"SnapshotFiles$Store", "copyTree", "(II)V"⟩
abbrev b_X_crash : ByteArray := prog_1_method_13_code
def y_X_crash : MethodName := ⟨"SnapshotFiles", "crash", "()V"⟩
abbrev b_C_dropFids : ByteArray := prog_3_method_6_code
def y_C_dropFids : MethodName := ⟨"SnapshotFiles$Connection", "dropFids", "()V"⟩
abbrev b_X_snapshot : ByteArray := prog_1_method_12_code
def y_X_snapshot : MethodName := ⟨"SnapshotFiles", "snapshot", "()I"⟩
abbrev b_S_addSnapshot : ByteArray := prog_8_method_18_code
def y_S_addSnapshot : MethodName := ⟨"SnapshotFiles$Store", "addSnapshot", "()I"⟩
abbrev b_X_blocks : ByteArray := prog_1_method_14_code
def y_X_blocks : MethodName := ⟨"SnapshotFiles", "blocks", "()I"⟩
abbrev b_X_nodes : ByteArray := prog_1_method_15_code
def y_X_nodes : MethodName := ⟨"SnapshotFiles", "nodes", "()I"⟩
abbrev b_N_init : ByteArray := prog_11_method_1_code
def y_N_init : MethodName := ⟨"SnapshotFilesModel", "<init>", "()V"⟩
abbrev b_N_free : ByteArray := prog_11_method_2_code
def y_N_free : MethodName := ⟨"SnapshotFilesModel", "free", "()V"⟩
abbrev b_N_member : ByteArray := prog_11_method_4_code
def y_N_member : MethodName := ⟨"SnapshotFilesModel", "member", "(II)Z"⟩
abbrev b_N_say : ByteArray := prog_11_method_5_code
def y_N_say : MethodName := ⟨"SnapshotFilesModel", "say", "(I)Z"⟩
abbrev b_N_send : ByteArray := prog_11_method_6_code
def y_N_send : MethodName := ⟨"SnapshotFilesModel", "send", "(IIII)Z"⟩
abbrev b_N_isOne : ByteArray := prog_11_method_3_code
def y_N_isOne : MethodName := ⟨"SnapshotFilesModel", "isOne", "(I)Z"⟩
abbrev b_N_flush : ByteArray := prog_11_method_8_code
def y_N_flush : MethodName := ⟨"SnapshotFilesModel", "flush", "(II)Z"⟩
abbrev b_N_waits : ByteArray := prog_11_method_7_code
def y_N_waits : MethodName := ⟨"SnapshotFilesModel", "waits", "(II)Z"⟩
abbrev b_N_waiting : ByteArray := prog_11_method_9_code
def y_N_waiting : MethodName := ⟨"SnapshotFilesModel", "waiting", "(I)I"⟩
abbrev b_N_reply : ByteArray := prog_11_method_10_code
def y_N_reply : MethodName := ⟨"SnapshotFilesModel", "reply", "(I)I"⟩
abbrev b_N_serve : ByteArray := prog_11_method_12_code
def y_N_serve : MethodName := ⟨"SnapshotFilesModel", "serve", "(II)I"⟩
abbrev b_N_least : ByteArray := prog_11_method_13_code
def y_N_least : MethodName := ⟨"SnapshotFilesModel", "least", "(I)I"⟩
abbrev b_N_most : ByteArray := prog_11_method_14_code
def y_N_most : MethodName := ⟨"SnapshotFilesModel", "most", "(I)I"⟩
abbrev b_N_done : ByteArray := prog_11_method_15_code
def y_N_done : MethodName := ⟨"SnapshotFilesModel", "done", "(II)I"⟩
abbrev b_N_attach : ByteArray := prog_11_method_29_code
def y_N_attach : MethodName := ⟨"SnapshotFilesModel", "attach", "(I)I"⟩
abbrev b_N_nodeOf : ByteArray := prog_11_method_17_code
def y_N_nodeOf : MethodName := ⟨"SnapshotFilesModel", "nodeOf", "(I)I"⟩
abbrev b_N_cell : ByteArray := prog_11_method_16_code
def y_N_cell : MethodName := ⟨"SnapshotFilesModel", "cell", "(II)I"⟩
abbrev b_N_tell : ByteArray := prog_11_method_11_code
def y_N_tell : MethodName := ⟨"SnapshotFilesModel", "tell", "(I)V"⟩
abbrev b_N_walk : ByteArray := prog_11_method_30_code
def y_N_walk : MethodName := ⟨"SnapshotFilesModel", "walk", "(I)I"⟩
abbrev b_N_isDirectory : ByteArray := prog_11_method_18_code
def y_N_isDirectory : MethodName := ⟨"SnapshotFilesModel", "isDirectory", "(I)Z"⟩
abbrev b_N_has : ByteArray := prog_11_method_23_code
def y_N_has : MethodName := ⟨"SnapshotFilesModel", "has", "(III)Z"⟩
abbrev b_N_parent : ByteArray := prog_11_method_21_code
def y_N_parent : MethodName := ⟨"SnapshotFilesModel", "parent", "(I)I"⟩
abbrev b_N_child : ByteArray := prog_11_method_19_code
def y_N_child : MethodName := ⟨"SnapshotFilesModel", "child", "(II)I"⟩
abbrev b_N_opening : ByteArray := prog_11_method_35_code
def y_N_opening : MethodName := ⟨"SnapshotFilesModel", "opening", "(I)I"⟩
abbrev b_N_isOpenMode : ByteArray := prog_11_method_31_code
def y_N_isOpenMode : MethodName := ⟨"SnapshotFilesModel", "isOpenMode", "(I)Z"⟩
abbrev b_N_reads : ByteArray := prog_11_method_32_code
def y_N_reads : MethodName := ⟨"SnapshotFilesModel", "reads", "(I)Z"⟩
abbrev b_N_writes : ByteArray := prog_11_method_33_code
def y_N_writes : MethodName := ⟨"SnapshotFilesModel", "writes", "(I)Z"⟩
abbrev b_N_isBusy : ByteArray := prog_11_method_34_code
def y_N_isBusy : MethodName := ⟨"SnapshotFilesModel", "isBusy", "(II)Z"⟩
abbrev b_N_needed : ByteArray := prog_11_method_26_code
def y_N_needed : MethodName := ⟨"SnapshotFilesModel", "needed", "(I)I"⟩
abbrev b_N_inOld : ByteArray := prog_11_method_24_code
def y_N_inOld : MethodName := ⟨"SnapshotFilesModel", "inOld", "(I)Z"⟩
abbrev b_N_fits : ByteArray := prog_11_method_27_code
def y_N_fits : MethodName := ⟨"SnapshotFilesModel", "fits", "(I)Z"⟩
abbrev b_N_blocks : ByteArray := prog_11_method_25_code
def y_N_blocks : MethodName := ⟨"SnapshotFilesModel", "blocks", "()I"⟩
abbrev b_N_change : ByteArray := prog_11_method_28_code
def y_N_change : MethodName := ⟨"SnapshotFilesModel", "change", "(I)V"⟩
abbrev b_N_create : ByteArray := prog_11_method_36_code
def y_N_create : MethodName := ⟨"SnapshotFilesModel", "create", "(I)I"⟩
abbrev b_N_children : ByteArray := prog_11_method_20_code
def y_N_children : MethodName := ⟨"SnapshotFilesModel", "children", "(I)I"⟩
abbrev b_N_depth : ByteArray := prog_11_method_22_code
def y_N_depth : MethodName := ⟨"SnapshotFilesModel", "depth", "(I)I"⟩
abbrev b_N_readFrom : ByteArray := prog_11_method_37_code
def y_N_readFrom : MethodName := ⟨"SnapshotFilesModel", "readFrom", "(I)I"⟩
abbrev b_N_writeTo : ByteArray := prog_11_method_38_code
def y_N_writeTo : MethodName := ⟨"SnapshotFilesModel", "writeTo", "(I)I"⟩
abbrev b_N_grow : ByteArray := prog_11_method_39_code
def y_N_grow : MethodName := ⟨"SnapshotFilesModel", "grow", "(II)V"⟩
abbrev b_N_clunk : ByteArray := prog_11_method_42_code
def y_N_clunk : MethodName := ⟨"SnapshotFilesModel", "clunk", "(I)I"⟩
abbrev b_N_removed : ByteArray := prog_11_method_40_code
def y_N_removed : MethodName := ⟨"SnapshotFilesModel", "removed", "(III)I"⟩
abbrev b_N_copy : ByteArray := prog_11_method_41_code
def y_N_copy : MethodName := ⟨"SnapshotFilesModel", "copy", "(II)V"⟩
abbrev b_N_remove : ByteArray := prog_11_method_43_code
def y_N_remove : MethodName := ⟨"SnapshotFilesModel", "remove", "(I)I"⟩
abbrev b_N_stat : ByteArray := prog_11_method_44_code
def y_N_stat : MethodName := ⟨"SnapshotFilesModel", "stat", "(I)I"⟩
abbrev b_N_wstat : ByteArray := prog_11_method_46_code
def y_N_wstat : MethodName := ⟨"SnapshotFilesModel", "wstat", "(I)I"⟩
abbrev b_N_within : ByteArray := prog_11_method_45_code
def y_N_within : MethodName := ⟨"SnapshotFilesModel", "within", "(III)Z"⟩
abbrev b_N_hangUp : ByteArray := prog_11_method_47_code
def y_N_hangUp : MethodName := ⟨"SnapshotFilesModel", "hangUp", "(I)Z"⟩
abbrev b_N_fid : ByteArray := prog_11_method_48_code
def y_N_fid : MethodName := ⟨"SnapshotFilesModel", "fid", "(II)I"⟩
abbrev b_N_sync : ByteArray := prog_11_method_50_code
def y_N_sync : MethodName := ⟨"SnapshotFilesModel", "sync", "(I)I"⟩
abbrev b_N_copyTree : ByteArray := prog_11_method_49_code
def y_N_copyTree : MethodName := ⟨"SnapshotFilesModel", "copyTree", "(II)V"⟩
abbrev b_N_crash : ByteArray := prog_11_method_52_code
def y_N_crash : MethodName := ⟨"SnapshotFilesModel", "crash", "()V"⟩
abbrev b_N_snapshot : ByteArray := prog_11_method_51_code
def y_N_snapshot : MethodName := ⟨"SnapshotFilesModel", "snapshot", "()I"⟩
abbrev b_N_nodes : ByteArray := prog_11_method_53_code
def y_N_nodes : MethodName := ⟨"SnapshotFilesModel", "nodes", "()I"⟩
abbrev b_L_law : ByteArray := code
def y_L_law : MethodName := ⟨"SnapshotFilesLaw", "law", "([I)Z"⟩
